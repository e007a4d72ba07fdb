section
-- ===== PART A: goes FIRST, ahead of the names: the tables' words, and 'selects' of the private methods out of them =====
/-- a private method of a class that the tables say can be made, by its rows of tables_1 -/
def lw_okq (q : MethodName × Nat) : Prop := (q.1.cls ≠ "java/lang/invoke/MethodHandle" ∧ q.1.cls ≠ "java/lang/invoke/VarHandle") ∧ Cond.instantiable q.1.cls q.2 ∈ tables_1 ∧ Cond.privateMethod q.1 ∈ tables_1 ∧ Cond.instanceMethod q.1 ∈ tables_1
theorem lw_p0 : lw_okq (⟨"LayeredRules$Look", "pick", "(LLayeredRules$World;I)I"⟩, 6) := ⟨⟨by decide +kernel, by decide +kernel⟩, List.mem_of_getElem? (i := 271) (by decide +kernel), List.mem_of_getElem? (i := 495) (by decide +kernel), List.mem_of_getElem? (i := 496) (by decide +kernel)⟩
theorem lw_p1 : lw_okq (⟨"LayeredRules$Look", "typeUnder", "(LLayeredRules$Effect;I)I"⟩, 6) := ⟨⟨by decide +kernel, by decide +kernel⟩, List.mem_of_getElem? (i := 271) (by decide +kernel), List.mem_of_getElem? (i := 510) (by decide +kernel), List.mem_of_getElem? (i := 511) (by decide +kernel)⟩
theorem lw_p2 : lw_okq (⟨"LayeredRules$Look", "marksUnder", "(LLayeredRules$Effect;I)I"⟩, 6) := ⟨⟨by decide +kernel, by decide +kernel⟩, List.mem_of_getElem? (i := 271) (by decide +kernel), List.mem_of_getElem? (i := 514) (by decide +kernel), List.mem_of_getElem? (i := 515) (by decide +kernel)⟩
theorem lw_p3 : lw_okq (⟨"LayeredRules$Look", "perform", "(LLayeredRules$World;LLayeredRules$Effect;)V"⟩, 6) := ⟨⟨by decide +kernel, by decide +kernel⟩, List.mem_of_getElem? (i := 271) (by decide +kernel), List.mem_of_getElem? (i := 525) (by decide +kernel), List.mem_of_getElem? (i := 526) (by decide +kernel)⟩
theorem lw_p4 : lw_okq (⟨"LayeredRules$Look", "changeStrength", "(LLayeredRules$Effect;I)V"⟩, 6) := ⟨⟨by decide +kernel, by decide +kernel⟩, List.mem_of_getElem? (i := 271) (by decide +kernel), List.mem_of_getElem? (i := 529) (by decide +kernel), List.mem_of_getElem? (i := 530) (by decide +kernel)⟩
theorem lw_p5 : lw_okq (⟨"LayeredRules$Look", "record", "(I)V"⟩, 6) := ⟨⟨by decide +kernel, by decide +kernel⟩, List.mem_of_getElem? (i := 271) (by decide +kernel), List.mem_of_getElem? (i := 533) (by decide +kernel), List.mem_of_getElem? (i := 534) (by decide +kernel)⟩
theorem lw_p6 : lw_okq (⟨"LayeredRules$Course", "dyingBits", "()I"⟩, 7) := ⟨⟨by decide +kernel, by decide +kernel⟩, List.mem_of_getElem? (i := 29) (by decide +kernel), List.mem_of_getElem? (i := 555) (by decide +kernel), List.mem_of_getElem? (i := 556) (by decide +kernel)⟩
theorem lw_p7 : lw_okq (⟨"LayeredRules$Course", "setOff", "(II)V"⟩, 7) := ⟨⟨by decide +kernel, by decide +kernel⟩, List.mem_of_getElem? (i := 29) (by decide +kernel), List.mem_of_getElem? (i := 559) (by decide +kernel), List.mem_of_getElem? (i := 560) (by decide +kernel)⟩
theorem lw_p8 : lw_okq (⟨"LayeredRules$Course", "setOffOf", "(III)V"⟩, 7) := ⟨⟨by decide +kernel, by decide +kernel⟩, List.mem_of_getElem? (i := 29) (by decide +kernel), List.mem_of_getElem? (i := 563) (by decide +kernel), List.mem_of_getElem? (i := 564) (by decide +kernel)⟩
theorem lw_p9 : lw_okq (⟨"LayeredRules$Course", "push", "(II)V"⟩, 7) := ⟨⟨by decide +kernel, by decide +kernel⟩, List.mem_of_getElem? (i := 29) (by decide +kernel), List.mem_of_getElem? (i := 568) (by decide +kernel), List.mem_of_getElem? (i := 569) (by decide +kernel)⟩
theorem lw_p10 : lw_okq (⟨"LayeredRules$Course", "bury", "(I)V"⟩, 7) := ⟨⟨by decide +kernel, by decide +kernel⟩, List.mem_of_getElem? (i := 29) (by decide +kernel), List.mem_of_getElem? (i := 572) (by decide +kernel), List.mem_of_getElem? (i := 573) (by decide +kernel)⟩
theorem lw_p11 : lw_okq (⟨"LayeredRules$Wound", "pickRule", "(LLayeredRules$World;LLayeredRules$Look;)I"⟩, 5) := ⟨⟨by decide +kernel, by decide +kernel⟩, List.mem_of_getElem? (i := 302) (by decide +kernel), List.mem_of_getElem? (i := 755) (by decide +kernel), List.mem_of_getElem? (i := 756) (by decide +kernel)⟩
theorem lw_p12 : lw_okq (⟨"LayeredRules$Wound", "meet", "(LLayeredRules$Rule;I)V"⟩, 5) := ⟨⟨by decide +kernel, by decide +kernel⟩, List.mem_of_getElem? (i := 302) (by decide +kernel), List.mem_of_getElem? (i := 761) (by decide +kernel), List.mem_of_getElem? (i := 762) (by decide +kernel)⟩
theorem lw_p13 : lw_okq (⟨"LayeredRules$Course", "spendRules", "()V"⟩, 7) := ⟨⟨by decide +kernel, by decide +kernel⟩, List.mem_of_getElem? (i := 29) (by decide +kernel), List.mem_of_getElem? (i := 766) (by decide +kernel), List.mem_of_getElem? (i := 767) (by decide +kernel)⟩
theorem lw_p14 : lw_okq (⟨"LayeredRules$Course", "act", "(II)V"⟩, 7) := ⟨⟨by decide +kernel, by decide +kernel⟩, List.mem_of_getElem? (i := 29) (by decide +kernel), List.mem_of_getElem? (i := 786) (by decide +kernel), List.mem_of_getElem? (i := 787) (by decide +kernel)⟩
theorem lw_p15 : lw_okq (⟨"LayeredRules", "refuseLoop", "(I)I"⟩, 12) := ⟨⟨by decide +kernel, by decide +kernel⟩, List.mem_of_getElem? (i := 21) (by decide +kernel), List.mem_of_getElem? (i := 799) (by decide +kernel), List.mem_of_getElem? (i := 800) (by decide +kernel)⟩
def lw_privs_1 : List (MethodName × Nat) := [(⟨"LayeredRules$Look", "pick", "(LLayeredRules$World;I)I"⟩, 6), (⟨"LayeredRules$Look", "typeUnder", "(LLayeredRules$Effect;I)I"⟩, 6), (⟨"LayeredRules$Look", "marksUnder", "(LLayeredRules$Effect;I)I"⟩, 6), (⟨"LayeredRules$Look", "perform", "(LLayeredRules$World;LLayeredRules$Effect;)V"⟩, 6), (⟨"LayeredRules$Look", "changeStrength", "(LLayeredRules$Effect;I)V"⟩, 6), (⟨"LayeredRules$Look", "record", "(I)V"⟩, 6), (⟨"LayeredRules$Course", "dyingBits", "()I"⟩, 7), (⟨"LayeredRules$Course", "setOff", "(II)V"⟩, 7), (⟨"LayeredRules$Course", "setOffOf", "(III)V"⟩, 7), (⟨"LayeredRules$Course", "push", "(II)V"⟩, 7), (⟨"LayeredRules$Course", "bury", "(I)V"⟩, 7), (⟨"LayeredRules$Wound", "pickRule", "(LLayeredRules$World;LLayeredRules$Look;)I"⟩, 5), (⟨"LayeredRules$Wound", "meet", "(LLayeredRules$Rule;I)V"⟩, 5), (⟨"LayeredRules$Course", "spendRules", "()V"⟩, 7), (⟨"LayeredRules$Course", "act", "(II)V"⟩, 7), (⟨"LayeredRules", "refuseLoop", "(I)I"⟩, 12)]
theorem lw_r1 : ∀ q ∈ lw_privs_1, lw_okq q := List.forall_mem_cons.mpr ⟨lw_p0, List.forall_mem_cons.mpr ⟨lw_p1, List.forall_mem_cons.mpr ⟨lw_p2, List.forall_mem_cons.mpr ⟨lw_p3, List.forall_mem_cons.mpr ⟨lw_p4, List.forall_mem_cons.mpr ⟨lw_p5, List.forall_mem_cons.mpr ⟨lw_p6, List.forall_mem_cons.mpr ⟨lw_p7, List.forall_mem_cons.mpr ⟨lw_p8, List.forall_mem_cons.mpr ⟨lw_p9, List.forall_mem_cons.mpr ⟨lw_p10, List.forall_mem_cons.mpr ⟨lw_p11, List.forall_mem_cons.mpr ⟨lw_p12, List.forall_mem_cons.mpr ⟨lw_p13, List.forall_mem_cons.mpr ⟨lw_p14, List.forall_mem_cons.mpr ⟨lw_p15, fun _ h => absurd h List.not_mem_nil⟩⟩⟩⟩⟩⟩⟩⟩⟩⟩⟩⟩⟩⟩⟩⟩
theorem lw_p16 : lw_okq (⟨"LayeredRules$Reader", "readPhrase", "(Z)V"⟩, 9) := ⟨⟨by decide +kernel, by decide +kernel⟩, List.mem_of_getElem? (i := 364) (by decide +kernel), List.mem_of_getElem? (i := 854) (by decide +kernel), List.mem_of_getElem? (i := 855) (by decide +kernel)⟩
theorem lw_p17 : lw_okq (⟨"LayeredRules$Reader", "advance", "()V"⟩, 9) := ⟨⟨by decide +kernel, by decide +kernel⟩, List.mem_of_getElem? (i := 364) (by decide +kernel), List.mem_of_getElem? (i := 858) (by decide +kernel), List.mem_of_getElem? (i := 859) (by decide +kernel)⟩
theorem lw_p18 : lw_okq (⟨"LayeredRules$Reader", "byteAt", "(I)I"⟩, 9) := ⟨⟨by decide +kernel, by decide +kernel⟩, List.mem_of_getElem? (i := 364) (by decide +kernel), List.mem_of_getElem? (i := 862) (by decide +kernel), List.mem_of_getElem? (i := 863) (by decide +kernel)⟩
theorem lw_p19 : lw_okq (⟨"LayeredRules$Reader", "scopeOfWord", "()I"⟩, 9) := ⟨⟨by decide +kernel, by decide +kernel⟩, List.mem_of_getElem? (i := 364) (by decide +kernel), List.mem_of_getElem? (i := 870) (by decide +kernel), List.mem_of_getElem? (i := 871) (by decide +kernel)⟩
theorem lw_p20 : lw_okq (⟨"LayeredRules$Reader", "isWord", "(Ljava/lang/String;)Z"⟩, 9) := ⟨⟨by decide +kernel, by decide +kernel⟩, List.mem_of_getElem? (i := 364) (by decide +kernel), List.mem_of_getElem? (i := 883) (by decide +kernel), List.mem_of_getElem? (i := 884) (by decide +kernel)⟩
theorem lw_p21 : lw_okq (⟨"LayeredRules$Reader", "readNumber", "(I)I"⟩, 9) := ⟨⟨by decide +kernel, by decide +kernel⟩, List.mem_of_getElem? (i := 364) (by decide +kernel), List.mem_of_getElem? (i := 936) (by decide +kernel), List.mem_of_getElem? (i := 937) (by decide +kernel)⟩
theorem lw_p22 : lw_okq (⟨"LayeredRules$Reader", "numberHere", "(I)I"⟩, 9) := ⟨⟨by decide +kernel, by decide +kernel⟩, List.mem_of_getElem? (i := 364) (by decide +kernel), List.mem_of_getElem? (i := 940) (by decide +kernel), List.mem_of_getElem? (i := 941) (by decide +kernel)⟩
theorem lw_p23 : lw_okq (⟨"LayeredRules$Reader", "sortOfWord", "()I"⟩, 9) := ⟨⟨by decide +kernel, by decide +kernel⟩, List.mem_of_getElem? (i := 364) (by decide +kernel), List.mem_of_getElem? (i := 944) (by decide +kernel), List.mem_of_getElem? (i := 945) (by decide +kernel)⟩
theorem lw_p24 : lw_okq (⟨"LayeredRules$Reader", "readFirst", "(I)I"⟩, 9) := ⟨⟨by decide +kernel, by decide +kernel⟩, List.mem_of_getElem? (i := 364) (by decide +kernel), List.mem_of_getElem? (i := 957) (by decide +kernel), List.mem_of_getElem? (i := 958) (by decide +kernel)⟩
theorem lw_p25 : lw_okq (⟨"LayeredRules$Reader", "readValue", "()I"⟩, 9) := ⟨⟨by decide +kernel, by decide +kernel⟩, List.mem_of_getElem? (i := 364) (by decide +kernel), List.mem_of_getElem? (i := 961) (by decide +kernel), List.mem_of_getElem? (i := 962) (by decide +kernel)⟩
theorem lw_p26 : lw_okq (⟨"LayeredRules$Sheet", "appendSign", "(C)V"⟩, 3) := ⟨⟨by decide +kernel, by decide +kernel⟩, List.mem_of_getElem? (i := 406) (by decide +kernel), List.mem_of_getElem? (i := 982) (by decide +kernel), List.mem_of_getElem? (i := 983) (by decide +kernel)⟩
theorem lw_p27 : lw_okq (⟨"LayeredRules", "refusePlace", "(II)I"⟩, 12) := ⟨⟨by decide +kernel, by decide +kernel⟩, List.mem_of_getElem? (i := 21) (by decide +kernel), List.mem_of_getElem? (i := 1016) (by decide +kernel), List.mem_of_getElem? (i := 1017) (by decide +kernel)⟩
theorem lw_p28 : lw_okq (⟨"LayeredRulesModel", "comes", "(IIII)V"⟩, 33) := ⟨⟨by decide +kernel, by decide +kernel⟩, List.mem_of_getElem? (i := 1049) (by decide +kernel), List.mem_of_getElem? (i := 1183) (by decide +kernel), List.mem_of_getElem? (i := 1184) (by decide +kernel)⟩
theorem lw_p29 : lw_okq (⟨"LayeredRulesModel", "changed", "(I)I"⟩, 33) := ⟨⟨by decide +kernel, by decide +kernel⟩, List.mem_of_getElem? (i := 1049) (by decide +kernel), List.mem_of_getElem? (i := 1187) (by decide +kernel), List.mem_of_getElem? (i := 1188) (by decide +kernel)⟩
theorem lw_p30 : lw_okq (⟨"LayeredRulesModel", "rounds", "()V"⟩, 33) := ⟨⟨by decide +kernel, by decide +kernel⟩, List.mem_of_getElem? (i := 1049) (by decide +kernel), List.mem_of_getElem? (i := 1191) (by decide +kernel), List.mem_of_getElem? (i := 1192) (by decide +kernel)⟩
theorem lw_p31 : lw_okq (⟨"LayeredRulesModel", "makes", "(I)V"⟩, 33) := ⟨⟨by decide +kernel, by decide +kernel⟩, List.mem_of_getElem? (i := 1049) (by decide +kernel), List.mem_of_getElem? (i := 1195) (by decide +kernel), List.mem_of_getElem? (i := 1196) (by decide +kernel)⟩
def lw_privs_2 : List (MethodName × Nat) := [(⟨"LayeredRules$Reader", "readPhrase", "(Z)V"⟩, 9), (⟨"LayeredRules$Reader", "advance", "()V"⟩, 9), (⟨"LayeredRules$Reader", "byteAt", "(I)I"⟩, 9), (⟨"LayeredRules$Reader", "scopeOfWord", "()I"⟩, 9), (⟨"LayeredRules$Reader", "isWord", "(Ljava/lang/String;)Z"⟩, 9), (⟨"LayeredRules$Reader", "readNumber", "(I)I"⟩, 9), (⟨"LayeredRules$Reader", "numberHere", "(I)I"⟩, 9), (⟨"LayeredRules$Reader", "sortOfWord", "()I"⟩, 9), (⟨"LayeredRules$Reader", "readFirst", "(I)I"⟩, 9), (⟨"LayeredRules$Reader", "readValue", "()I"⟩, 9), (⟨"LayeredRules$Sheet", "appendSign", "(C)V"⟩, 3), (⟨"LayeredRules", "refusePlace", "(II)I"⟩, 12), (⟨"LayeredRulesModel", "comes", "(IIII)V"⟩, 33), (⟨"LayeredRulesModel", "changed", "(I)I"⟩, 33), (⟨"LayeredRulesModel", "rounds", "()V"⟩, 33), (⟨"LayeredRulesModel", "makes", "(I)V"⟩, 33)]
theorem lw_r2 : ∀ q ∈ lw_privs_2, lw_okq q := List.forall_mem_cons.mpr ⟨lw_p16, List.forall_mem_cons.mpr ⟨lw_p17, List.forall_mem_cons.mpr ⟨lw_p18, List.forall_mem_cons.mpr ⟨lw_p19, List.forall_mem_cons.mpr ⟨lw_p20, List.forall_mem_cons.mpr ⟨lw_p21, List.forall_mem_cons.mpr ⟨lw_p22, List.forall_mem_cons.mpr ⟨lw_p23, List.forall_mem_cons.mpr ⟨lw_p24, List.forall_mem_cons.mpr ⟨lw_p25, List.forall_mem_cons.mpr ⟨lw_p26, List.forall_mem_cons.mpr ⟨lw_p27, List.forall_mem_cons.mpr ⟨lw_p28, List.forall_mem_cons.mpr ⟨lw_p29, List.forall_mem_cons.mpr ⟨lw_p30, List.forall_mem_cons.mpr ⟨lw_p31, fun _ h => absurd h List.not_mem_nil⟩⟩⟩⟩⟩⟩⟩⟩⟩⟩⟩⟩⟩⟩⟩⟩
theorem lw_p32 : lw_okq (⟨"LayeredRulesModel", "its", "(II)I"⟩, 33) := ⟨⟨by decide +kernel, by decide +kernel⟩, List.mem_of_getElem? (i := 1049) (by decide +kernel), List.mem_of_getElem? (i := 1199) (by decide +kernel), List.mem_of_getElem? (i := 1200) (by decide +kernel)⟩
theorem lw_p33 : lw_okq (⟨"LayeredRulesModel", "effectIs", "(II)I"⟩, 33) := ⟨⟨by decide +kernel, by decide +kernel⟩, List.mem_of_getElem? (i := 1049) (by decide +kernel), List.mem_of_getElem? (i := 1203) (by decide +kernel), List.mem_of_getElem? (i := 1204) (by decide +kernel)⟩
theorem lw_p34 : lw_okq (⟨"LayeredRulesModel", "doesSomething", "(I)Z"⟩, 33) := ⟨⟨by decide +kernel, by decide +kernel⟩, List.mem_of_getElem? (i := 1049) (by decide +kernel), List.mem_of_getElem? (i := 1210) (by decide +kernel), List.mem_of_getElem? (i := 1211) (by decide +kernel)⟩
theorem lw_p35 : lw_okq (⟨"LayeredRulesModel", "isAlive", "(I)Z"⟩, 33) := ⟨⟨by decide +kernel, by decide +kernel⟩, List.mem_of_getElem? (i := 1049) (by decide +kernel), List.mem_of_getElem? (i := 1214) (by decide +kernel), List.mem_of_getElem? (i := 1215) (by decide +kernel)⟩
theorem lw_p36 : lw_okq (⟨"LayeredRulesModel", "isThing", "(I)Z"⟩, 33) := ⟨⟨by decide +kernel, by decide +kernel⟩, List.mem_of_getElem? (i := 1049) (by decide +kernel), List.mem_of_getElem? (i := 1218) (by decide +kernel), List.mem_of_getElem? (i := 1219) (by decide +kernel)⟩
theorem lw_p37 : lw_okq (⟨"LayeredRulesModel", "nextOf", "(I)I"⟩, 33) := ⟨⟨by decide +kernel, by decide +kernel⟩, List.mem_of_getElem? (i := 1049) (by decide +kernel), List.mem_of_getElem? (i := 1222) (by decide +kernel), List.mem_of_getElem? (i := 1223) (by decide +kernel)⟩
theorem lw_p38 : lw_okq (⟨"LayeredRulesModel", "doesDepend", "(II)Z"⟩, 33) := ⟨⟨by decide +kernel, by decide +kernel⟩, List.mem_of_getElem? (i := 1049) (by decide +kernel), List.mem_of_getElem? (i := 1229) (by decide +kernel), List.mem_of_getElem? (i := 1230) (by decide +kernel)⟩
theorem lw_p39 : lw_okq (⟨"LayeredRulesModel", "does", "([II)V"⟩, 33) := ⟨⟨by decide +kernel, by decide +kernel⟩, List.mem_of_getElem? (i := 1049) (by decide +kernel), List.mem_of_getElem? (i := 1233) (by decide +kernel), List.mem_of_getElem? (i := 1234) (by decide +kernel)⟩
theorem lw_p40 : lw_okq (⟨"LayeredRulesModel", "scopeOf", "([II)I"⟩, 33) := ⟨⟨by decide +kernel, by decide +kernel⟩, List.mem_of_getElem? (i := 1049) (by decide +kernel), List.mem_of_getElem? (i := 1237) (by decide +kernel), List.mem_of_getElem? (i := 1238) (by decide +kernel)⟩
theorem lw_p41 : lw_okq (⟨"LayeredRulesModel", "inScope", "([III)I"⟩, 33) := ⟨⟨by decide +kernel, by decide +kernel⟩, List.mem_of_getElem? (i := 1049) (by decide +kernel), List.mem_of_getElem? (i := 1241) (by decide +kernel), List.mem_of_getElem? (i := 1242) (by decide +kernel)⟩
theorem lw_p42 : lw_okq (⟨"LayeredRulesModel", "setsOff", "(II)V"⟩, 33) := ⟨⟨by decide +kernel, by decide +kernel⟩, List.mem_of_getElem? (i := 1049) (by decide +kernel), List.mem_of_getElem? (i := 1245) (by decide +kernel), List.mem_of_getElem? (i := 1246) (by decide +kernel)⟩
theorem lw_p43 : lw_okq (⟨"LayeredRulesModel", "watcher", "(II)I"⟩, 33) := ⟨⟨by decide +kernel, by decide +kernel⟩, List.mem_of_getElem? (i := 1049) (by decide +kernel), List.mem_of_getElem? (i := 1249) (by decide +kernel), List.mem_of_getElem? (i := 1250) (by decide +kernel)⟩
theorem lw_p44 : lw_okq (⟨"LayeredRulesModel", "isNow", "(II)I"⟩, 33) := ⟨⟨by decide +kernel, by decide +kernel⟩, List.mem_of_getElem? (i := 1049) (by decide +kernel), List.mem_of_getElem? (i := 1261) (by decide +kernel), List.mem_of_getElem? (i := 1262) (by decide +kernel)⟩
theorem lw_p45 : lw_okq (⟨"LayeredRulesModel", "lays", "(IIIIII)V"⟩, 33) := ⟨⟨by decide +kernel, by decide +kernel⟩, List.mem_of_getElem? (i := 1049) (by decide +kernel), List.mem_of_getElem? (i := 1283) (by decide +kernel), List.mem_of_getElem? (i := 1284) (by decide +kernel)⟩
theorem lw_p46 : lw_okq (⟨"LayeredRulesModel", "isEffect", "(I)Z"⟩, 33) := ⟨⟨by decide +kernel, by decide +kernel⟩, List.mem_of_getElem? (i := 1049) (by decide +kernel), List.mem_of_getElem? (i := 1291) (by decide +kernel), List.mem_of_getElem? (i := 1292) (by decide +kernel)⟩
theorem lw_p47 : lw_okq (⟨"LayeredRulesModel", "goes", "(IIII)V"⟩, 33) := ⟨⟨by decide +kernel, by decide +kernel⟩, List.mem_of_getElem? (i := 1049) (by decide +kernel), List.mem_of_getElem? (i := 1303) (by decide +kernel), List.mem_of_getElem? (i := 1304) (by decide +kernel)⟩
def lw_privs_3 : List (MethodName × Nat) := [(⟨"LayeredRulesModel", "its", "(II)I"⟩, 33), (⟨"LayeredRulesModel", "effectIs", "(II)I"⟩, 33), (⟨"LayeredRulesModel", "doesSomething", "(I)Z"⟩, 33), (⟨"LayeredRulesModel", "isAlive", "(I)Z"⟩, 33), (⟨"LayeredRulesModel", "isThing", "(I)Z"⟩, 33), (⟨"LayeredRulesModel", "nextOf", "(I)I"⟩, 33), (⟨"LayeredRulesModel", "doesDepend", "(II)Z"⟩, 33), (⟨"LayeredRulesModel", "does", "([II)V"⟩, 33), (⟨"LayeredRulesModel", "scopeOf", "([II)I"⟩, 33), (⟨"LayeredRulesModel", "inScope", "([III)I"⟩, 33), (⟨"LayeredRulesModel", "setsOff", "(II)V"⟩, 33), (⟨"LayeredRulesModel", "watcher", "(II)I"⟩, 33), (⟨"LayeredRulesModel", "isNow", "(II)I"⟩, 33), (⟨"LayeredRulesModel", "lays", "(IIIIII)V"⟩, 33), (⟨"LayeredRulesModel", "isEffect", "(I)Z"⟩, 33), (⟨"LayeredRulesModel", "goes", "(IIII)V"⟩, 33)]
theorem lw_r3 : ∀ q ∈ lw_privs_3, lw_okq q := List.forall_mem_cons.mpr ⟨lw_p32, List.forall_mem_cons.mpr ⟨lw_p33, List.forall_mem_cons.mpr ⟨lw_p34, List.forall_mem_cons.mpr ⟨lw_p35, List.forall_mem_cons.mpr ⟨lw_p36, List.forall_mem_cons.mpr ⟨lw_p37, List.forall_mem_cons.mpr ⟨lw_p38, List.forall_mem_cons.mpr ⟨lw_p39, List.forall_mem_cons.mpr ⟨lw_p40, List.forall_mem_cons.mpr ⟨lw_p41, List.forall_mem_cons.mpr ⟨lw_p42, List.forall_mem_cons.mpr ⟨lw_p43, List.forall_mem_cons.mpr ⟨lw_p44, List.forall_mem_cons.mpr ⟨lw_p45, List.forall_mem_cons.mpr ⟨lw_p46, List.forall_mem_cons.mpr ⟨lw_p47, fun _ h => absurd h List.not_mem_nil⟩⟩⟩⟩⟩⟩⟩⟩⟩⟩⟩⟩⟩⟩⟩⟩
theorem lw_p48 : lw_okq (⟨"LayeredRulesModel", "isRule", "(I)Z"⟩, 33) := ⟨⟨by decide +kernel, by decide +kernel⟩, List.mem_of_getElem? (i := 1049) (by decide +kernel), List.mem_of_getElem? (i := 1323) (by decide +kernel), List.mem_of_getElem? (i := 1324) (by decide +kernel)⟩
theorem lw_p49 : lw_okq (⟨"LayeredRulesModel", "ruleIs", "(II)I"⟩, 33) := ⟨⟨by decide +kernel, by decide +kernel⟩, List.mem_of_getElem? (i := 1049) (by decide +kernel), List.mem_of_getElem? (i := 1327) (by decide +kernel), List.mem_of_getElem? (i := 1328) (by decide +kernel)⟩
theorem lw_p50 : lw_okq (⟨"LayeredRulesModel", "isWatcher", "(I)Z"⟩, 33) := ⟨⟨by decide +kernel, by decide +kernel⟩, List.mem_of_getElem? (i := 1049) (by decide +kernel), List.mem_of_getElem? (i := 1347) (by decide +kernel), List.mem_of_getElem? (i := 1348) (by decide +kernel)⟩
theorem lw_p51 : lw_okq (⟨"LayeredRulesModel", "leads", "(IIZ)V"⟩, 33) := ⟨⟨by decide +kernel, by decide +kernel⟩, List.mem_of_getElem? (i := 1049) (by decide +kernel), List.mem_of_getElem? (i := 1359) (by decide +kernel), List.mem_of_getElem? (i := 1360) (by decide +kernel)⟩
theorem lw_p52 : lw_okq (⟨"LayeredRulesModel", "ruleFor", "()I"⟩, 33) := ⟨⟨by decide +kernel, by decide +kernel⟩, List.mem_of_getElem? (i := 1049) (by decide +kernel), List.mem_of_getElem? (i := 1363) (by decide +kernel), List.mem_of_getElem? (i := 1364) (by decide +kernel)⟩
theorem lw_p53 : lw_okq (⟨"LayeredRulesModel", "begins", "()V"⟩, 33) := ⟨⟨by decide +kernel, by decide +kernel⟩, List.mem_of_getElem? (i := 1049) (by decide +kernel), List.mem_of_getElem? (i := 1371) (by decide +kernel), List.mem_of_getElem? (i := 1372) (by decide +kernel)⟩
theorem lw_p54 : lw_okq (⟨"LayeredRulesModel", "hurts", "(II)V"⟩, 33) := ⟨⟨by decide +kernel, by decide +kernel⟩, List.mem_of_getElem? (i := 1049) (by decide +kernel), List.mem_of_getElem? (i := 1378) (by decide +kernel), List.mem_of_getElem? (i := 1379) (by decide +kernel)⟩
theorem lw_p55 : lw_okq (⟨"LayeredRulesModel", "wounds", "(II)V"⟩, 33) := ⟨⟨by decide +kernel, by decide +kernel⟩, List.mem_of_getElem? (i := 1049) (by decide +kernel), List.mem_of_getElem? (i := 1382) (by decide +kernel), List.mem_of_getElem? (i := 1383) (by decide +kernel)⟩
theorem lw_p56 : lw_okq (⟨"LayeredRulesModel", "goesThrough", "()I"⟩, 33) := ⟨⟨by decide +kernel, by decide +kernel⟩, List.mem_of_getElem? (i := 1049) (by decide +kernel), List.mem_of_getElem? (i := 1386) (by decide +kernel), List.mem_of_getElem? (i := 1387) (by decide +kernel)⟩
theorem lw_p57 : lw_okq (⟨"LayeredRulesModel", "acts", "(II)V"⟩, 33) := ⟨⟨by decide +kernel, by decide +kernel⟩, List.mem_of_getElem? (i := 1049) (by decide +kernel), List.mem_of_getElem? (i := 1390) (by decide +kernel), List.mem_of_getElem? (i := 1391) (by decide +kernel)⟩
theorem lw_p58 : lw_okq (⟨"LayeredRulesModel", "isText", "()Z"⟩, 33) := ⟨⟨by decide +kernel, by decide +kernel⟩, List.mem_of_getElem? (i := 1049) (by decide +kernel), List.mem_of_getElem? (i := 1414) (by decide +kernel), List.mem_of_getElem? (i := 1415) (by decide +kernel)⟩
theorem lw_p59 : lw_okq (⟨"LayeredRulesModel", "goesOn", "()V"⟩, 33) := ⟨⟨by decide +kernel, by decide +kernel⟩, List.mem_of_getElem? (i := 1049) (by decide +kernel), List.mem_of_getElem? (i := 1418) (by decide +kernel), List.mem_of_getElem? (i := 1419) (by decide +kernel)⟩
theorem lw_p60 : lw_okq (⟨"LayeredRulesModel", "isAt", "(II)Z"⟩, 33) := ⟨⟨by decide +kernel, by decide +kernel⟩, List.mem_of_getElem? (i := 1049) (by decide +kernel), List.mem_of_getElem? (i := 1422) (by decide +kernel), List.mem_of_getElem? (i := 1423) (by decide +kernel)⟩
theorem lw_p61 : lw_okq (⟨"LayeredRulesModel", "isPhrase", "()Z"⟩, 33) := ⟨⟨by decide +kernel, by decide +kernel⟩, List.mem_of_getElem? (i := 1049) (by decide +kernel), List.mem_of_getElem? (i := 1426) (by decide +kernel), List.mem_of_getElem? (i := 1427) (by decide +kernel)⟩
theorem lw_p62 : lw_okq (⟨"LayeredRulesModel", "wordOf", "([Ljava/lang/String;)I"⟩, 33) := ⟨⟨by decide +kernel, by decide +kernel⟩, List.mem_of_getElem? (i := 1049) (by decide +kernel), List.mem_of_getElem? (i := 1430) (by decide +kernel), List.mem_of_getElem? (i := 1431) (by decide +kernel)⟩
theorem lw_p63 : lw_okq (⟨"LayeredRulesModel", "isWord", "(Ljava/lang/String;)Z"⟩, 33) := ⟨⟨by decide +kernel, by decide +kernel⟩, List.mem_of_getElem? (i := 1049) (by decide +kernel), List.mem_of_getElem? (i := 1434) (by decide +kernel), List.mem_of_getElem? (i := 1435) (by decide +kernel)⟩
def lw_privs_4 : List (MethodName × Nat) := [(⟨"LayeredRulesModel", "isRule", "(I)Z"⟩, 33), (⟨"LayeredRulesModel", "ruleIs", "(II)I"⟩, 33), (⟨"LayeredRulesModel", "isWatcher", "(I)Z"⟩, 33), (⟨"LayeredRulesModel", "leads", "(IIZ)V"⟩, 33), (⟨"LayeredRulesModel", "ruleFor", "()I"⟩, 33), (⟨"LayeredRulesModel", "begins", "()V"⟩, 33), (⟨"LayeredRulesModel", "hurts", "(II)V"⟩, 33), (⟨"LayeredRulesModel", "wounds", "(II)V"⟩, 33), (⟨"LayeredRulesModel", "goesThrough", "()I"⟩, 33), (⟨"LayeredRulesModel", "acts", "(II)V"⟩, 33), (⟨"LayeredRulesModel", "isText", "()Z"⟩, 33), (⟨"LayeredRulesModel", "goesOn", "()V"⟩, 33), (⟨"LayeredRulesModel", "isAt", "(II)Z"⟩, 33), (⟨"LayeredRulesModel", "isPhrase", "()Z"⟩, 33), (⟨"LayeredRulesModel", "wordOf", "([Ljava/lang/String;)I"⟩, 33), (⟨"LayeredRulesModel", "isWord", "(Ljava/lang/String;)Z"⟩, 33)]
theorem lw_r4 : ∀ q ∈ lw_privs_4, lw_okq q := List.forall_mem_cons.mpr ⟨lw_p48, List.forall_mem_cons.mpr ⟨lw_p49, List.forall_mem_cons.mpr ⟨lw_p50, List.forall_mem_cons.mpr ⟨lw_p51, List.forall_mem_cons.mpr ⟨lw_p52, List.forall_mem_cons.mpr ⟨lw_p53, List.forall_mem_cons.mpr ⟨lw_p54, List.forall_mem_cons.mpr ⟨lw_p55, List.forall_mem_cons.mpr ⟨lw_p56, List.forall_mem_cons.mpr ⟨lw_p57, List.forall_mem_cons.mpr ⟨lw_p58, List.forall_mem_cons.mpr ⟨lw_p59, List.forall_mem_cons.mpr ⟨lw_p60, List.forall_mem_cons.mpr ⟨lw_p61, List.forall_mem_cons.mpr ⟨lw_p62, List.forall_mem_cons.mpr ⟨lw_p63, fun _ h => absurd h List.not_mem_nil⟩⟩⟩⟩⟩⟩⟩⟩⟩⟩⟩⟩⟩⟩⟩⟩
theorem lw_p64 : lw_okq (⟨"LayeredRulesModel", "isNumber", "(II)Z"⟩, 33) := ⟨⟨by decide +kernel, by decide +kernel⟩, List.mem_of_getElem? (i := 1049) (by decide +kernel), List.mem_of_getElem? (i := 1440) (by decide +kernel), List.mem_of_getElem? (i := 1441) (by decide +kernel)⟩
theorem lw_p65 : lw_okq (⟨"LayeredRulesModel", "isValue", "(I)Z"⟩, 33) := ⟨⟨by decide +kernel, by decide +kernel⟩, List.mem_of_getElem? (i := 1049) (by decide +kernel), List.mem_of_getElem? (i := 1444) (by decide +kernel), List.mem_of_getElem? (i := 1445) (by decide +kernel)⟩
theorem lw_p66 : lw_okq (⟨"LayeredRulesModel", "saysWord", "(ILjava/lang/String;)V"⟩, 33) := ⟨⟨by decide +kernel, by decide +kernel⟩, List.mem_of_getElem? (i := 1049) (by decide +kernel), List.mem_of_getElem? (i := 1455) (by decide +kernel), List.mem_of_getElem? (i := 1456) (by decide +kernel)⟩
theorem lw_p67 : lw_okq (⟨"LayeredRulesModel", "says", "(II)V"⟩, 33) := ⟨⟨by decide +kernel, by decide +kernel⟩, List.mem_of_getElem? (i := 1049) (by decide +kernel), List.mem_of_getElem? (i := 1459) (by decide +kernel), List.mem_of_getElem? (i := 1460) (by decide +kernel)⟩
theorem lw_p68 : lw_okq (⟨"LayeredRulesModel", "saysNumber", "(II)V"⟩, 33) := ⟨⟨by decide +kernel, by decide +kernel⟩, List.mem_of_getElem? (i := 1049) (by decide +kernel), List.mem_of_getElem? (i := 1463) (by decide +kernel), List.mem_of_getElem? (i := 1464) (by decide +kernel)⟩
theorem lw_p69 : lw_okq (⟨"LayeredRulesModel", "draw", "()I"⟩, 33) := ⟨⟨by decide +kernel, by decide +kernel⟩, List.mem_of_getElem? (i := 1049) (by decide +kernel), List.mem_of_getElem? (i := 1475) (by decide +kernel), List.mem_of_getElem? (i := 1476) (by decide +kernel)⟩
theorem lw_p70 : lw_okq (⟨"LayeredRulesModel", "wrongAt", "(II)I"⟩, 33) := ⟨⟨by decide +kernel, by decide +kernel⟩, List.mem_of_getElem? (i := 1049) (by decide +kernel), List.mem_of_getElem? (i := 1488) (by decide +kernel), List.mem_of_getElem? (i := 1489) (by decide +kernel)⟩
def lw_privs_5 : List (MethodName × Nat) := [(⟨"LayeredRulesModel", "isNumber", "(II)Z"⟩, 33), (⟨"LayeredRulesModel", "isValue", "(I)Z"⟩, 33), (⟨"LayeredRulesModel", "saysWord", "(ILjava/lang/String;)V"⟩, 33), (⟨"LayeredRulesModel", "says", "(II)V"⟩, 33), (⟨"LayeredRulesModel", "saysNumber", "(II)V"⟩, 33), (⟨"LayeredRulesModel", "draw", "()I"⟩, 33), (⟨"LayeredRulesModel", "wrongAt", "(II)I"⟩, 33)]
theorem lw_r5 : ∀ q ∈ lw_privs_5, lw_okq q := List.forall_mem_cons.mpr ⟨lw_p64, List.forall_mem_cons.mpr ⟨lw_p65, List.forall_mem_cons.mpr ⟨lw_p66, List.forall_mem_cons.mpr ⟨lw_p67, List.forall_mem_cons.mpr ⟨lw_p68, List.forall_mem_cons.mpr ⟨lw_p69, List.forall_mem_cons.mpr ⟨lw_p70, fun _ h => absurd h List.not_mem_nil⟩⟩⟩⟩⟩⟩⟩
def lw_privs : List (MethodName × Nat) := lw_privs_1 ++ (lw_privs_2 ++ (lw_privs_3 ++ (lw_privs_4 ++ (lw_privs_5))))
def lw_tbl : List Cond := k2_sels lw_privs ++ tables_1
theorem lw_privs_ok : ∀ q ∈ lw_privs, lw_okq q := by
  show ∀ q ∈ lw_privs_1 ++ (lw_privs_2 ++ (lw_privs_3 ++ (lw_privs_4 ++ (lw_privs_5)))), lw_okq q
  exact List.forall_mem_append.mpr ⟨lw_r1, List.forall_mem_append.mpr ⟨lw_r2, List.forall_mem_append.mpr ⟨lw_r3, List.forall_mem_append.mpr ⟨lw_r4, lw_r5⟩⟩⟩⟩
end
section
def RX0 : String := "LayeredRules$Course"
def TX0 : u_T := fun k => match k with
  | 0 => ("LayeredRules$Course", "w", "LLayeredRules$World;", true)
  | 1 => ("LayeredRules$Course", "look", "LLayeredRules$Look;", true)
  | 2 => ("LayeredRules$Course", "wound", "LLayeredRules$Wound;", true)
  | 3 => ("LayeredRules$Course", "stackWatcher", "[I", true)
  | 4 => ("LayeredRules$Course", "stackThing", "[I", true)
  | 5 => ("LayeredRules$Course", "top", "I", false)
  | _ => ("LayeredRules$Course", "doneBy", "[I", true)
def tyX0 : Nat → FieldType := fun k => match k with
  | 0 => .object "LayeredRules$World"
  | 1 => .object "LayeredRules$Look"
  | 2 => .object "LayeredRules$Wound"
  | 3 => .array .int
  | 4 => .array .int
  | 5 => .int
  | _ => .array .int
theorem nmX0 : ∀ a, a < 7 → ∀ b, b < 7 → a ≠ b → (TX0 a).2.1 ≠ (TX0 b).2.1 := by decide +kernel
theorem tyX0_ok : ∀ k, k < 7 → parseFieldDescriptor (TX0 k).2.2.1 = some (tyX0 k) := by decide +kernel
abbrev cX0_init : ByteArray := prog_2_method_1_code
def yX0_init : MethodName := ⟨RX0, "<init>", "()V"⟩
abbrev cX0_begin : ByteArray := prog_2_method_2_code
def yX0_begin : MethodName := ⟨RX0, "begin", "()V"⟩
abbrev cX0_settle : ByteArray := prog_2_method_3_code
def yX0_settle : MethodName := ⟨RX0, "settle", "(Z)V"⟩
abbrev cX0_dyingBits : ByteArray := prog_2_method_4_code
def yX0_dyingBits : MethodName := ⟨RX0, "dyingBits", "()I"⟩
abbrev cX0_bury : ByteArray := prog_2_method_5_code
def yX0_bury : MethodName := ⟨RX0, "bury", "(I)V"⟩
abbrev cX0_setOffByTurn : ByteArray := prog_2_method_6_code
def yX0_setOffByTurn : MethodName := ⟨RX0, "setOffByTurn", "()V"⟩
abbrev cX0_setOff : ByteArray := prog_2_method_7_code
def yX0_setOff : MethodName := ⟨RX0, "setOff", "(II)V"⟩
abbrev cX0_setOffOf : ByteArray := prog_2_method_8_code
def yX0_setOffOf : MethodName := ⟨RX0, "setOffOf", "(III)V"⟩
abbrev cX0_push : ByteArray := prog_2_method_9_code
def yX0_push : MethodName := ⟨RX0, "push", "(II)V"⟩
abbrev cX0_strike : ByteArray := prog_2_method_10_code
def yX0_strike : MethodName := ⟨RX0, "strike", "(II)V"⟩
abbrev cX0_spendRules : ByteArray := prog_2_method_11_code
def yX0_spendRules : MethodName := ⟨RX0, "spendRules", "()V"⟩
abbrev cX0_finish : ByteArray := prog_2_method_12_code
def yX0_finish : MethodName := ⟨RX0, "finish", "()I"⟩
abbrev cX0_act : ByteArray := prog_2_method_13_code
def yX0_act : MethodName := ⟨RX0, "act", "(II)V"⟩
def RX1 : String := "LayeredRules$Effect"
def TX1 : u_T := fun k => match k with
  | 0 => ("LayeredRules$Effect", "source", "I", false)
  | 1 => ("LayeredRules$Effect", "sort", "I", false)
  | 2 => ("LayeredRules$Effect", "how", "I", false)
  | 3 => ("LayeredRules$Effect", "x", "I", false)
  | 4 => ("LayeredRules$Effect", "v", "I", false)
  | 5 => ("LayeredRules$Effect", "u", "I", false)
  | _ => ("LayeredRules$Effect", "turns", "I", false)
def tyX1 : Nat → FieldType := fun k => match k with
  | 0 => .int
  | 1 => .int
  | 2 => .int
  | 3 => .int
  | 4 => .int
  | 5 => .int
  | _ => .int
theorem nmX1 : ∀ a, a < 7 → ∀ b, b < 7 → a ≠ b → (TX1 a).2.1 ≠ (TX1 b).2.1 := by decide +kernel
theorem tyX1_ok : ∀ k, k < 7 → parseFieldDescriptor (TX1 k).2.2.1 = some (tyX1 k) := by decide +kernel
abbrev cX1_init : ByteArray := prog_3_method_1_code
def yX1_init : MethodName := ⟨RX1, "<init>", "()V"⟩
abbrev cX1_become : ByteArray := prog_3_method_2_code
def yX1_become : MethodName := ⟨RX1, "become", "(IIIII)V"⟩
abbrev cX1_layer : ByteArray := prog_3_method_3_code
def yX1_layer : MethodName := ⟨RX1, "layer", "()I"⟩
abbrev cX1_copyFrom : ByteArray := prog_3_method_4_code
def yX1_copyFrom : MethodName := ⟨RX1, "copyFrom", "(LLayeredRules$Effect;)V"⟩
def RX2 : String := "LayeredRules$Look"
def TX2 : u_T := fun k => match k with
  | 0 => ("LayeredRules$Look", "type", "[I", true)
  | 1 => ("LayeredRules$Look", "marks", "[I", true)
  | 2 => ("LayeredRules$Look", "force", "[I", true)
  | 3 => ("LayeredRules$Look", "guard", "[I", true)
  | 4 => ("LayeredRules$Look", "done", "[I", true)
  | _ => ("LayeredRules$Look", "doneCount", "I", false)
def tyX2 : Nat → FieldType := fun k => match k with
  | 0 => .array .int
  | 1 => .array .int
  | 2 => .array .int
  | 3 => .array .int
  | 4 => .array .int
  | _ => .int
theorem nmX2 : ∀ a, a < 6 → ∀ b, b < 6 → a ≠ b → (TX2 a).2.1 ≠ (TX2 b).2.1 := by decide +kernel
theorem tyX2_ok : ∀ k, k < 6 → parseFieldDescriptor (TX2 k).2.2.1 = some (tyX2 k) := by decide +kernel
abbrev cX2_init : ByteArray := prog_4_method_1_code
def yX2_init : MethodName := ⟨RX2, "<init>", "()V"⟩
abbrev cX2_make : ByteArray := prog_4_method_2_code
def yX2_make : MethodName := ⟨RX2, "make", "(LLayeredRules$World;I)V"⟩
abbrev cX2_record : ByteArray := prog_4_method_3_code
def yX2_record : MethodName := ⟨RX2, "record", "(I)V"⟩
abbrev cX2_pick : ByteArray := prog_4_method_4_code
def yX2_pick : MethodName := ⟨RX2, "pick", "(LLayeredRules$World;I)I"⟩
abbrev cX2_needs : ByteArray := prog_4_method_5_code
def yX2_needs : MethodName := ⟨RX2, "needs", "(LLayeredRules$World;LLayeredRules$Effect;LLayeredRules$Effect;)Z"⟩
abbrev cX2_typeUnder : ByteArray := prog_4_method_6_code
def yX2_typeUnder : MethodName := ⟨RX2, "typeUnder", "(LLayeredRules$Effect;I)I"⟩
abbrev cX2_marksUnder : ByteArray := prog_4_method_7_code
def yX2_marksUnder : MethodName := ⟨RX2, "marksUnder", "(LLayeredRules$Effect;I)I"⟩
abbrev cX2_perform : ByteArray := prog_4_method_8_code
def yX2_perform : MethodName := ⟨RX2, "perform", "(LLayeredRules$World;LLayeredRules$Effect;)V"⟩
abbrev cX2_changeStrength : ByteArray := prog_4_method_9_code
def yX2_changeStrength : MethodName := ⟨RX2, "changeStrength", "(LLayeredRules$Effect;I)V"⟩
abbrev cX2_holds : ByteArray := prog_4_method_10_code
def yX2_holds : MethodName := ⟨RX2, "holds", "(LLayeredRules$World;III)Z"⟩
abbrev cX2_fits : ByteArray := prog_4_method_11_code
def yX2_fits : MethodName := ⟨RX2, "fits", "(LLayeredRules$Thing;IIIII)Z"⟩
abbrev cX2_forceOf : ByteArray := prog_4_method_12_code
def yX2_forceOf : MethodName := ⟨RX2, "forceOf", "(LLayeredRules$World;I)I"⟩
abbrev cX2_remember : ByteArray := prog_4_method_13_code
def yX2_remember : MethodName := ⟨RX2, "remember", "(LLayeredRules$Thing;I)V"⟩
def RX3 : String := "LayeredRules$Reader"
def TX3 : u_T := fun k => match k with
  | 0 => ("LayeredRules$Reader", "tape", "[B", true)
  | 1 => ("LayeredRules$Reader", "length", "I", false)
  | 2 => ("LayeredRules$Reader", "place", "I", false)
  | 3 => ("LayeredRules$Reader", "kind", "I", false)
  | 4 => ("LayeredRules$Reader", "start", "I", false)
  | 5 => ("LayeredRules$Reader", "value", "I", false)
  | 6 => ("LayeredRules$Reader", "phrases", "[LLayeredRules$Effect;", true)
  | 7 => ("LayeredRules$Reader", "phraseCount", "I", false)
  | _ => ("LayeredRules$Reader", "fault", "I", false)
def tyX3 : Nat → FieldType := fun k => match k with
  | 0 => .array .byte
  | 1 => .int
  | 2 => .int
  | 3 => .int
  | 4 => .int
  | 5 => .int
  | 6 => .array (.object "LayeredRules$Effect")
  | 7 => .int
  | _ => .int
theorem nmX3 : ∀ a, a < 9 → ∀ b, b < 9 → a ≠ b → (TX3 a).2.1 ≠ (TX3 b).2.1 := by decide +kernel
theorem tyX3_ok : ∀ k, k < 9 → parseFieldDescriptor (TX3 k).2.2.1 = some (tyX3 k) := by decide +kernel
abbrev cX3_init : ByteArray := prog_5_method_1_code
def yX3_init : MethodName := ⟨RX3, "<init>", "()V"⟩
abbrev cX3_append : ByteArray := prog_5_method_2_code
def yX3_append : MethodName := ⟨RX3, "append", "(B)V"⟩
abbrev cX3_readAll : ByteArray := prog_5_method_3_code
def yX3_readAll : MethodName := ⟨RX3, "readAll", "(I)V"⟩
abbrev cX3_readPhrase : ByteArray := prog_5_method_4_code
def yX3_readPhrase : MethodName := ⟨RX3, "readPhrase", "(Z)V"⟩
abbrev cX3_readFirst : ByteArray := prog_5_method_5_code
def yX3_readFirst : MethodName := ⟨RX3, "readFirst", "(I)I"⟩
abbrev cX3_readNumber : ByteArray := prog_5_method_6_code
def yX3_readNumber : MethodName := ⟨RX3, "readNumber", "(I)I"⟩
abbrev cX3_readValue : ByteArray := prog_5_method_7_code
def yX3_readValue : MethodName := ⟨RX3, "readValue", "()I"⟩
abbrev cX3_numberHere : ByteArray := prog_5_method_8_code
def yX3_numberHere : MethodName := ⟨RX3, "numberHere", "(I)I"⟩
abbrev cX3_scopeOfWord : ByteArray := prog_5_method_9_code
def yX3_scopeOfWord : MethodName := ⟨RX3, "scopeOfWord", "()I"⟩
abbrev cX3_sortOfWord : ByteArray := prog_5_method_10_code
def yX3_sortOfWord : MethodName := ⟨RX3, "sortOfWord", "()I"⟩
abbrev cX3_isWord : ByteArray := prog_5_method_11_code
def yX3_isWord : MethodName := ⟨RX3, "isWord", "(Ljava/lang/String;)Z"⟩
abbrev cX3_byteAt : ByteArray := prog_5_method_12_code
def yX3_byteAt : MethodName := ⟨RX3, "byteAt", "(I)I"⟩
abbrev cX3_advance : ByteArray := prog_5_method_13_code
def yX3_advance : MethodName := ⟨RX3, "advance", "()V"⟩
abbrev cX3_kindOf : ByteArray := prog_5_method_14_code
def yX3_kindOf : MethodName := ⟨RX3, "kindOf", "(I)I"⟩
def RX4 : String := "LayeredRules$Rule"
def TX4 : u_T := fun k => match k with
  | 0 => ("LayeredRules$Rule", "sort", "I", false)
  | 1 => ("LayeredRules$Rule", "how", "I", false)
  | 2 => ("LayeredRules$Rule", "x", "I", false)
  | _ => ("LayeredRules$Rule", "v", "I", false)
def tyX4 : Nat → FieldType := fun k => match k with
  | 0 => .int
  | 1 => .int
  | 2 => .int
  | _ => .int
theorem nmX4 : ∀ a, a < 4 → ∀ b, b < 4 → a ≠ b → (TX4 a).2.1 ≠ (TX4 b).2.1 := by decide +kernel
theorem tyX4_ok : ∀ k, k < 4 → parseFieldDescriptor (TX4 k).2.2.1 = some (tyX4 k) := by decide +kernel
abbrev cX4_init : ByteArray := prog_6_method_1_code
def yX4_init : MethodName := ⟨RX4, "<init>", "()V"⟩
abbrev cX4_become : ByteArray := prog_6_method_2_code
def yX4_become : MethodName := ⟨RX4, "become", "(IIII)V"⟩
abbrev cX4_copyFrom : ByteArray := prog_6_method_3_code
def yX4_copyFrom : MethodName := ⟨RX4, "copyFrom", "(LLayeredRules$Rule;)V"⟩
def RX5 : String := "LayeredRules$Sheet"
def TX5 : u_T := fun k => match k with
  | 0 => ("LayeredRules$Sheet", "sort", "I", false)
  | 1 => ("LayeredRules$Sheet", "length", "I", false)
  | _ => ("LayeredRules$Sheet", "numbers", "[I", true)
def tyX5 : Nat → FieldType := fun k => match k with
  | 0 => .int
  | 1 => .int
  | _ => .array .int
theorem nmX5 : ∀ a, a < 3 → ∀ b, b < 3 → a ≠ b → (TX5 a).2.1 ≠ (TX5 b).2.1 := by decide +kernel
theorem tyX5_ok : ∀ k, k < 3 → parseFieldDescriptor (TX5 k).2.2.1 = some (tyX5 k) := by decide +kernel
abbrev cX5_init : ByteArray := prog_7_method_1_code
def yX5_init : MethodName := ⟨RX5, "<init>", "()V"⟩
abbrev cX5_become : ByteArray := prog_7_method_2_code
def yX5_become : MethodName := ⟨RX5, "become", "(II)V"⟩
abbrev cX5_spans : ByteArray := prog_7_method_3_code
def yX5_spans : MethodName := ⟨RX5, "spans", "(II)Z"⟩
abbrev cX5_appendText : ByteArray := prog_7_method_4_code
def yX5_appendText : MethodName := ⟨RX5, "appendText", "(Ljava/lang/String;)V"⟩
abbrev cX5_appendValue : ByteArray := prog_7_method_5_code
def yX5_appendValue : MethodName := ⟨RX5, "appendValue", "(I)V"⟩
abbrev cX5_appendSign : ByteArray := prog_7_method_6_code
def yX5_appendSign : MethodName := ⟨RX5, "appendSign", "(C)V"⟩
def RX6 : String := "LayeredRules$Thing"
def TX6 : u_T := fun k => match k with
  | 0 => ("LayeredRules$Thing", "owner", "I", false)
  | 1 => ("LayeredRules$Thing", "type", "I", false)
  | 2 => ("LayeredRules$Thing", "force", "I", false)
  | 3 => ("LayeredRules$Thing", "guard", "I", false)
  | 4 => ("LayeredRules$Thing", "wounds", "I", false)
  | 5 => ("LayeredRules$Thing", "alive", "Z", false)
  | 6 => ("LayeredRules$Thing", "lastType", "I", false)
  | 7 => ("LayeredRules$Thing", "lastMarks", "I", false)
  | 8 => ("LayeredRules$Thing", "lastForce", "I", false)
  | _ => ("LayeredRules$Thing", "lastGuard", "I", false)
def tyX6 : Nat → FieldType := fun k => match k with
  | 0 => .int
  | 1 => .int
  | 2 => .int
  | 3 => .int
  | 4 => .int
  | 5 => .boolean
  | 6 => .int
  | 7 => .int
  | 8 => .int
  | _ => .int
theorem nmX6 : ∀ a, a < 10 → ∀ b, b < 10 → a ≠ b → (TX6 a).2.1 ≠ (TX6 b).2.1 := by decide +kernel
theorem tyX6_ok : ∀ k, k < 10 → parseFieldDescriptor (TX6 k).2.2.1 = some (tyX6 k) := by decide +kernel
abbrev cX6_init : ByteArray := prog_8_method_1_code
def yX6_init : MethodName := ⟨RX6, "<init>", "()V"⟩
abbrev cX6_become : ByteArray := prog_8_method_2_code
def yX6_become : MethodName := ⟨RX6, "become", "(IIII)V"⟩
abbrev cX6_change : ByteArray := prog_8_method_3_code
def yX6_change : MethodName := ⟨RX6, "change", "(II)I"⟩
abbrev cX6_heal : ByteArray := prog_8_method_4_code
def yX6_heal : MethodName := ⟨RX6, "heal", "(I)V"⟩
abbrev cX6_raise : ByteArray := prog_8_method_5_code
def yX6_raise : MethodName := ⟨RX6, "raise", "(I)V"⟩
abbrev cX6_copyFrom : ByteArray := prog_8_method_6_code
def yX6_copyFrom : MethodName := ⟨RX6, "copyFrom", "(LLayeredRules$Thing;)V"⟩
def RX7 : String := "LayeredRules$Watcher"
def TX7 : u_T := fun k => match k with
  | 0 => ("LayeredRules$Watcher", "owner", "I", false)
  | 1 => ("LayeredRules$Watcher", "on", "I", false)
  | 2 => ("LayeredRules$Watcher", "act", "I", false)
  | 3 => ("LayeredRules$Watcher", "to", "I", false)
  | 4 => ("LayeredRules$Watcher", "v", "I", false)
  | 5 => ("LayeredRules$Watcher", "how", "I", false)
  | _ => ("LayeredRules$Watcher", "x", "I", false)
def tyX7 : Nat → FieldType := fun k => match k with
  | 0 => .int
  | 1 => .int
  | 2 => .int
  | 3 => .int
  | 4 => .int
  | 5 => .int
  | _ => .int
theorem nmX7 : ∀ a, a < 7 → ∀ b, b < 7 → a ≠ b → (TX7 a).2.1 ≠ (TX7 b).2.1 := by decide +kernel
theorem tyX7_ok : ∀ k, k < 7 → parseFieldDescriptor (TX7 k).2.2.1 = some (tyX7 k) := by decide +kernel
abbrev cX7_init : ByteArray := prog_9_method_1_code
def yX7_init : MethodName := ⟨RX7, "<init>", "()V"⟩
abbrev cX7_become : ByteArray := prog_9_method_2_code
def yX7_become : MethodName := ⟨RX7, "become", "(IIIII)V"⟩
abbrev cX7_copyFrom : ByteArray := prog_9_method_3_code
def yX7_copyFrom : MethodName := ⟨RX7, "copyFrom", "(LLayeredRules$Watcher;)V"⟩
def RX8 : String := "LayeredRules$World"
def TX8 : u_T := fun k => match k with
  | 0 => ("LayeredRules$World", "things", "[LLayeredRules$Thing;", true)
  | 1 => ("LayeredRules$World", "thingCount", "I", false)
  | 2 => ("LayeredRules$World", "effects", "[LLayeredRules$Effect;", true)
  | 3 => ("LayeredRules$World", "effectCount", "I", false)
  | 4 => ("LayeredRules$World", "rules", "[LLayeredRules$Rule;", true)
  | 5 => ("LayeredRules$World", "ruleCount", "I", false)
  | 6 => ("LayeredRules$World", "watchers", "[LLayeredRules$Watcher;", true)
  | 7 => ("LayeredRules$World", "watcherCount", "I", false)
  | 8 => ("LayeredRules$World", "choices", "[I", true)
  | 9 => ("LayeredRules$World", "turn", "I", false)
  | _ => ("LayeredRules$World", "z", "I", false)
def tyX8 : Nat → FieldType := fun k => match k with
  | 0 => .array (.object "LayeredRules$Thing")
  | 1 => .int
  | 2 => .array (.object "LayeredRules$Effect")
  | 3 => .int
  | 4 => .array (.object "LayeredRules$Rule")
  | 5 => .int
  | 6 => .array (.object "LayeredRules$Watcher")
  | 7 => .int
  | 8 => .array .int
  | 9 => .int
  | _ => .int
theorem nmX8 : ∀ a, a < 11 → ∀ b, b < 11 → a ≠ b → (TX8 a).2.1 ≠ (TX8 b).2.1 := by decide +kernel
theorem tyX8_ok : ∀ k, k < 11 → parseFieldDescriptor (TX8 k).2.2.1 = some (tyX8 k) := by decide +kernel
abbrev cX8_init : ByteArray := prog_10_method_1_code
def yX8_init : MethodName := ⟨RX8, "<init>", "()V"⟩
abbrev cX8_empty : ByteArray := prog_10_method_2_code
def yX8_empty : MethodName := ⟨RX8, "empty", "()V"⟩
abbrev cX8_copyFrom : ByteArray := prog_10_method_3_code
def yX8_copyFrom : MethodName := ⟨RX8, "copyFrom", "(LLayeredRules$World;)V"⟩
abbrev cX8_hasThing : ByteArray := prog_10_method_4_code
def yX8_hasThing : MethodName := ⟨RX8, "hasThing", "(I)Z"⟩
abbrev cX8_hasEffect : ByteArray := prog_10_method_5_code
def yX8_hasEffect : MethodName := ⟨RX8, "hasEffect", "(I)Z"⟩
abbrev cX8_hasRule : ByteArray := prog_10_method_6_code
def yX8_hasRule : MethodName := ⟨RX8, "hasRule", "(I)Z"⟩
abbrev cX8_hasWatcher : ByteArray := prog_10_method_7_code
def yX8_hasWatcher : MethodName := ⟨RX8, "hasWatcher", "(I)Z"⟩
abbrev cX8_isAlive : ByteArray := prog_10_method_8_code
def yX8_isAlive : MethodName := ⟨RX8, "isAlive", "(I)Z"⟩
abbrev cX8_works : ByteArray := prog_10_method_9_code
def yX8_works : MethodName := ⟨RX8, "works", "(LLayeredRules$Effect;)Z"⟩
abbrev cX8_aliveBits : ByteArray := prog_10_method_10_code
def yX8_aliveBits : MethodName := ⟨RX8, "aliveBits", "()I"⟩
abbrev cX8_workingIn : ByteArray := prog_10_method_11_code
def yX8_workingIn : MethodName := ⟨RX8, "workingIn", "(I)I"⟩
abbrev cX8_addThing : ByteArray := prog_10_method_12_code
def yX8_addThing : MethodName := ⟨RX8, "addThing", "(IIII)V"⟩
abbrev cX8_dropEffect : ByteArray := prog_10_method_13_code
def yX8_dropEffect : MethodName := ⟨RX8, "dropEffect", "(I)V"⟩
abbrev cX8_dropRule : ByteArray := prog_10_method_14_code
def yX8_dropRule : MethodName := ⟨RX8, "dropRule", "(I)V"⟩
abbrev cX8_dropWatcher : ByteArray := prog_10_method_15_code
def yX8_dropWatcher : MethodName := ⟨RX8, "dropWatcher", "(I)V"⟩
abbrev cX8_ageEffects : ByteArray := prog_10_method_16_code
def yX8_ageEffects : MethodName := ⟨RX8, "ageEffects", "()V"⟩
abbrev cX8_draw : ByteArray := prog_10_method_17_code
def yX8_draw : MethodName := ⟨RX8, "draw", "()I"⟩
def RX9 : String := "LayeredRules$Wound"
def TX9 : u_T := fun k => match k with
  | 0 => ("LayeredRules$Wound", "at", "I", false)
  | 1 => ("LayeredRules$Wound", "left", "I", false)
  | 2 => ("LayeredRules$Wound", "healed", "Z", false)
  | 3 => ("LayeredRules$Wound", "used", "I", false)
  | _ => ("LayeredRules$Wound", "keptOff", "[I", true)
def tyX9 : Nat → FieldType := fun k => match k with
  | 0 => .int
  | 1 => .int
  | 2 => .boolean
  | 3 => .int
  | _ => .array .int
theorem nmX9 : ∀ a, a < 5 → ∀ b, b < 5 → a ≠ b → (TX9 a).2.1 ≠ (TX9 b).2.1 := by decide +kernel
theorem tyX9_ok : ∀ k, k < 5 → parseFieldDescriptor (TX9 k).2.2.1 = some (tyX9 k) := by decide +kernel
abbrev cX9_init : ByteArray := prog_11_method_1_code
def yX9_init : MethodName := ⟨RX9, "<init>", "()V"⟩
abbrev cX9_follow : ByteArray := prog_11_method_2_code
def yX9_follow : MethodName := ⟨RX9, "follow", "(LLayeredRules$World;LLayeredRules$Look;II)V"⟩
abbrev cX9_pickRule : ByteArray := prog_11_method_3_code
def yX9_pickRule : MethodName := ⟨RX9, "pickRule", "(LLayeredRules$World;LLayeredRules$Look;)I"⟩
abbrev cX9_meet : ByteArray := prog_11_method_4_code
def yX9_meet : MethodName := ⟨RX9, "meet", "(LLayeredRules$Rule;I)V"⟩
def RX10 : String := "LayeredRules"
def TX10 : u_T := fun k => match k with
  | 0 => ("LayeredRules", "course", "LLayeredRules$Course;", true)
  | 1 => ("LayeredRules", "world", "LLayeredRules$World;", true)
  | 2 => ("LayeredRules", "look", "LLayeredRules$Look;", true)
  | 3 => ("LayeredRules", "ahead", "LLayeredRules$World;", true)
  | 4 => ("LayeredRules", "kept", "LLayeredRules$World;", true)
  | 5 => ("LayeredRules", "hasImage", "Z", false)
  | 6 => ("LayeredRules", "trial", "LLayeredRules$Look;", true)
  | 7 => ("LayeredRules", "trace", "LLayeredRules$Wound;", true)
  | 8 => ("LayeredRules", "reader", "LLayeredRules$Reader;", true)
  | 9 => ("LayeredRules", "sheets", "[LLayeredRules$Sheet;", true)
  | 10 => ("LayeredRules", "shownNumbers", "[I", true)
  | _ => ("LayeredRules", "shownCount", "I", false)
def tyX10 : Nat → FieldType := fun k => match k with
  | 0 => .object "LayeredRules$Course"
  | 1 => .object "LayeredRules$World"
  | 2 => .object "LayeredRules$Look"
  | 3 => .object "LayeredRules$World"
  | 4 => .object "LayeredRules$World"
  | 5 => .boolean
  | 6 => .object "LayeredRules$Look"
  | 7 => .object "LayeredRules$Wound"
  | 8 => .object "LayeredRules$Reader"
  | 9 => .array (.object "LayeredRules$Sheet")
  | 10 => .array .int
  | _ => .int
theorem nmX10 : ∀ a, a < 12 → ∀ b, b < 12 → a ≠ b → (TX10 a).2.1 ≠ (TX10 b).2.1 := by decide +kernel
theorem tyX10_ok : ∀ k, k < 12 → parseFieldDescriptor (TX10 k).2.2.1 = some (tyX10 k) := by decide +kernel
abbrev cX10_init : ByteArray := prog_1_method_1_code
def yX10_init : MethodName := ⟨RX10, "<init>", "()V"⟩
abbrev cX10_clear : ByteArray := prog_1_method_2_code
def yX10_clear : MethodName := ⟨RX10, "clear", "()I"⟩
abbrev cX10_thing : ByteArray := prog_1_method_3_code
def yX10_thing : MethodName := ⟨RX10, "thing", "(IIII)I"⟩
abbrev cX10_of : ByteArray := prog_1_method_4_code
def yX10_of : MethodName := ⟨RX10, "of", "(II)I"⟩
abbrev cX10_now : ByteArray := prog_1_method_5_code
def yX10_now : MethodName := ⟨RX10, "now", "(II)I"⟩
abbrev cX10_set : ByteArray := prog_1_method_6_code
def yX10_set : MethodName := ⟨RX10, "set", "(III)I"⟩
abbrev cX10_scope : ByteArray := prog_1_method_7_code
def yX10_scope : MethodName := ⟨RX10, "scope", "(II)I"⟩
abbrev cX10_effect : ByteArray := prog_1_method_8_code
def yX10_effect : MethodName := ⟨RX10, "effect", "(IIIII)I"⟩
abbrev cX10_source : ByteArray := prog_1_method_9_code
def yX10_source : MethodName := ⟨RX10, "source", "(II)I"⟩
abbrev cX10_lasts : ByteArray := prog_1_method_10_code
def yX10_lasts : MethodName := ⟨RX10, "lasts", "(II)I"⟩
abbrev cX10_ends : ByteArray := prog_1_method_11_code
def yX10_ends : MethodName := ⟨RX10, "ends", "(I)I"⟩
abbrev cX10_order : ByteArray := prog_1_method_12_code
def yX10_order : MethodName := ⟨RX10, "order", "(I)I"⟩
abbrev cX10_depends : ByteArray := prog_1_method_13_code
def yX10_depends : MethodName := ⟨RX10, "depends", "(II)I"⟩
abbrev cX10_rule : ByteArray := prog_1_method_14_code
def yX10_rule : MethodName := ⟨RX10, "rule", "(IIII)I"⟩
abbrev cX10_ruleOf : ByteArray := prog_1_method_15_code
def yX10_ruleOf : MethodName := ⟨RX10, "ruleOf", "(II)I"⟩
abbrev cX10_unrule : ByteArray := prog_1_method_16_code
def yX10_unrule : MethodName := ⟨RX10, "unrule", "(I)I"⟩
abbrev cX10_choice : ByteArray := prog_1_method_17_code
def yX10_choice : MethodName := ⟨RX10, "choice", "(II)I"⟩
abbrev cX10_watch : ByteArray := prog_1_method_18_code
def yX10_watch : MethodName := ⟨RX10, "watch", "(IIIII)I"⟩
abbrev cX10_watches : ByteArray := prog_1_method_19_code
def yX10_watches : MethodName := ⟨RX10, "watches", "(III)I"⟩
abbrev cX10_unwatch : ByteArray := prog_1_method_20_code
def yX10_unwatch : MethodName := ⟨RX10, "unwatch", "(I)I"⟩
abbrev cX10_hurt : ByteArray := prog_1_method_21_code
def yX10_hurt : MethodName := ⟨RX10, "hurt", "(II)I"⟩
abbrev cX10_aim : ByteArray := prog_1_method_22_code
def yX10_aim : MethodName := ⟨RX10, "aim", "(III)I"⟩
abbrev cX10_next : ByteArray := prog_1_method_23_code
def yX10_next : MethodName := ⟨RX10, "next", "()I"⟩
abbrev cX10_shown : ByteArray := prog_1_method_24_code
def yX10_shown : MethodName := ⟨RX10, "shown", "(I)I"⟩
abbrev cX10_feed : ByteArray := prog_1_method_25_code
def yX10_feed : MethodName := ⟨RX10, "feed", "(II)I"⟩
abbrev cX10_wipe : ByteArray := prog_1_method_26_code
def yX10_wipe : MethodName := ⟨RX10, "wipe", "()I"⟩
abbrev cX10_text : ByteArray := prog_1_method_27_code
def yX10_text : MethodName := ⟨RX10, "text", "()I"⟩
abbrev cX10_tell : ByteArray := prog_1_method_28_code
def yX10_tell : MethodName := ⟨RX10, "tell", "(II)I"⟩
abbrev cX10_seed : ByteArray := prog_1_method_29_code
def yX10_seed : MethodName := ⟨RX10, "seed", "(I)I"⟩
abbrev cX10_deal : ByteArray := prog_1_method_30_code
def yX10_deal : MethodName := ⟨RX10, "deal", "(I)I"⟩
abbrev cX10_sheet : ByteArray := prog_1_method_31_code
def yX10_sheet : MethodName := ⟨RX10, "sheet", "(III)I"⟩
abbrev cX10_write : ByteArray := prog_1_method_32_code
def yX10_write : MethodName := ⟨RX10, "write", "(III)I"⟩
abbrev cX10_item : ByteArray := prog_1_method_33_code
def yX10_item : MethodName := ⟨RX10, "item", "(II)I"⟩
abbrev cX10_copy : ByteArray := prog_1_method_34_code
def yX10_copy : MethodName := ⟨RX10, "copy", "(IIIII)I"⟩
abbrev cX10_image : ByteArray := prog_1_method_35_code
def yX10_image : MethodName := ⟨RX10, "image", "()I"⟩
abbrev cX10_back : ByteArray := prog_1_method_36_code
def yX10_back : MethodName := ⟨RX10, "back", "()I"⟩
abbrev cX10_count : ByteArray := prog_1_method_37_code
def yX10_count : MethodName := ⟨RX10, "count", "(I)I"⟩
abbrev cX10_refuseLoop : ByteArray := prog_1_method_38_code
def yX10_refuseLoop : MethodName := ⟨RX10, "refuseLoop", "(I)I"⟩
abbrev cX10_refusePlace : ByteArray := prog_1_method_39_code
def yX10_refusePlace : MethodName := ⟨RX10, "refusePlace", "(II)I"⟩
abbrev cX10_within : ByteArray := prog_1_method_40_code
def yX10_within : MethodName := ⟨RX10, "within", "(III)Z"⟩
abbrev cX10_isScope : ByteArray := prog_1_method_41_code
def yX10_isScope : MethodName := ⟨RX10, "isScope", "(II)Z"⟩
abbrev cX10_fitsBase : ByteArray := prog_1_method_42_code
def yX10_fitsBase : MethodName := ⟨RX10, "fitsBase", "(II)Z"⟩
abbrev cX10_fitsEffect : ByteArray := prog_1_method_43_code
def yX10_fitsEffect : MethodName := ⟨RX10, "fitsEffect", "(II)Z"⟩
abbrev cX10_scopeWord : ByteArray := prog_1_method_44_code
def yX10_scopeWord : MethodName := ⟨RX10, "scopeWord", "(I)Ljava/lang/String;"⟩
abbrev cX10_deedWord : ByteArray := prog_1_method_45_code
def yX10_deedWord : MethodName := ⟨RX10, "deedWord", "(I)Ljava/lang/String;"⟩
def RX11 : String := "LayeredRulesModel"
def TX11 : u_T := fun k => match k with
  | 0 => ("LayeredRulesModel", "now", "[I", true)
  | 1 => ("LayeredRulesModel", "kept", "[I", true)
  | 2 => ("LayeredRulesModel", "ahead", "[I", true)
  | 3 => ("LayeredRulesModel", "hasImage", "Z", false)
  | 4 => ("LayeredRulesModel", "is", "[I", true)
  | 5 => ("LayeredRulesModel", "wouldBe", "[I", true)
  | 6 => ("LayeredRulesModel", "doneAs", "[I", true)
  | 7 => ("LayeredRulesModel", "doneMany", "I", false)
  | 8 => ("LayeredRulesModel", "isPlayed", "Z", false)
  | 9 => ("LayeredRulesModel", "stack", "[I", true)
  | 10 => ("LayeredRulesModel", "stacked", "I", false)
  | 11 => ("LayeredRulesModel", "aimed", "I", false)
  | 12 => ("LayeredRulesModel", "coming", "I", false)
  | 13 => ("LayeredRulesModel", "used", "I", false)
  | 14 => ("LayeredRulesModel", "usedMany", "I", false)
  | 15 => ("LayeredRulesModel", "isHealed", "Z", false)
  | 16 => ("LayeredRulesModel", "acts", "I", false)
  | 17 => ("LayeredRulesModel", "doing", "[I", true)
  | 18 => ("LayeredRulesModel", "shown", "[I", true)
  | 19 => ("LayeredRulesModel", "shownMany", "I", false)
  | 20 => ("LayeredRulesModel", "tape", "[I", true)
  | 21 => ("LayeredRulesModel", "taped", "I", false)
  | 22 => ("LayeredRulesModel", "from", "I", false)
  | 23 => ("LayeredRulesModel", "to", "I", false)
  | 24 => ("LayeredRulesModel", "token", "I", false)
  | 25 => ("LayeredRulesModel", "worth", "I", false)
  | 26 => ("LayeredRulesModel", "scopes", "[Ljava/lang/String;", true)
  | 27 => ("LayeredRulesModel", "deeds", "[Ljava/lang/String;", true)
  | 28 => ("LayeredRulesModel", "read", "[I", true)
  | 29 => ("LayeredRulesModel", "toldTo", "I", false)
  | 30 => ("LayeredRulesModel", "sort", "[I", true)
  | 31 => ("LayeredRulesModel", "size", "[I", true)
  | _ => ("LayeredRulesModel", "items", "[I", true)
def tyX11 : Nat → FieldType := fun k => match k with
  | 0 => .array .int
  | 1 => .array .int
  | 2 => .array .int
  | 3 => .boolean
  | 4 => .array .int
  | 5 => .array .int
  | 6 => .array .int
  | 7 => .int
  | 8 => .boolean
  | 9 => .array .int
  | 10 => .int
  | 11 => .int
  | 12 => .int
  | 13 => .int
  | 14 => .int
  | 15 => .boolean
  | 16 => .int
  | 17 => .array .int
  | 18 => .array .int
  | 19 => .int
  | 20 => .array .int
  | 21 => .int
  | 22 => .int
  | 23 => .int
  | 24 => .int
  | 25 => .int
  | 26 => .array (.object "java/lang/String")
  | 27 => .array (.object "java/lang/String")
  | 28 => .array .int
  | 29 => .int
  | 30 => .array .int
  | 31 => .array .int
  | _ => .array .int
theorem nmX11 : ∀ a, a < 33 → ∀ b, b < 33 → a ≠ b → (TX11 a).2.1 ≠ (TX11 b).2.1 := by decide +kernel
theorem tyX11_ok : ∀ k, k < 33 → parseFieldDescriptor (TX11 k).2.2.1 = some (tyX11 k) := by decide +kernel
abbrev cX11_init : ByteArray := prog_13_method_1_code
def yX11_init : MethodName := ⟨RX11, "<init>", "()V"⟩
abbrev cX11_in : ByteArray := prog_13_method_2_code
def yX11_in : MethodName := ⟨RX11, "in", "(III)Z"⟩
abbrev cX11_has : ByteArray := prog_13_method_3_code
def yX11_has : MethodName := ⟨RX11, "has", "(II)Z"⟩
abbrev cX11_copies : ByteArray := prog_13_method_4_code
def yX11_copies : MethodName := ⟨RX11, "copies", "([I[I)V"⟩
abbrev cX11_isThing : ByteArray := prog_13_method_5_code
def yX11_isThing : MethodName := ⟨RX11, "isThing", "(I)Z"⟩
abbrev cX11_its : ByteArray := prog_13_method_6_code
def yX11_its : MethodName := ⟨RX11, "its", "(II)I"⟩
abbrev cX11_isAlive : ByteArray := prog_13_method_7_code
def yX11_isAlive : MethodName := ⟨RX11, "isAlive", "(I)Z"⟩
abbrev cX11_effectIs : ByteArray := prog_13_method_8_code
def yX11_effectIs : MethodName := ⟨RX11, "effectIs", "(II)I"⟩
abbrev cX11_isEffect : ByteArray := prog_13_method_9_code
def yX11_isEffect : MethodName := ⟨RX11, "isEffect", "(I)Z"⟩
abbrev cX11_watcher : ByteArray := prog_13_method_10_code
def yX11_watcher : MethodName := ⟨RX11, "watcher", "(II)I"⟩
abbrev cX11_isScope : ByteArray := prog_13_method_11_code
def yX11_isScope : MethodName := ⟨RX11, "isScope", "(II)Z"⟩
abbrev cX11_inScope : ByteArray := prog_13_method_12_code
def yX11_inScope : MethodName := ⟨RX11, "inScope", "([III)I"⟩
abbrev cX11_scopeOf : ByteArray := prog_13_method_13_code
def yX11_scopeOf : MethodName := ⟨RX11, "scopeOf", "([II)I"⟩
abbrev cX11_does : ByteArray := prog_13_method_14_code
def yX11_does : MethodName := ⟨RX11, "does", "([II)V"⟩
abbrev cX11_doesSomething : ByteArray := prog_13_method_15_code
def yX11_doesSomething : MethodName := ⟨RX11, "doesSomething", "(I)Z"⟩
abbrev cX11_layer : ByteArray := prog_13_method_16_code
def yX11_layer : MethodName := ⟨RX11, "layer", "(I)I"⟩
abbrev cX11_doesDepend : ByteArray := prog_13_method_17_code
def yX11_doesDepend : MethodName := ⟨RX11, "doesDepend", "(II)Z"⟩
abbrev cX11_nextOf : ByteArray := prog_13_method_18_code
def yX11_nextOf : MethodName := ⟨RX11, "nextOf", "(I)I"⟩
abbrev cX11_makes : ByteArray := prog_13_method_19_code
def yX11_makes : MethodName := ⟨RX11, "makes", "(I)V"⟩
abbrev cX11_setsOff : ByteArray := prog_13_method_20_code
def yX11_setsOff : MethodName := ⟨RX11, "setsOff", "(II)V"⟩
abbrev cX11_rounds : ByteArray := prog_13_method_21_code
def yX11_rounds : MethodName := ⟨RX11, "rounds", "()V"⟩
abbrev cX11_changed : ByteArray := prog_13_method_22_code
def yX11_changed : MethodName := ⟨RX11, "changed", "(I)I"⟩
abbrev cX11_isNow : ByteArray := prog_13_method_23_code
def yX11_isNow : MethodName := ⟨RX11, "isNow", "(II)I"⟩
abbrev cX11_clear : ByteArray := prog_13_method_24_code
def yX11_clear : MethodName := ⟨RX11, "clear", "()I"⟩
abbrev cX11_areGood : ByteArray := prog_13_method_25_code
def yX11_areGood : MethodName := ⟨RX11, "areGood", "(IIII)Z"⟩
abbrev cX11_comes : ByteArray := prog_13_method_26_code
def yX11_comes : MethodName := ⟨RX11, "comes", "(IIII)V"⟩
abbrev cX11_thing : ByteArray := prog_13_method_27_code
def yX11_thing : MethodName := ⟨RX11, "thing", "(IIII)I"⟩
abbrev cX11_of : ByteArray := prog_13_method_28_code
def yX11_of : MethodName := ⟨RX11, "of", "(II)I"⟩
abbrev cX11_now : ByteArray := prog_13_method_29_code
def yX11_now : MethodName := ⟨RX11, "now", "(II)I"⟩
abbrev cX11_set : ByteArray := prog_13_method_30_code
def yX11_set : MethodName := ⟨RX11, "set", "(III)I"⟩
abbrev cX11_scope : ByteArray := prog_13_method_31_code
def yX11_scope : MethodName := ⟨RX11, "scope", "(II)I"⟩
abbrev cX11_isDeed : ByteArray := prog_13_method_32_code
def yX11_isDeed : MethodName := ⟨RX11, "isDeed", "(III)Z"⟩
abbrev cX11_lays : ByteArray := prog_13_method_33_code
def yX11_lays : MethodName := ⟨RX11, "lays", "(IIIIII)V"⟩
abbrev cX11_effect : ByteArray := prog_13_method_34_code
def yX11_effect : MethodName := ⟨RX11, "effect", "(IIIII)I"⟩
abbrev cX11_source : ByteArray := prog_13_method_35_code
def yX11_source : MethodName := ⟨RX11, "source", "(II)I"⟩
abbrev cX11_lasts : ByteArray := prog_13_method_36_code
def yX11_lasts : MethodName := ⟨RX11, "lasts", "(II)I"⟩
abbrev cX11_goes : ByteArray := prog_13_method_37_code
def yX11_goes : MethodName := ⟨RX11, "goes", "(IIII)V"⟩
abbrev cX11_ends : ByteArray := prog_13_method_38_code
def yX11_ends : MethodName := ⟨RX11, "ends", "(I)I"⟩
abbrev cX11_order : ByteArray := prog_13_method_39_code
def yX11_order : MethodName := ⟨RX11, "order", "(I)I"⟩
abbrev cX11_depends : ByteArray := prog_13_method_40_code
def yX11_depends : MethodName := ⟨RX11, "depends", "(II)I"⟩
abbrev cX11_ruleIs : ByteArray := prog_13_method_41_code
def yX11_ruleIs : MethodName := ⟨RX11, "ruleIs", "(II)I"⟩
abbrev cX11_isRule : ByteArray := prog_13_method_42_code
def yX11_isRule : MethodName := ⟨RX11, "isRule", "(I)Z"⟩
abbrev cX11_rule : ByteArray := prog_13_method_43_code
def yX11_rule : MethodName := ⟨RX11, "rule", "(IIII)I"⟩
abbrev cX11_ruleOf : ByteArray := prog_13_method_44_code
def yX11_ruleOf : MethodName := ⟨RX11, "ruleOf", "(II)I"⟩
abbrev cX11_unrule : ByteArray := prog_13_method_45_code
def yX11_unrule : MethodName := ⟨RX11, "unrule", "(I)I"⟩
abbrev cX11_choice : ByteArray := prog_13_method_46_code
def yX11_choice : MethodName := ⟨RX11, "choice", "(II)I"⟩
abbrev cX11_isWatcher : ByteArray := prog_13_method_47_code
def yX11_isWatcher : MethodName := ⟨RX11, "isWatcher", "(I)Z"⟩
abbrev cX11_watch : ByteArray := prog_13_method_48_code
def yX11_watch : MethodName := ⟨RX11, "watch", "(IIIII)I"⟩
abbrev cX11_watches : ByteArray := prog_13_method_49_code
def yX11_watches : MethodName := ⟨RX11, "watches", "(III)I"⟩
abbrev cX11_unwatch : ByteArray := prog_13_method_50_code
def yX11_unwatch : MethodName := ⟨RX11, "unwatch", "(I)I"⟩
abbrev cX11_ruleFor : ByteArray := prog_13_method_51_code
def yX11_ruleFor : MethodName := ⟨RX11, "ruleFor", "()I"⟩
abbrev cX11_leads : ByteArray := prog_13_method_52_code
def yX11_leads : MethodName := ⟨RX11, "leads", "(IIZ)V"⟩
abbrev cX11_wounds : ByteArray := prog_13_method_53_code
def yX11_wounds : MethodName := ⟨RX11, "wounds", "(II)V"⟩
abbrev cX11_hurts : ByteArray := prog_13_method_54_code
def yX11_hurts : MethodName := ⟨RX11, "hurts", "(II)V"⟩
abbrev cX11_aim : ByteArray := prog_13_method_55_code
def yX11_aim : MethodName := ⟨RX11, "aim", "(III)I"⟩
abbrev cX11_acts : ByteArray := prog_13_method_56_code
def yX11_acts : MethodName := ⟨RX11, "acts", "(II)V"⟩
abbrev cX11_goesThrough : ByteArray := prog_13_method_57_code
def yX11_goesThrough : MethodName := ⟨RX11, "goesThrough", "()I"⟩
abbrev cX11_begins : ByteArray := prog_13_method_58_code
def yX11_begins : MethodName := ⟨RX11, "begins", "()V"⟩
abbrev cX11_hurt : ByteArray := prog_13_method_59_code
def yX11_hurt : MethodName := ⟨RX11, "hurt", "(II)I"⟩
abbrev cX11_next : ByteArray := prog_13_method_60_code
def yX11_next : MethodName := ⟨RX11, "next", "()I"⟩
abbrev cX11_shown : ByteArray := prog_13_method_61_code
def yX11_shown : MethodName := ⟨RX11, "shown", "(I)I"⟩
abbrev cX11_feed : ByteArray := prog_13_method_62_code
def yX11_feed : MethodName := ⟨RX11, "feed", "(II)I"⟩
abbrev cX11_wipe : ByteArray := prog_13_method_63_code
def yX11_wipe : MethodName := ⟨RX11, "wipe", "()I"⟩
abbrev cX11_isAt : ByteArray := prog_13_method_64_code
def yX11_isAt : MethodName := ⟨RX11, "isAt", "(II)Z"⟩
abbrev cX11_goesOn : ByteArray := prog_13_method_65_code
def yX11_goesOn : MethodName := ⟨RX11, "goesOn", "()V"⟩
abbrev cX11_isWord : ByteArray := prog_13_method_66_code
def yX11_isWord : MethodName := ⟨RX11, "isWord", "(Ljava/lang/String;)Z"⟩
abbrev cX11_wordOf : ByteArray := prog_13_method_67_code
def yX11_wordOf : MethodName := ⟨RX11, "wordOf", "([Ljava/lang/String;)I"⟩
abbrev cX11_isNumber : ByteArray := prog_13_method_68_code
def yX11_isNumber : MethodName := ⟨RX11, "isNumber", "(II)Z"⟩
abbrev cX11_isValue : ByteArray := prog_13_method_69_code
def yX11_isValue : MethodName := ⟨RX11, "isValue", "(I)Z"⟩
abbrev cX11_isPhrase : ByteArray := prog_13_method_70_code
def yX11_isPhrase : MethodName := ⟨RX11, "isPhrase", "()Z"⟩
abbrev cX11_isText : ByteArray := prog_13_method_71_code
def yX11_isText : MethodName := ⟨RX11, "isText", "()Z"⟩
abbrev cX11_text : ByteArray := prog_13_method_72_code
def yX11_text : MethodName := ⟨RX11, "text", "()I"⟩
abbrev cX11_says : ByteArray := prog_13_method_73_code
def yX11_says : MethodName := ⟨RX11, "says", "(II)V"⟩
abbrev cX11_saysWord : ByteArray := prog_13_method_74_code
def yX11_saysWord : MethodName := ⟨RX11, "saysWord", "(ILjava/lang/String;)V"⟩
abbrev cX11_saysNumber : ByteArray := prog_13_method_75_code
def yX11_saysNumber : MethodName := ⟨RX11, "saysNumber", "(II)V"⟩
abbrev cX11_tell : ByteArray := prog_13_method_76_code
def yX11_tell : MethodName := ⟨RX11, "tell", "(II)I"⟩
abbrev cX11_draw : ByteArray := prog_13_method_77_code
def yX11_draw : MethodName := ⟨RX11, "draw", "()I"⟩
abbrev cX11_seed : ByteArray := prog_13_method_78_code
def yX11_seed : MethodName := ⟨RX11, "seed", "(I)I"⟩
abbrev cX11_deal : ByteArray := prog_13_method_79_code
def yX11_deal : MethodName := ⟨RX11, "deal", "(I)I"⟩
abbrev cX11_isSheet : ByteArray := prog_13_method_80_code
def yX11_isSheet : MethodName := ⟨RX11, "isSheet", "(I)Z"⟩
abbrev cX11_sheet : ByteArray := prog_13_method_81_code
def yX11_sheet : MethodName := ⟨RX11, "sheet", "(III)I"⟩
abbrev cX11_wrongAt : ByteArray := prog_13_method_82_code
def yX11_wrongAt : MethodName := ⟨RX11, "wrongAt", "(II)I"⟩
abbrev cX11_write : ByteArray := prog_13_method_83_code
def yX11_write : MethodName := ⟨RX11, "write", "(III)I"⟩
abbrev cX11_item : ByteArray := prog_13_method_84_code
def yX11_item : MethodName := ⟨RX11, "item", "(II)I"⟩
abbrev cX11_copy : ByteArray := prog_13_method_85_code
def yX11_copy : MethodName := ⟨RX11, "copy", "(IIIII)I"⟩
abbrev cX11_image : ByteArray := prog_13_method_86_code
def yX11_image : MethodName := ⟨RX11, "image", "()I"⟩
abbrev cX11_back : ByteArray := prog_13_method_87_code
def yX11_back : MethodName := ⟨RX11, "back", "()I"⟩
abbrev cX11_count : ByteArray := prog_13_method_88_code
def yX11_count : MethodName := ⟨RX11, "count", "(I)I"⟩
def RJ6 : String := "java/lang/Integer"
def TJ6 : u_T := fun k => match k with
  | _ => ("", "", "", false)
def tyJ6 : Nat → FieldType := fun k => match k with
  | _ => .int
theorem nmJ6 : ∀ a, a < 0 → ∀ b, b < 0 → a ≠ b → (TJ6 a).2.1 ≠ (TJ6 b).2.1 := by decide +kernel
theorem tyJ6_ok : ∀ k, k < 0 → parseFieldDescriptor (TJ6 k).2.2.1 = some (tyJ6 k) := by decide +kernel
abbrev cJ6_numberOfTrailingZeros_0f7a4 : ByteArray := prog_14_method_48_code
def yJ6_numberOfTrailingZeros_0f7a4 : MethodName := ⟨RJ6, "numberOfTrailingZeros", "(I)I"⟩
abbrev cJ6_bitCount_0f7a4 : ByteArray := prog_14_method_49_code
def yJ6_bitCount_0f7a4 : MethodName := ⟨RJ6, "bitCount", "(I)I"⟩
def RJ9 : String := "java/lang/Math"
def TJ9 : u_T := fun k => match k with
  | _ => ("", "", "", false)
def tyJ9 : Nat → FieldType := fun k => match k with
  | _ => .int
theorem nmJ9 : ∀ a, a < 0 → ∀ b, b < 0 → a ≠ b → (TJ9 a).2.1 ≠ (TJ9 b).2.1 := by decide +kernel
theorem tyJ9_ok : ∀ k, k < 0 → parseFieldDescriptor (TJ9 k).2.2.1 = some (tyJ9 k) := by decide +kernel
abbrev cJ9_abs_0f7a4 : ByteArray := prog_15_method_59_code
def yJ9_abs_0f7a4 : MethodName := ⟨RJ9, "abs", "(I)I"⟩
abbrev cJ9_max_7cf53 : ByteArray := prog_15_method_65_code
def yJ9_max_7cf53 : MethodName := ⟨RJ9, "max", "(II)I"⟩
abbrev cJ9_min_7cf53 : ByteArray := prog_15_method_69_code
def yJ9_min_7cf53 : MethodName := ⟨RJ9, "min", "(II)I"⟩
def RJ0 : String := "java/lang/String"
def TJ0 : u_T := fun k => match k with
  | _ => ("", "", "", false)
def tyJ0 : Nat → FieldType := fun k => match k with
  | _ => .int
theorem nmJ0 : ∀ a, a < 0 → ∀ b, b < 0 → a ≠ b → (TJ0 a).2.1 ≠ (TJ0 b).2.1 := by decide +kernel
theorem tyJ0_ok : ∀ k, k < 0 → parseFieldDescriptor (TJ0 k).2.2.1 = some (tyJ0 k) := by decide +kernel
abbrev cJ0_length_8abf5 : ByteArray := prog_16_method_54_code
def yJ0_length_8abf5 : MethodName := ⟨RJ0, "length", "()I"⟩
abbrev cJ0_charAt_5068e : ByteArray := prog_16_method_56_code
def yJ0_charAt_5068e : MethodName := ⟨RJ0, "charAt", "(I)C"⟩
abbrev cJ0_coder_7d493 : ByteArray := prog_16_method_152_code
def yJ0_coder_7d493 : MethodName := ⟨RJ0, "coder", "()B"⟩
abbrev cJ0_isLatin1_aae02 : ByteArray := prog_16_method_154_code
def yJ0_isLatin1_aae02 : MethodName := ⟨RJ0, "isLatin1", "()Z"⟩
abbrev cJ0_checkIndex_df160 : ByteArray := prog_16_method_155_code
def yJ0_checkIndex_df160 : MethodName := ⟨RJ0, "checkIndex", "(II)V"⟩
def RJ1 : String := "java/lang/StringLatin1"
def TJ1 : u_T := fun k => match k with
  | _ => ("", "", "", false)
def tyJ1 : Nat → FieldType := fun k => match k with
  | _ => .int
theorem nmJ1 : ∀ a, a < 0 → ∀ b, b < 0 → a ≠ b → (TJ1 a).2.1 ≠ (TJ1 b).2.1 := by decide +kernel
theorem tyJ1_ok : ∀ k, k < 0 → parseFieldDescriptor (TJ1 k).2.2.1 = some (tyJ1 k) := by decide +kernel
abbrev cJ1_charAt_3b067 : ByteArray := prog_17_method_2_code
def yJ1_charAt_3b067 : MethodName := ⟨RJ1, "charAt", "([BI)C"⟩
def RJ2 : String := "java/lang/StringUTF16"
def TJ2 : u_T := fun k => match k with
  | _ => ("", "", "", false)
def tyJ2 : Nat → FieldType := fun k => match k with
  | _ => .int
theorem nmJ2 : ∀ a, a < 0 → ∀ b, b < 0 → a ≠ b → (TJ2 a).2.1 ≠ (TJ2 b).2.1 := by decide +kernel
theorem tyJ2_ok : ∀ k, k < 0 → parseFieldDescriptor (TJ2 k).2.2.1 = some (tyJ2 k) := by decide +kernel
abbrev cJ2_getChar_3b067 : ByteArray := prog_18_method_5_code
def yJ2_getChar_3b067 : MethodName := ⟨RJ2, "getChar", "([BI)C"⟩
abbrev cJ2_length_9d52b : ByteArray := prog_18_method_6_code
def yJ2_length_9d52b : MethodName := ⟨RJ2, "length", "([B)I"⟩
abbrev cJ2_charAt_3b067 : ByteArray := prog_18_method_83_code
def yJ2_charAt_3b067 : MethodName := ⟨RJ2, "charAt", "([BI)C"⟩
abbrev cJ2_checkIndex_2214a : ByteArray := prog_18_method_91_code
def yJ2_checkIndex_2214a : MethodName := ⟨RJ2, "checkIndex", "(I[B)V"⟩
def RJ10 : String := "java/lang/System"
def TJ10 : u_T := fun k => match k with
  | _ => ("", "", "", false)
def tyJ10 : Nat → FieldType := fun k => match k with
  | _ => .int
theorem nmJ10 : ∀ a, a < 0 → ∀ b, b < 0 → a ≠ b → (TJ10 a).2.1 ≠ (TJ10 b).2.1 := by decide +kernel
theorem tyJ10_ok : ∀ k, k < 0 → parseFieldDescriptor (TJ10 k).2.2.1 = some (tyJ10 k) := by decide +kernel
def RJ3 : String := "jdk/internal/util/Preconditions"
def TJ3 : u_T := fun k => match k with
  | _ => ("", "", "", false)
def tyJ3 : Nat → FieldType := fun k => match k with
  | _ => .int
theorem nmJ3 : ∀ a, a < 0 → ∀ b, b < 0 → a ≠ b → (TJ3 a).2.1 ≠ (TJ3 b).2.1 := by decide +kernel
theorem tyJ3_ok : ∀ k, k < 0 → parseFieldDescriptor (TJ3 k).2.2.1 = some (tyJ3 k) := by decide +kernel
abbrev cJ3_checkIndex_8e157 : ByteArray := prog_20_method_11_code
def yJ3_checkIndex_8e157 : MethodName := ⟨RJ3, "checkIndex", "(IILjava/util/function/BiFunction;)I"⟩
def RL : String := "LayeredRulesLaw"
abbrev cL_law : ByteArray := code
def yL_law : MethodName := ⟨RL, "law", "([I)Z"⟩
abbrev vwCl : List vw_C := [(RX0, TX0, 7), (RX1, TX1, 7), (RX2, TX2, 6), (RX3, TX3, 9), (RX4, TX4, 4), (RX5, TX5, 3), (RX6, TX6, 10), (RX7, TX7, 7), (RX8, TX8, 11), (RX9, TX9, 5), (RX10, TX10, 12), (RX11, TX11, 33)]
end
section
theorem dX0_init_0 : decode cX0_init 0 = .ok (.aload_n 0, 1) := by decide +kernel
theorem dX0_init_1 : decode cX0_init 1 = .ok (.invokespecial 3, 3) := by decide +kernel
theorem dX0_init_4 : decode cX0_init 4 = .ok (.aload_n 0, 1) := by decide +kernel
theorem dX0_init_5 : decode cX0_init 5 = .ok (.new 9, 3) := by decide +kernel
theorem dX0_init_8 : decode cX0_init 8 = .ok (.dup, 1) := by decide +kernel
theorem dX0_init_9 : decode cX0_init 9 = .ok (.invokespecial 11, 3) := by decide +kernel
theorem dX0_init_12 : decode cX0_init 12 = .ok (.putfield 12, 3) := by decide +kernel
theorem dX0_init_15 : decode cX0_init 15 = .ok (.aload_n 0, 1) := by decide +kernel
theorem dX0_init_16 : decode cX0_init 16 = .ok (.new 18, 3) := by decide +kernel
theorem dX0_init_19 : decode cX0_init 19 = .ok (.dup, 1) := by decide +kernel
theorem dX0_init_20 : decode cX0_init 20 = .ok (.invokespecial 20, 3) := by decide +kernel
theorem dX0_init_23 : decode cX0_init 23 = .ok (.putfield 21, 3) := by decide +kernel
theorem dX0_init_26 : decode cX0_init 26 = .ok (.aload_n 0, 1) := by decide +kernel
theorem dX0_init_27 : decode cX0_init 27 = .ok (.new 25, 3) := by decide +kernel
theorem dX0_init_30 : decode cX0_init 30 = .ok (.dup, 1) := by decide +kernel
theorem dX0_init_31 : decode cX0_init 31 = .ok (.invokespecial 27, 3) := by decide +kernel
theorem dX0_init_34 : decode cX0_init 34 = .ok (.putfield 28, 3) := by decide +kernel
theorem dX0_init_37 : decode cX0_init 37 = .ok (.aload_n 0, 1) := by decide +kernel
theorem dX0_init_38 : decode cX0_init 38 = .ok (.sipush 400, 3) := by decide +kernel
theorem dX0_init_41 : decode cX0_init 41 = .ok (.newarray .int, 2) := by decide +kernel
theorem dX0_init_43 : decode cX0_init 43 = .ok (.putfield 32, 3) := by decide +kernel
theorem dX0_init_46 : decode cX0_init 46 = .ok (.aload_n 0, 1) := by decide +kernel
theorem dX0_init_47 : decode cX0_init 47 = .ok (.sipush 400, 3) := by decide +kernel
theorem dX0_init_50 : decode cX0_init 50 = .ok (.newarray .int, 2) := by decide +kernel
theorem dX0_init_52 : decode cX0_init 52 = .ok (.putfield 36, 3) := by decide +kernel
theorem dX0_init_55 : decode cX0_init 55 = .ok (.aload_n 0, 1) := by decide +kernel
theorem dX0_init_56 : decode cX0_init 56 = .ok (.bipush 40, 2) := by decide +kernel
theorem dX0_init_58 : decode cX0_init 58 = .ok (.newarray .int, 2) := by decide +kernel
theorem dX0_init_60 : decode cX0_init 60 = .ok (.putfield 39, 3) := by decide +kernel
theorem dX0_init_63 : decode cX0_init 63 = .ok (.return_, 1) := by decide +kernel
theorem dX0_begin_0 : decode cX0_begin 0 = .ok (.aload_n 0, 1) := by decide +kernel
theorem dX0_begin_1 : decode cX0_begin 1 = .ok (.iconst 0, 1) := by decide +kernel
theorem dX0_begin_2 : decode cX0_begin 2 = .ok (.putfield 42, 3) := by decide +kernel
theorem dX0_begin_5 : decode cX0_begin 5 = .ok (.return_, 1) := by decide +kernel
theorem dX0_settle_0 : decode cX0_settle 0 = .ok (.iconst 0, 1) := by decide +kernel
theorem dX0_settle_1 : decode cX0_settle 1 = .ok (.istore_n 2, 1) := by decide +kernel
theorem dX0_settle_2 : decode cX0_settle 2 = .ok (.iload_n 2, 1) := by decide +kernel
theorem dX0_settle_3 : decode cX0_settle 3 = .ok (.bipush 8, 2) := by decide +kernel
theorem dX0_settle_5 : decode cX0_settle 5 = .ok (.if_icmp .gt 46, 3) := by decide +kernel
theorem dX0_settle_8 : decode cX0_settle 8 = .ok (.aload_n 0, 1) := by decide +kernel
theorem dX0_settle_9 : decode cX0_settle 9 = .ok (.getfield 21, 3) := by decide +kernel
theorem dX0_settle_12 : decode cX0_settle 12 = .ok (.aload_n 0, 1) := by decide +kernel
theorem dX0_settle_13 : decode cX0_settle 13 = .ok (.getfield 12, 3) := by decide +kernel
theorem dX0_settle_16 : decode cX0_settle 16 = .ok (.iconst 5, 1) := by decide +kernel
theorem dX0_settle_17 : decode cX0_settle 17 = .ok (.invokevirtual 46, 3) := by decide +kernel
theorem dX0_settle_20 : decode cX0_settle 20 = .ok (.aload_n 0, 1) := by decide +kernel
theorem dX0_settle_21 : decode cX0_settle 21 = .ok (.invokevirtual 50, 3) := by decide +kernel
theorem dX0_settle_24 : decode cX0_settle 24 = .ok (.istore_n 3, 1) := by decide +kernel
theorem dX0_settle_25 : decode cX0_settle 25 = .ok (.iload_n 3, 1) := by decide +kernel
theorem dX0_settle_26 : decode cX0_settle 26 = .ok (.ifCond .ne 4, 3) := by decide +kernel
theorem dX0_settle_29 : decode cX0_settle 29 = .ok (.return_, 1) := by decide +kernel
theorem dX0_settle_30 : decode cX0_settle 30 = .ok (.iload_n 1, 1) := by decide +kernel
theorem dX0_settle_31 : decode cX0_settle 31 = .ok (.ifCond .eq 9, 3) := by decide +kernel
theorem dX0_settle_34 : decode cX0_settle 34 = .ok (.aload_n 0, 1) := by decide +kernel
theorem dX0_settle_35 : decode cX0_settle 35 = .ok (.iconst 1, 1) := by decide +kernel
theorem dX0_settle_36 : decode cX0_settle 36 = .ok (.iload_n 3, 1) := by decide +kernel
theorem dX0_settle_37 : decode cX0_settle 37 = .ok (.invokevirtual 54, 3) := by decide +kernel
theorem dX0_settle_40 : decode cX0_settle 40 = .ok (.aload_n 0, 1) := by decide +kernel
theorem dX0_settle_41 : decode cX0_settle 41 = .ok (.iload_n 3, 1) := by decide +kernel
theorem dX0_settle_42 : decode cX0_settle 42 = .ok (.invokevirtual 58, 3) := by decide +kernel
theorem dX0_settle_45 : decode cX0_settle 45 = .ok (.iinc 2 1, 3) := by decide +kernel
theorem dX0_settle_48 : decode cX0_settle 48 = .ok (.goto (-46), 3) := by decide +kernel
theorem dX0_settle_51 : decode cX0_settle 51 = .ok (.return_, 1) := by decide +kernel
theorem dX0_dyingBits_0 : decode cX0_dyingBits 0 = .ok (.iconst 0, 1) := by decide +kernel
theorem dX0_dyingBits_1 : decode cX0_dyingBits 1 = .ok (.istore_n 1, 1) := by decide +kernel
theorem dX0_dyingBits_2 : decode cX0_dyingBits 2 = .ok (.iconst 0, 1) := by decide +kernel
theorem dX0_dyingBits_3 : decode cX0_dyingBits 3 = .ok (.istore_n 2, 1) := by decide +kernel
theorem dX0_dyingBits_4 : decode cX0_dyingBits 4 = .ok (.iload_n 2, 1) := by decide +kernel
theorem dX0_dyingBits_5 : decode cX0_dyingBits 5 = .ok (.aload_n 0, 1) := by decide +kernel
theorem dX0_dyingBits_6 : decode cX0_dyingBits 6 = .ok (.getfield 12, 3) := by decide +kernel
theorem dX0_dyingBits_9 : decode cX0_dyingBits 9 = .ok (.getfield 62, 3) := by decide +kernel
theorem dX0_dyingBits_12 : decode cX0_dyingBits 12 = .ok (.if_icmp .ge 54, 3) := by decide +kernel
theorem dX0_dyingBits_15 : decode cX0_dyingBits 15 = .ok (.aload_n 0, 1) := by decide +kernel
theorem dX0_dyingBits_16 : decode cX0_dyingBits 16 = .ok (.getfield 12, 3) := by decide +kernel
theorem dX0_dyingBits_19 : decode cX0_dyingBits 19 = .ok (.getfield 65, 3) := by decide +kernel
theorem dX0_dyingBits_22 : decode cX0_dyingBits 22 = .ok (.iload_n 2, 1) := by decide +kernel
theorem dX0_dyingBits_23 : decode cX0_dyingBits 23 = .ok (.aaload, 1) := by decide +kernel
theorem dX0_dyingBits_24 : decode cX0_dyingBits 24 = .ok (.getfield 69, 3) := by decide +kernel
theorem dX0_dyingBits_27 : decode cX0_dyingBits 27 = .ok (.ifCond .eq 33, 3) := by decide +kernel
theorem dX0_dyingBits_30 : decode cX0_dyingBits 30 = .ok (.aload_n 0, 1) := by decide +kernel
theorem dX0_dyingBits_31 : decode cX0_dyingBits 31 = .ok (.getfield 12, 3) := by decide +kernel
theorem dX0_dyingBits_34 : decode cX0_dyingBits 34 = .ok (.getfield 65, 3) := by decide +kernel
theorem dX0_dyingBits_37 : decode cX0_dyingBits 37 = .ok (.iload_n 2, 1) := by decide +kernel
theorem dX0_dyingBits_38 : decode cX0_dyingBits 38 = .ok (.aaload, 1) := by decide +kernel
theorem dX0_dyingBits_39 : decode cX0_dyingBits 39 = .ok (.getfield 75, 3) := by decide +kernel
theorem dX0_dyingBits_42 : decode cX0_dyingBits 42 = .ok (.aload_n 0, 1) := by decide +kernel
theorem dX0_dyingBits_43 : decode cX0_dyingBits 43 = .ok (.getfield 21, 3) := by decide +kernel
theorem dX0_dyingBits_46 : decode cX0_dyingBits 46 = .ok (.getfield 78, 3) := by decide +kernel
theorem dX0_dyingBits_49 : decode cX0_dyingBits 49 = .ok (.iload_n 2, 1) := by decide +kernel
theorem dX0_dyingBits_50 : decode cX0_dyingBits 50 = .ok (.iaload, 1) := by decide +kernel
theorem dX0_dyingBits_51 : decode cX0_dyingBits 51 = .ok (.if_icmp .lt 9, 3) := by decide +kernel
theorem dX0_dyingBits_54 : decode cX0_dyingBits 54 = .ok (.iload_n 1, 1) := by decide +kernel
theorem dX0_dyingBits_55 : decode cX0_dyingBits 55 = .ok (.iconst 1, 1) := by decide +kernel
theorem dX0_dyingBits_56 : decode cX0_dyingBits 56 = .ok (.iload_n 2, 1) := by decide +kernel
theorem dX0_dyingBits_57 : decode cX0_dyingBits 57 = .ok (.ishl, 1) := by decide +kernel
theorem dX0_dyingBits_58 : decode cX0_dyingBits 58 = .ok (.ior, 1) := by decide +kernel
theorem dX0_dyingBits_59 : decode cX0_dyingBits 59 = .ok (.istore_n 1, 1) := by decide +kernel
theorem dX0_dyingBits_60 : decode cX0_dyingBits 60 = .ok (.iinc 2 1, 3) := by decide +kernel
theorem dX0_dyingBits_63 : decode cX0_dyingBits 63 = .ok (.goto (-59), 3) := by decide +kernel
theorem dX0_dyingBits_66 : decode cX0_dyingBits 66 = .ok (.iload_n 1, 1) := by decide +kernel
theorem dX0_dyingBits_67 : decode cX0_dyingBits 67 = .ok (.ireturn, 1) := by decide +kernel
theorem dX0_bury_0 : decode cX0_bury 0 = .ok (.iconst 0, 1) := by decide +kernel
theorem dX0_bury_1 : decode cX0_bury 1 = .ok (.istore_n 2, 1) := by decide +kernel
theorem dX0_bury_2 : decode cX0_bury 2 = .ok (.iload_n 2, 1) := by decide +kernel
theorem dX0_bury_3 : decode cX0_bury 3 = .ok (.aload_n 0, 1) := by decide +kernel
theorem dX0_bury_4 : decode cX0_bury 4 = .ok (.getfield 12, 3) := by decide +kernel
theorem dX0_bury_7 : decode cX0_bury 7 = .ok (.getfield 62, 3) := by decide +kernel
theorem dX0_bury_10 : decode cX0_bury 10 = .ok (.if_icmp .ge 47, 3) := by decide +kernel
theorem dX0_bury_13 : decode cX0_bury 13 = .ok (.iload_n 1, 1) := by decide +kernel
theorem dX0_bury_14 : decode cX0_bury 14 = .ok (.iload_n 2, 1) := by decide +kernel
theorem dX0_bury_15 : decode cX0_bury 15 = .ok (.ishr, 1) := by decide +kernel
theorem dX0_bury_16 : decode cX0_bury 16 = .ok (.iconst 1, 1) := by decide +kernel
theorem dX0_bury_17 : decode cX0_bury 17 = .ok (.iand, 1) := by decide +kernel
theorem dX0_bury_18 : decode cX0_bury 18 = .ok (.ifCond .eq 33, 3) := by decide +kernel
theorem dX0_bury_21 : decode cX0_bury 21 = .ok (.aload_n 0, 1) := by decide +kernel
theorem dX0_bury_22 : decode cX0_bury 22 = .ok (.getfield 21, 3) := by decide +kernel
theorem dX0_bury_25 : decode cX0_bury 25 = .ok (.aload_n 0, 1) := by decide +kernel
theorem dX0_bury_26 : decode cX0_bury 26 = .ok (.getfield 12, 3) := by decide +kernel
theorem dX0_bury_29 : decode cX0_bury 29 = .ok (.getfield 65, 3) := by decide +kernel
theorem dX0_bury_32 : decode cX0_bury 32 = .ok (.iload_n 2, 1) := by decide +kernel
theorem dX0_bury_33 : decode cX0_bury 33 = .ok (.aaload, 1) := by decide +kernel
theorem dX0_bury_34 : decode cX0_bury 34 = .ok (.iload_n 2, 1) := by decide +kernel
theorem dX0_bury_35 : decode cX0_bury 35 = .ok (.invokevirtual 81, 3) := by decide +kernel
theorem dX0_bury_38 : decode cX0_bury 38 = .ok (.aload_n 0, 1) := by decide +kernel
theorem dX0_bury_39 : decode cX0_bury 39 = .ok (.getfield 12, 3) := by decide +kernel
theorem dX0_bury_42 : decode cX0_bury 42 = .ok (.getfield 65, 3) := by decide +kernel
theorem dX0_bury_45 : decode cX0_bury 45 = .ok (.iload_n 2, 1) := by decide +kernel
theorem dX0_bury_46 : decode cX0_bury 46 = .ok (.aaload, 1) := by decide +kernel
theorem dX0_bury_47 : decode cX0_bury 47 = .ok (.iconst 0, 1) := by decide +kernel
theorem dX0_bury_48 : decode cX0_bury 48 = .ok (.putfield 69, 3) := by decide +kernel
theorem dX0_bury_51 : decode cX0_bury 51 = .ok (.iinc 2 1, 3) := by decide +kernel
theorem dX0_bury_54 : decode cX0_bury 54 = .ok (.goto (-52), 3) := by decide +kernel
theorem dX0_bury_57 : decode cX0_bury 57 = .ok (.return_, 1) := by decide +kernel
theorem dX0_setOffByTurn_0 : decode cX0_setOffByTurn 0 = .ok (.iconst 0, 1) := by decide +kernel
theorem dX0_setOffByTurn_1 : decode cX0_setOffByTurn 1 = .ok (.istore_n 1, 1) := by decide +kernel
theorem dX0_setOffByTurn_2 : decode cX0_setOffByTurn 2 = .ok (.iload_n 1, 1) := by decide +kernel
theorem dX0_setOffByTurn_3 : decode cX0_setOffByTurn 3 = .ok (.aload_n 0, 1) := by decide +kernel
theorem dX0_setOffByTurn_4 : decode cX0_setOffByTurn 4 = .ok (.getfield 12, 3) := by decide +kernel
theorem dX0_setOffByTurn_7 : decode cX0_setOffByTurn 7 = .ok (.getfield 85, 3) := by decide +kernel
theorem dX0_setOffByTurn_10 : decode cX0_setOffByTurn 10 = .ok (.if_icmp .ge 53, 3) := by decide +kernel
theorem dX0_setOffByTurn_13 : decode cX0_setOffByTurn 13 = .ok (.aload_n 0, 1) := by decide +kernel
theorem dX0_setOffByTurn_14 : decode cX0_setOffByTurn 14 = .ok (.getfield 12, 3) := by decide +kernel
theorem dX0_setOffByTurn_17 : decode cX0_setOffByTurn 17 = .ok (.getfield 88, 3) := by decide +kernel
theorem dX0_setOffByTurn_20 : decode cX0_setOffByTurn 20 = .ok (.iload_n 1, 1) := by decide +kernel
theorem dX0_setOffByTurn_21 : decode cX0_setOffByTurn 21 = .ok (.aaload, 1) := by decide +kernel
theorem dX0_setOffByTurn_22 : decode cX0_setOffByTurn 22 = .ok (.getfield 92, 3) := by decide +kernel
theorem dX0_setOffByTurn_25 : decode cX0_setOffByTurn 25 = .ok (.aload_n 0, 1) := by decide +kernel
theorem dX0_setOffByTurn_26 : decode cX0_setOffByTurn 26 = .ok (.getfield 12, 3) := by decide +kernel
theorem dX0_setOffByTurn_29 : decode cX0_setOffByTurn 29 = .ok (.getfield 97, 3) := by decide +kernel
theorem dX0_setOffByTurn_32 : decode cX0_setOffByTurn 32 = .ok (.if_icmp .ne 25, 3) := by decide +kernel
theorem dX0_setOffByTurn_35 : decode cX0_setOffByTurn 35 = .ok (.aload_n 0, 1) := by decide +kernel
theorem dX0_setOffByTurn_36 : decode cX0_setOffByTurn 36 = .ok (.getfield 12, 3) := by decide +kernel
theorem dX0_setOffByTurn_39 : decode cX0_setOffByTurn 39 = .ok (.getfield 88, 3) := by decide +kernel
theorem dX0_setOffByTurn_42 : decode cX0_setOffByTurn 42 = .ok (.iload_n 1, 1) := by decide +kernel
theorem dX0_setOffByTurn_43 : decode cX0_setOffByTurn 43 = .ok (.aaload, 1) := by decide +kernel
theorem dX0_setOffByTurn_44 : decode cX0_setOffByTurn 44 = .ok (.getfield 100, 3) := by decide +kernel
theorem dX0_setOffByTurn_47 : decode cX0_setOffByTurn 47 = .ok (.iconst 2, 1) := by decide +kernel
theorem dX0_setOffByTurn_48 : decode cX0_setOffByTurn 48 = .ok (.if_icmp .ne 9, 3) := by decide +kernel
theorem dX0_setOffByTurn_51 : decode cX0_setOffByTurn 51 = .ok (.aload_n 0, 1) := by decide +kernel
theorem dX0_setOffByTurn_52 : decode cX0_setOffByTurn 52 = .ok (.iload_n 1, 1) := by decide +kernel
theorem dX0_setOffByTurn_53 : decode cX0_setOffByTurn 53 = .ok (.iconst (-1), 1) := by decide +kernel
theorem dX0_setOffByTurn_54 : decode cX0_setOffByTurn 54 = .ok (.invokevirtual 103, 3) := by decide +kernel
theorem dX0_setOffByTurn_57 : decode cX0_setOffByTurn 57 = .ok (.iinc 1 1, 3) := by decide +kernel
theorem dX0_setOffByTurn_60 : decode cX0_setOffByTurn 60 = .ok (.goto (-58), 3) := by decide +kernel
theorem dX0_setOffByTurn_63 : decode cX0_setOffByTurn 63 = .ok (.return_, 1) := by decide +kernel
theorem dX0_setOff_0 : decode cX0_setOff 0 = .ok (.aload_n 0, 1) := by decide +kernel
theorem dX0_setOff_1 : decode cX0_setOff 1 = .ok (.aload_n 0, 1) := by decide +kernel
theorem dX0_setOff_2 : decode cX0_setOff 2 = .ok (.getfield 12, 3) := by decide +kernel
theorem dX0_setOff_5 : decode cX0_setOff 5 = .ok (.getfield 97, 3) := by decide +kernel
theorem dX0_setOff_8 : decode cX0_setOff 8 = .ok (.iload_n 1, 1) := by decide +kernel
theorem dX0_setOff_9 : decode cX0_setOff 9 = .ok (.iload_n 2, 1) := by decide +kernel
theorem dX0_setOff_10 : decode cX0_setOff 10 = .ok (.invokevirtual 106, 3) := by decide +kernel
theorem dX0_setOff_13 : decode cX0_setOff 13 = .ok (.aload_n 0, 1) := by decide +kernel
theorem dX0_setOff_14 : decode cX0_setOff 14 = .ok (.iconst 1, 1) := by decide +kernel
theorem dX0_setOff_15 : decode cX0_setOff 15 = .ok (.aload_n 0, 1) := by decide +kernel
theorem dX0_setOff_16 : decode cX0_setOff 16 = .ok (.getfield 12, 3) := by decide +kernel
theorem dX0_setOff_19 : decode cX0_setOff 19 = .ok (.getfield 97, 3) := by decide +kernel
theorem dX0_setOff_22 : decode cX0_setOff 22 = .ok (.isub, 1) := by decide +kernel
theorem dX0_setOff_23 : decode cX0_setOff 23 = .ok (.iload_n 1, 1) := by decide +kernel
theorem dX0_setOff_24 : decode cX0_setOff 24 = .ok (.iload_n 2, 1) := by decide +kernel
theorem dX0_setOff_25 : decode cX0_setOff 25 = .ok (.invokevirtual 106, 3) := by decide +kernel
theorem dX0_setOff_28 : decode cX0_setOff 28 = .ok (.return_, 1) := by decide +kernel
theorem dX0_setOffOf_0 : decode cX0_setOffOf 0 = .ok (.iconst 0, 1) := by decide +kernel
theorem dX0_setOffOf_1 : decode cX0_setOffOf 1 = .ok (.istore 4, 2) := by decide +kernel
theorem dX0_setOffOf_3 : decode cX0_setOffOf 3 = .ok (.iload 4, 2) := by decide +kernel
theorem dX0_setOffOf_5 : decode cX0_setOffOf 5 = .ok (.aload_n 0, 1) := by decide +kernel
theorem dX0_setOffOf_6 : decode cX0_setOffOf 6 = .ok (.getfield 12, 3) := by decide +kernel
theorem dX0_setOffOf_9 : decode cX0_setOffOf 9 = .ok (.getfield 85, 3) := by decide +kernel
theorem dX0_setOffOf_12 : decode cX0_setOffOf 12 = .ok (.if_icmp .ge 103, 3) := by decide +kernel
theorem dX0_setOffOf_15 : decode cX0_setOffOf 15 = .ok (.aload_n 0, 1) := by decide +kernel
theorem dX0_setOffOf_16 : decode cX0_setOffOf 16 = .ok (.getfield 12, 3) := by decide +kernel
theorem dX0_setOffOf_19 : decode cX0_setOffOf 19 = .ok (.getfield 88, 3) := by decide +kernel
theorem dX0_setOffOf_22 : decode cX0_setOffOf 22 = .ok (.iload 4, 2) := by decide +kernel
theorem dX0_setOffOf_24 : decode cX0_setOffOf 24 = .ok (.aaload, 1) := by decide +kernel
theorem dX0_setOffOf_25 : decode cX0_setOffOf 25 = .ok (.astore 5, 2) := by decide +kernel
theorem dX0_setOffOf_27 : decode cX0_setOffOf 27 = .ok (.aload 5, 2) := by decide +kernel
theorem dX0_setOffOf_29 : decode cX0_setOffOf 29 = .ok (.getfield 92, 3) := by decide +kernel
theorem dX0_setOffOf_32 : decode cX0_setOffOf 32 = .ok (.iload_n 1, 1) := by decide +kernel
theorem dX0_setOffOf_33 : decode cX0_setOffOf 33 = .ok (.if_icmp .ne 76, 3) := by decide +kernel
theorem dX0_setOffOf_36 : decode cX0_setOffOf 36 = .ok (.aload 5, 2) := by decide +kernel
theorem dX0_setOffOf_38 : decode cX0_setOffOf 38 = .ok (.getfield 100, 3) := by decide +kernel
theorem dX0_setOffOf_41 : decode cX0_setOffOf 41 = .ok (.iload_n 2, 1) := by decide +kernel
theorem dX0_setOffOf_42 : decode cX0_setOffOf 42 = .ok (.if_icmp .ne 67, 3) := by decide +kernel
theorem dX0_setOffOf_45 : decode cX0_setOffOf 45 = .ok (.iconst 0, 1) := by decide +kernel
theorem dX0_setOffOf_46 : decode cX0_setOffOf 46 = .ok (.istore 6, 2) := by decide +kernel
theorem dX0_setOffOf_48 : decode cX0_setOffOf 48 = .ok (.iload 6, 2) := by decide +kernel
theorem dX0_setOffOf_50 : decode cX0_setOffOf 50 = .ok (.aload_n 0, 1) := by decide +kernel
theorem dX0_setOffOf_51 : decode cX0_setOffOf 51 = .ok (.getfield 12, 3) := by decide +kernel
theorem dX0_setOffOf_54 : decode cX0_setOffOf 54 = .ok (.getfield 62, 3) := by decide +kernel
theorem dX0_setOffOf_57 : decode cX0_setOffOf 57 = .ok (.if_icmp .ge 52, 3) := by decide +kernel
theorem dX0_setOffOf_60 : decode cX0_setOffOf 60 = .ok (.iload_n 3, 1) := by decide +kernel
theorem dX0_setOffOf_61 : decode cX0_setOffOf 61 = .ok (.iload 6, 2) := by decide +kernel
theorem dX0_setOffOf_63 : decode cX0_setOffOf 63 = .ok (.ishr, 1) := by decide +kernel
theorem dX0_setOffOf_64 : decode cX0_setOffOf 64 = .ok (.iconst 1, 1) := by decide +kernel
theorem dX0_setOffOf_65 : decode cX0_setOffOf 65 = .ok (.iand, 1) := by decide +kernel
theorem dX0_setOffOf_66 : decode cX0_setOffOf 66 = .ok (.ifCond .eq 37, 3) := by decide +kernel
theorem dX0_setOffOf_69 : decode cX0_setOffOf 69 = .ok (.aload_n 0, 1) := by decide +kernel
theorem dX0_setOffOf_70 : decode cX0_setOffOf 70 = .ok (.getfield 21, 3) := by decide +kernel
theorem dX0_setOffOf_73 : decode cX0_setOffOf 73 = .ok (.aload_n 0, 1) := by decide +kernel
theorem dX0_setOffOf_74 : decode cX0_setOffOf 74 = .ok (.getfield 12, 3) := by decide +kernel
theorem dX0_setOffOf_77 : decode cX0_setOffOf 77 = .ok (.iload 6, 2) := by decide +kernel
theorem dX0_setOffOf_79 : decode cX0_setOffOf 79 = .ok (.aload 5, 2) := by decide +kernel
theorem dX0_setOffOf_81 : decode cX0_setOffOf 81 = .ok (.getfield 110, 3) := by decide +kernel
theorem dX0_setOffOf_84 : decode cX0_setOffOf 84 = .ok (.aload 5, 2) := by decide +kernel
theorem dX0_setOffOf_86 : decode cX0_setOffOf 86 = .ok (.getfield 113, 3) := by decide +kernel
theorem dX0_setOffOf_89 : decode cX0_setOffOf 89 = .ok (.invokevirtual 116, 3) := by decide +kernel
theorem dX0_setOffOf_92 : decode cX0_setOffOf 92 = .ok (.ifCond .eq 11, 3) := by decide +kernel
theorem dX0_setOffOf_95 : decode cX0_setOffOf 95 = .ok (.aload_n 0, 1) := by decide +kernel
theorem dX0_setOffOf_96 : decode cX0_setOffOf 96 = .ok (.iload 4, 2) := by decide +kernel
theorem dX0_setOffOf_98 : decode cX0_setOffOf 98 = .ok (.iload 6, 2) := by decide +kernel
theorem dX0_setOffOf_100 : decode cX0_setOffOf 100 = .ok (.invokevirtual 103, 3) := by decide +kernel
theorem dX0_setOffOf_103 : decode cX0_setOffOf 103 = .ok (.iinc 6 1, 3) := by decide +kernel
theorem dX0_setOffOf_106 : decode cX0_setOffOf 106 = .ok (.goto (-58), 3) := by decide +kernel
theorem dX0_setOffOf_109 : decode cX0_setOffOf 109 = .ok (.iinc 4 1, 3) := by decide +kernel
theorem dX0_setOffOf_112 : decode cX0_setOffOf 112 = .ok (.goto (-109), 3) := by decide +kernel
theorem dX0_setOffOf_115 : decode cX0_setOffOf 115 = .ok (.return_, 1) := by decide +kernel
theorem dX0_push_0 : decode cX0_push 0 = .ok (.aload_n 0, 1) := by decide +kernel
theorem dX0_push_1 : decode cX0_push 1 = .ok (.getfield 42, 3) := by decide +kernel
theorem dX0_push_4 : decode cX0_push 4 = .ok (.ifCond .lt 43, 3) := by decide +kernel
theorem dX0_push_7 : decode cX0_push 7 = .ok (.aload_n 0, 1) := by decide +kernel
theorem dX0_push_8 : decode cX0_push 8 = .ok (.getfield 42, 3) := by decide +kernel
theorem dX0_push_11 : decode cX0_push 11 = .ok (.sipush 400, 3) := by decide +kernel
theorem dX0_push_14 : decode cX0_push 14 = .ok (.if_icmp .ge 33, 3) := by decide +kernel
theorem dX0_push_17 : decode cX0_push 17 = .ok (.aload_n 0, 1) := by decide +kernel
theorem dX0_push_18 : decode cX0_push 18 = .ok (.getfield 32, 3) := by decide +kernel
theorem dX0_push_21 : decode cX0_push 21 = .ok (.aload_n 0, 1) := by decide +kernel
theorem dX0_push_22 : decode cX0_push 22 = .ok (.getfield 42, 3) := by decide +kernel
theorem dX0_push_25 : decode cX0_push 25 = .ok (.iload_n 1, 1) := by decide +kernel
theorem dX0_push_26 : decode cX0_push 26 = .ok (.iastore, 1) := by decide +kernel
theorem dX0_push_27 : decode cX0_push 27 = .ok (.aload_n 0, 1) := by decide +kernel
theorem dX0_push_28 : decode cX0_push 28 = .ok (.getfield 36, 3) := by decide +kernel
theorem dX0_push_31 : decode cX0_push 31 = .ok (.aload_n 0, 1) := by decide +kernel
theorem dX0_push_32 : decode cX0_push 32 = .ok (.getfield 42, 3) := by decide +kernel
theorem dX0_push_35 : decode cX0_push 35 = .ok (.iload_n 2, 1) := by decide +kernel
theorem dX0_push_36 : decode cX0_push 36 = .ok (.iastore, 1) := by decide +kernel
theorem dX0_push_37 : decode cX0_push 37 = .ok (.aload_n 0, 1) := by decide +kernel
theorem dX0_push_38 : decode cX0_push 38 = .ok (.dup, 1) := by decide +kernel
theorem dX0_push_39 : decode cX0_push 39 = .ok (.getfield 42, 3) := by decide +kernel
theorem dX0_push_42 : decode cX0_push 42 = .ok (.iconst 1, 1) := by decide +kernel
theorem dX0_push_43 : decode cX0_push 43 = .ok (.iadd, 1) := by decide +kernel
theorem dX0_push_44 : decode cX0_push 44 = .ok (.putfield 42, 3) := by decide +kernel
theorem dX0_push_47 : decode cX0_push 47 = .ok (.return_, 1) := by decide +kernel
theorem dX0_strike_0 : decode cX0_strike 0 = .ok (.aload_n 0, 1) := by decide +kernel
theorem dX0_strike_1 : decode cX0_strike 1 = .ok (.getfield 28, 3) := by decide +kernel
theorem dX0_strike_4 : decode cX0_strike 4 = .ok (.aload_n 0, 1) := by decide +kernel
theorem dX0_strike_5 : decode cX0_strike 5 = .ok (.getfield 12, 3) := by decide +kernel
theorem dX0_strike_8 : decode cX0_strike 8 = .ok (.aload_n 0, 1) := by decide +kernel
theorem dX0_strike_9 : decode cX0_strike 9 = .ok (.getfield 21, 3) := by decide +kernel
theorem dX0_strike_12 : decode cX0_strike 12 = .ok (.iload_n 1, 1) := by decide +kernel
theorem dX0_strike_13 : decode cX0_strike 13 = .ok (.iload_n 2, 1) := by decide +kernel
theorem dX0_strike_14 : decode cX0_strike 14 = .ok (.invokevirtual 120, 3) := by decide +kernel
theorem dX0_strike_17 : decode cX0_strike 17 = .ok (.aload_n 0, 1) := by decide +kernel
theorem dX0_strike_18 : decode cX0_strike 18 = .ok (.invokevirtual 124, 3) := by decide +kernel
theorem dX0_strike_21 : decode cX0_strike 21 = .ok (.aload_n 0, 1) := by decide +kernel
theorem dX0_strike_22 : decode cX0_strike 22 = .ok (.getfield 12, 3) := by decide +kernel
theorem dX0_strike_25 : decode cX0_strike 25 = .ok (.aload_n 0, 1) := by decide +kernel
theorem dX0_strike_26 : decode cX0_strike 26 = .ok (.getfield 28, 3) := by decide +kernel
theorem dX0_strike_29 : decode cX0_strike 29 = .ok (.getfield 127, 3) := by decide +kernel
theorem dX0_strike_32 : decode cX0_strike 32 = .ok (.invokevirtual 130, 3) := by decide +kernel
theorem dX0_strike_35 : decode cX0_strike 35 = .ok (.ifCond .ne 4, 3) := by decide +kernel
theorem dX0_strike_38 : decode cX0_strike 38 = .ok (.return_, 1) := by decide +kernel
theorem dX0_strike_39 : decode cX0_strike 39 = .ok (.aload_n 0, 1) := by decide +kernel
theorem dX0_strike_40 : decode cX0_strike 40 = .ok (.getfield 12, 3) := by decide +kernel
theorem dX0_strike_43 : decode cX0_strike 43 = .ok (.getfield 65, 3) := by decide +kernel
theorem dX0_strike_46 : decode cX0_strike 46 = .ok (.aload_n 0, 1) := by decide +kernel
theorem dX0_strike_47 : decode cX0_strike 47 = .ok (.getfield 28, 3) := by decide +kernel
theorem dX0_strike_50 : decode cX0_strike 50 = .ok (.getfield 127, 3) := by decide +kernel
theorem dX0_strike_53 : decode cX0_strike 53 = .ok (.aaload, 1) := by decide +kernel
theorem dX0_strike_54 : decode cX0_strike 54 = .ok (.astore_n 3, 1) := by decide +kernel
theorem dX0_strike_55 : decode cX0_strike 55 = .ok (.aload_n 0, 1) := by decide +kernel
theorem dX0_strike_56 : decode cX0_strike 56 = .ok (.getfield 28, 3) := by decide +kernel
theorem dX0_strike_59 : decode cX0_strike 59 = .ok (.getfield 134, 3) := by decide +kernel
theorem dX0_strike_62 : decode cX0_strike 62 = .ok (.ifCond .eq 17, 3) := by decide +kernel
theorem dX0_strike_65 : decode cX0_strike 65 = .ok (.aload_n 3, 1) := by decide +kernel
theorem dX0_strike_66 : decode cX0_strike 66 = .ok (.aload_n 0, 1) := by decide +kernel
theorem dX0_strike_67 : decode cX0_strike 67 = .ok (.getfield 28, 3) := by decide +kernel
theorem dX0_strike_70 : decode cX0_strike 70 = .ok (.getfield 137, 3) := by decide +kernel
theorem dX0_strike_73 : decode cX0_strike 73 = .ok (.invokevirtual 140, 3) := by decide +kernel
theorem dX0_strike_76 : decode cX0_strike 76 = .ok (.goto 49, 3) := by decide +kernel
theorem dX0_strike_79 : decode cX0_strike 79 = .ok (.aload_n 0, 1) := by decide +kernel
theorem dX0_strike_80 : decode cX0_strike 80 = .ok (.getfield 28, 3) := by decide +kernel
theorem dX0_strike_83 : decode cX0_strike 83 = .ok (.getfield 137, 3) := by decide +kernel
theorem dX0_strike_86 : decode cX0_strike 86 = .ok (.ifCond .le 39, 3) := by decide +kernel
theorem dX0_strike_89 : decode cX0_strike 89 = .ok (.aload_n 3, 1) := by decide +kernel
theorem dX0_strike_90 : decode cX0_strike 90 = .ok (.sipush 999, 3) := by decide +kernel
theorem dX0_strike_93 : decode cX0_strike 93 = .ok (.aload_n 3, 1) := by decide +kernel
theorem dX0_strike_94 : decode cX0_strike 94 = .ok (.getfield 75, 3) := by decide +kernel
theorem dX0_strike_97 : decode cX0_strike 97 = .ok (.aload_n 0, 1) := by decide +kernel
theorem dX0_strike_98 : decode cX0_strike 98 = .ok (.getfield 28, 3) := by decide +kernel
theorem dX0_strike_101 : decode cX0_strike 101 = .ok (.getfield 137, 3) := by decide +kernel
theorem dX0_strike_104 : decode cX0_strike 104 = .ok (.iadd, 1) := by decide +kernel
theorem dX0_strike_105 : decode cX0_strike 105 = .ok (.invokestatic 143, 3) := by decide +kernel
theorem dX0_strike_108 : decode cX0_strike 108 = .ok (.putfield 75, 3) := by decide +kernel
theorem dX0_strike_111 : decode cX0_strike 111 = .ok (.aload_n 0, 1) := by decide +kernel
theorem dX0_strike_112 : decode cX0_strike 112 = .ok (.iconst 0, 1) := by decide +kernel
theorem dX0_strike_113 : decode cX0_strike 113 = .ok (.iconst 1, 1) := by decide +kernel
theorem dX0_strike_114 : decode cX0_strike 114 = .ok (.aload_n 0, 1) := by decide +kernel
theorem dX0_strike_115 : decode cX0_strike 115 = .ok (.getfield 28, 3) := by decide +kernel
theorem dX0_strike_118 : decode cX0_strike 118 = .ok (.getfield 127, 3) := by decide +kernel
theorem dX0_strike_121 : decode cX0_strike 121 = .ok (.ishl, 1) := by decide +kernel
theorem dX0_strike_122 : decode cX0_strike 122 = .ok (.invokevirtual 54, 3) := by decide +kernel
theorem dX0_strike_125 : decode cX0_strike 125 = .ok (.return_, 1) := by decide +kernel
theorem dX0_spendRules_0 : decode cX0_spendRules 0 = .ok (.aload_n 0, 1) := by decide +kernel
theorem dX0_spendRules_1 : decode cX0_spendRules 1 = .ok (.getfield 12, 3) := by decide +kernel
theorem dX0_spendRules_4 : decode cX0_spendRules 4 = .ok (.getfield 149, 3) := by decide +kernel
theorem dX0_spendRules_7 : decode cX0_spendRules 7 = .ok (.iconst 1, 1) := by decide +kernel
theorem dX0_spendRules_8 : decode cX0_spendRules 8 = .ok (.isub, 1) := by decide +kernel
theorem dX0_spendRules_9 : decode cX0_spendRules 9 = .ok (.istore_n 1, 1) := by decide +kernel
theorem dX0_spendRules_10 : decode cX0_spendRules 10 = .ok (.iload_n 1, 1) := by decide +kernel
theorem dX0_spendRules_11 : decode cX0_spendRules 11 = .ok (.ifCond .lt 73, 3) := by decide +kernel
theorem dX0_spendRules_14 : decode cX0_spendRules 14 = .ok (.aload_n 0, 1) := by decide +kernel
theorem dX0_spendRules_15 : decode cX0_spendRules 15 = .ok (.getfield 12, 3) := by decide +kernel
theorem dX0_spendRules_18 : decode cX0_spendRules 18 = .ok (.getfield 152, 3) := by decide +kernel
theorem dX0_spendRules_21 : decode cX0_spendRules 21 = .ok (.iload_n 1, 1) := by decide +kernel
theorem dX0_spendRules_22 : decode cX0_spendRules 22 = .ok (.aaload, 1) := by decide +kernel
theorem dX0_spendRules_23 : decode cX0_spendRules 23 = .ok (.astore_n 2, 1) := by decide +kernel
theorem dX0_spendRules_24 : decode cX0_spendRules 24 = .ok (.aload_n 2, 1) := by decide +kernel
theorem dX0_spendRules_25 : decode cX0_spendRules 25 = .ok (.getfield 156, 3) := by decide +kernel
theorem dX0_spendRules_28 : decode cX0_spendRules 28 = .ok (.ifCond .ne 50, 3) := by decide +kernel
theorem dX0_spendRules_31 : decode cX0_spendRules 31 = .ok (.aload_n 0, 1) := by decide +kernel
theorem dX0_spendRules_32 : decode cX0_spendRules 32 = .ok (.getfield 28, 3) := by decide +kernel
theorem dX0_spendRules_35 : decode cX0_spendRules 35 = .ok (.getfield 161, 3) := by decide +kernel
theorem dX0_spendRules_38 : decode cX0_spendRules 38 = .ok (.iload_n 1, 1) := by decide +kernel
theorem dX0_spendRules_39 : decode cX0_spendRules 39 = .ok (.ishr, 1) := by decide +kernel
theorem dX0_spendRules_40 : decode cX0_spendRules 40 = .ok (.iconst 1, 1) := by decide +kernel
theorem dX0_spendRules_41 : decode cX0_spendRules 41 = .ok (.iand, 1) := by decide +kernel
theorem dX0_spendRules_42 : decode cX0_spendRules 42 = .ok (.ifCond .eq 36, 3) := by decide +kernel
theorem dX0_spendRules_45 : decode cX0_spendRules 45 = .ok (.aload_n 2, 1) := by decide +kernel
theorem dX0_spendRules_46 : decode cX0_spendRules 46 = .ok (.dup, 1) := by decide +kernel
theorem dX0_spendRules_47 : decode cX0_spendRules 47 = .ok (.getfield 164, 3) := by decide +kernel
theorem dX0_spendRules_50 : decode cX0_spendRules 50 = .ok (.aload_n 0, 1) := by decide +kernel
theorem dX0_spendRules_51 : decode cX0_spendRules 51 = .ok (.getfield 28, 3) := by decide +kernel
theorem dX0_spendRules_54 : decode cX0_spendRules 54 = .ok (.getfield 167, 3) := by decide +kernel
theorem dX0_spendRules_57 : decode cX0_spendRules 57 = .ok (.iload_n 1, 1) := by decide +kernel
theorem dX0_spendRules_58 : decode cX0_spendRules 58 = .ok (.iaload, 1) := by decide +kernel
theorem dX0_spendRules_59 : decode cX0_spendRules 59 = .ok (.isub, 1) := by decide +kernel
theorem dX0_spendRules_60 : decode cX0_spendRules 60 = .ok (.putfield 164, 3) := by decide +kernel
theorem dX0_spendRules_63 : decode cX0_spendRules 63 = .ok (.aload_n 2, 1) := by decide +kernel
theorem dX0_spendRules_64 : decode cX0_spendRules 64 = .ok (.getfield 164, 3) := by decide +kernel
theorem dX0_spendRules_67 : decode cX0_spendRules 67 = .ok (.ifCond .gt 11, 3) := by decide +kernel
theorem dX0_spendRules_70 : decode cX0_spendRules 70 = .ok (.aload_n 0, 1) := by decide +kernel
theorem dX0_spendRules_71 : decode cX0_spendRules 71 = .ok (.getfield 12, 3) := by decide +kernel
theorem dX0_spendRules_74 : decode cX0_spendRules 74 = .ok (.iload_n 1, 1) := by decide +kernel
theorem dX0_spendRules_75 : decode cX0_spendRules 75 = .ok (.invokevirtual 170, 3) := by decide +kernel
theorem dX0_spendRules_78 : decode cX0_spendRules 78 = .ok (.iinc 1 (-1), 3) := by decide +kernel
theorem dX0_spendRules_81 : decode cX0_spendRules 81 = .ok (.goto (-71), 3) := by decide +kernel
theorem dX0_spendRules_84 : decode cX0_spendRules 84 = .ok (.return_, 1) := by decide +kernel
theorem dX0_finish_0 : decode cX0_finish 0 = .ok (.aload_n 0, 1) := by decide +kernel
theorem dX0_finish_1 : decode cX0_finish 1 = .ok (.iconst 1, 1) := by decide +kernel
theorem dX0_finish_2 : decode cX0_finish 2 = .ok (.invokevirtual 173, 3) := by decide +kernel
theorem dX0_finish_5 : decode cX0_finish 5 = .ok (.iconst 0, 1) := by decide +kernel
theorem dX0_finish_6 : decode cX0_finish 6 = .ok (.istore_n 1, 1) := by decide +kernel
theorem dX0_finish_7 : decode cX0_finish 7 = .ok (.iconst 0, 1) := by decide +kernel
theorem dX0_finish_8 : decode cX0_finish 8 = .ok (.istore_n 2, 1) := by decide +kernel
theorem dX0_finish_9 : decode cX0_finish 9 = .ok (.iload_n 2, 1) := by decide +kernel
theorem dX0_finish_10 : decode cX0_finish 10 = .ok (.bipush 40, 2) := by decide +kernel
theorem dX0_finish_12 : decode cX0_finish 12 = .ok (.if_icmp .ge 78, 3) := by decide +kernel
theorem dX0_finish_15 : decode cX0_finish 15 = .ok (.aload_n 0, 1) := by decide +kernel
theorem dX0_finish_16 : decode cX0_finish 16 = .ok (.getfield 42, 3) := by decide +kernel
theorem dX0_finish_19 : decode cX0_finish 19 = .ok (.iconst 1, 1) := by decide +kernel
theorem dX0_finish_20 : decode cX0_finish 20 = .ok (.sipush 400, 3) := by decide +kernel
theorem dX0_finish_23 : decode cX0_finish 23 = .ok (.invokestatic 177, 3) := by decide +kernel
theorem dX0_finish_26 : decode cX0_finish 26 = .ok (.ifCond .eq 64, 3) := by decide +kernel
theorem dX0_finish_29 : decode cX0_finish 29 = .ok (.aload_n 0, 1) := by decide +kernel
theorem dX0_finish_30 : decode cX0_finish 30 = .ok (.dup, 1) := by decide +kernel
theorem dX0_finish_31 : decode cX0_finish 31 = .ok (.getfield 42, 3) := by decide +kernel
theorem dX0_finish_34 : decode cX0_finish 34 = .ok (.iconst 1, 1) := by decide +kernel
theorem dX0_finish_35 : decode cX0_finish 35 = .ok (.isub, 1) := by decide +kernel
theorem dX0_finish_36 : decode cX0_finish 36 = .ok (.putfield 42, 3) := by decide +kernel
theorem dX0_finish_39 : decode cX0_finish 39 = .ok (.aload_n 0, 1) := by decide +kernel
theorem dX0_finish_40 : decode cX0_finish 40 = .ok (.getfield 39, 3) := by decide +kernel
theorem dX0_finish_43 : decode cX0_finish 43 = .ok (.iload_n 2, 1) := by decide +kernel
theorem dX0_finish_44 : decode cX0_finish 44 = .ok (.aload_n 0, 1) := by decide +kernel
theorem dX0_finish_45 : decode cX0_finish 45 = .ok (.getfield 32, 3) := by decide +kernel
theorem dX0_finish_48 : decode cX0_finish 48 = .ok (.aload_n 0, 1) := by decide +kernel
theorem dX0_finish_49 : decode cX0_finish 49 = .ok (.getfield 42, 3) := by decide +kernel
theorem dX0_finish_52 : decode cX0_finish 52 = .ok (.iaload, 1) := by decide +kernel
theorem dX0_finish_53 : decode cX0_finish 53 = .ok (.iastore, 1) := by decide +kernel
theorem dX0_finish_54 : decode cX0_finish 54 = .ok (.aload_n 0, 1) := by decide +kernel
theorem dX0_finish_55 : decode cX0_finish 55 = .ok (.aload_n 0, 1) := by decide +kernel
end
section
theorem dX0_finish_56 : decode cX0_finish 56 = .ok (.getfield 32, 3) := by decide +kernel
theorem dX0_finish_59 : decode cX0_finish 59 = .ok (.aload_n 0, 1) := by decide +kernel
theorem dX0_finish_60 : decode cX0_finish 60 = .ok (.getfield 42, 3) := by decide +kernel
theorem dX0_finish_63 : decode cX0_finish 63 = .ok (.iaload, 1) := by decide +kernel
theorem dX0_finish_64 : decode cX0_finish 64 = .ok (.aload_n 0, 1) := by decide +kernel
theorem dX0_finish_65 : decode cX0_finish 65 = .ok (.getfield 36, 3) := by decide +kernel
theorem dX0_finish_68 : decode cX0_finish 68 = .ok (.aload_n 0, 1) := by decide +kernel
theorem dX0_finish_69 : decode cX0_finish 69 = .ok (.getfield 42, 3) := by decide +kernel
theorem dX0_finish_72 : decode cX0_finish 72 = .ok (.iaload, 1) := by decide +kernel
theorem dX0_finish_73 : decode cX0_finish 73 = .ok (.invokevirtual 181, 3) := by decide +kernel
theorem dX0_finish_76 : decode cX0_finish 76 = .ok (.aload_n 0, 1) := by decide +kernel
theorem dX0_finish_77 : decode cX0_finish 77 = .ok (.iconst 1, 1) := by decide +kernel
theorem dX0_finish_78 : decode cX0_finish 78 = .ok (.invokevirtual 173, 3) := by decide +kernel
theorem dX0_finish_81 : decode cX0_finish 81 = .ok (.iinc 1 1, 3) := by decide +kernel
theorem dX0_finish_84 : decode cX0_finish 84 = .ok (.iinc 2 1, 3) := by decide +kernel
theorem dX0_finish_87 : decode cX0_finish 87 = .ok (.goto (-78), 3) := by decide +kernel
theorem dX0_finish_90 : decode cX0_finish 90 = .ok (.aload_n 0, 1) := by decide +kernel
theorem dX0_finish_91 : decode cX0_finish 91 = .ok (.getfield 42, 3) := by decide +kernel
theorem dX0_finish_94 : decode cX0_finish 94 = .ok (.ifCond .le 8, 3) := by decide +kernel
theorem dX0_finish_97 : decode cX0_finish 97 = .ok (.bipush (-5), 2) := by decide +kernel
theorem dX0_finish_99 : decode cX0_finish 99 = .ok (.goto 4, 3) := by decide +kernel
theorem dX0_finish_102 : decode cX0_finish 102 = .ok (.iload_n 1, 1) := by decide +kernel
theorem dX0_finish_103 : decode cX0_finish 103 = .ok (.ireturn, 1) := by decide +kernel
theorem dX0_act_0 : decode cX0_act 0 = .ok (.aload_n 0, 1) := by decide +kernel
theorem dX0_act_1 : decode cX0_act 1 = .ok (.getfield 12, 3) := by decide +kernel
theorem dX0_act_4 : decode cX0_act 4 = .ok (.iload_n 1, 1) := by decide +kernel
theorem dX0_act_5 : decode cX0_act 5 = .ok (.invokevirtual 184, 3) := by decide +kernel
theorem dX0_act_8 : decode cX0_act 8 = .ok (.ifCond .ne 4, 3) := by decide +kernel
theorem dX0_act_11 : decode cX0_act 11 = .ok (.return_, 1) := by decide +kernel
theorem dX0_act_12 : decode cX0_act 12 = .ok (.aload_n 0, 1) := by decide +kernel
theorem dX0_act_13 : decode cX0_act 13 = .ok (.getfield 12, 3) := by decide +kernel
theorem dX0_act_16 : decode cX0_act 16 = .ok (.getfield 88, 3) := by decide +kernel
theorem dX0_act_19 : decode cX0_act 19 = .ok (.iload_n 1, 1) := by decide +kernel
theorem dX0_act_20 : decode cX0_act 20 = .ok (.aaload, 1) := by decide +kernel
theorem dX0_act_21 : decode cX0_act 21 = .ok (.astore_n 3, 1) := by decide +kernel
theorem dX0_act_22 : decode cX0_act 22 = .ok (.aload_n 3, 1) := by decide +kernel
theorem dX0_act_23 : decode cX0_act 23 = .ok (.getfield 187, 3) := by decide +kernel
theorem dX0_act_26 : decode cX0_act 26 = .ok (.iconst (-1), 1) := by decide +kernel
theorem dX0_act_27 : decode cX0_act 27 = .ok (.if_icmp .ne 7, 3) := by decide +kernel
theorem dX0_act_30 : decode cX0_act 30 = .ok (.iload_n 2, 1) := by decide +kernel
theorem dX0_act_31 : decode cX0_act 31 = .ok (.goto 7, 3) := by decide +kernel
theorem dX0_act_34 : decode cX0_act 34 = .ok (.aload_n 3, 1) := by decide +kernel
theorem dX0_act_35 : decode cX0_act 35 = .ok (.getfield 187, 3) := by decide +kernel
theorem dX0_act_38 : decode cX0_act 38 = .ok (.istore 4, 2) := by decide +kernel
theorem dX0_act_40 : decode cX0_act 40 = .ok (.aload_n 3, 1) := by decide +kernel
theorem dX0_act_41 : decode cX0_act 41 = .ok (.getfield 190, 3) := by decide +kernel
theorem dX0_act_44 : decode cX0_act 44 = .ok (.ifCond .le 10, 3) := by decide +kernel
theorem dX0_act_47 : decode cX0_act 47 = .ok (.aload_n 3, 1) := by decide +kernel
theorem dX0_act_48 : decode cX0_act 48 = .ok (.getfield 190, 3) := by decide +kernel
theorem dX0_act_51 : decode cX0_act 51 = .ok (.goto 15, 3) := by decide +kernel
theorem dX0_act_54 : decode cX0_act 54 = .ok (.aload_n 0, 1) := by decide +kernel
theorem dX0_act_55 : decode cX0_act 55 = .ok (.getfield 21, 3) := by decide +kernel
theorem dX0_act_58 : decode cX0_act 58 = .ok (.aload_n 0, 1) := by decide +kernel
theorem dX0_act_59 : decode cX0_act 59 = .ok (.getfield 12, 3) := by decide +kernel
theorem dX0_act_62 : decode cX0_act 62 = .ok (.iload_n 2, 1) := by decide +kernel
theorem dX0_act_63 : decode cX0_act 63 = .ok (.invokevirtual 191, 3) := by decide +kernel
theorem dX0_act_66 : decode cX0_act 66 = .ok (.istore 5, 2) := by decide +kernel
theorem dX0_act_68 : decode cX0_act 68 = .ok (.iload 5, 2) := by decide +kernel
theorem dX0_act_70 : decode cX0_act 70 = .ok (.ifCond .le 15, 3) := by decide +kernel
theorem dX0_act_73 : decode cX0_act 73 = .ok (.aload_n 0, 1) := by decide +kernel
theorem dX0_act_74 : decode cX0_act 74 = .ok (.getfield 12, 3) := by decide +kernel
theorem dX0_act_77 : decode cX0_act 77 = .ok (.iload 4, 2) := by decide +kernel
theorem dX0_act_79 : decode cX0_act 79 = .ok (.invokevirtual 195, 3) := by decide +kernel
theorem dX0_act_82 : decode cX0_act 82 = .ok (.ifCond .ne 4, 3) := by decide +kernel
theorem dX0_act_85 : decode cX0_act 85 = .ok (.return_, 1) := by decide +kernel
theorem dX0_act_86 : decode cX0_act 86 = .ok (.aload_n 3, 1) := by decide +kernel
theorem dX0_act_87 : decode cX0_act 87 = .ok (.getfield 198, 3) := by decide +kernel
theorem dX0_act_90 : decode cX0_act 90 = .ok (.ifCond .ne 14, 3) := by decide +kernel
theorem dX0_act_93 : decode cX0_act 93 = .ok (.aload_n 0, 1) := by decide +kernel
theorem dX0_act_94 : decode cX0_act 94 = .ok (.iload 4, 2) := by decide +kernel
theorem dX0_act_96 : decode cX0_act 96 = .ok (.iload 5, 2) := by decide +kernel
theorem dX0_act_98 : decode cX0_act 98 = .ok (.invokevirtual 200, 3) := by decide +kernel
theorem dX0_act_101 : decode cX0_act 101 = .ok (.goto 44, 3) := by decide +kernel
theorem dX0_act_104 : decode cX0_act 104 = .ok (.aload_n 3, 1) := by decide +kernel
theorem dX0_act_105 : decode cX0_act 105 = .ok (.getfield 198, 3) := by decide +kernel
theorem dX0_act_108 : decode cX0_act 108 = .ok (.iconst 1, 1) := by decide +kernel
theorem dX0_act_109 : decode cX0_act 109 = .ok (.if_icmp .ne 21, 3) := by decide +kernel
theorem dX0_act_112 : decode cX0_act 112 = .ok (.aload_n 0, 1) := by decide +kernel
theorem dX0_act_113 : decode cX0_act 113 = .ok (.getfield 12, 3) := by decide +kernel
theorem dX0_act_116 : decode cX0_act 116 = .ok (.getfield 65, 3) := by decide +kernel
theorem dX0_act_119 : decode cX0_act 119 = .ok (.iload 4, 2) := by decide +kernel
theorem dX0_act_121 : decode cX0_act 121 = .ok (.aaload, 1) := by decide +kernel
theorem dX0_act_122 : decode cX0_act 122 = .ok (.iload 5, 2) := by decide +kernel
theorem dX0_act_124 : decode cX0_act 124 = .ok (.invokevirtual 140, 3) := by decide +kernel
theorem dX0_act_127 : decode cX0_act 127 = .ok (.goto 18, 3) := by decide +kernel
theorem dX0_act_130 : decode cX0_act 130 = .ok (.aload_n 0, 1) := by decide +kernel
theorem dX0_act_131 : decode cX0_act 131 = .ok (.getfield 12, 3) := by decide +kernel
theorem dX0_act_134 : decode cX0_act 134 = .ok (.getfield 65, 3) := by decide +kernel
theorem dX0_act_137 : decode cX0_act 137 = .ok (.iload 4, 2) := by decide +kernel
theorem dX0_act_139 : decode cX0_act 139 = .ok (.aaload, 1) := by decide +kernel
theorem dX0_act_140 : decode cX0_act 140 = .ok (.iload 5, 2) := by decide +kernel
theorem dX0_act_142 : decode cX0_act 142 = .ok (.invokevirtual 203, 3) := by decide +kernel
theorem dX0_act_145 : decode cX0_act 145 = .ok (.return_, 1) := by decide +kernel
end
section
theorem dX1_init_0 : decode cX1_init 0 = .ok (.aload_n 0, 1) := by decide +kernel
theorem dX1_init_1 : decode cX1_init 1 = .ok (.invokespecial 3, 3) := by decide +kernel
theorem dX1_init_4 : decode cX1_init 4 = .ok (.return_, 1) := by decide +kernel
theorem dX1_become_0 : decode cX1_become 0 = .ok (.aload_n 0, 1) := by decide +kernel
theorem dX1_become_1 : decode cX1_become 1 = .ok (.iconst (-1), 1) := by decide +kernel
theorem dX1_become_2 : decode cX1_become 2 = .ok (.putfield 9, 3) := by decide +kernel
theorem dX1_become_5 : decode cX1_become 5 = .ok (.aload_n 0, 1) := by decide +kernel
theorem dX1_become_6 : decode cX1_become 6 = .ok (.iload_n 1, 1) := by decide +kernel
theorem dX1_become_7 : decode cX1_become 7 = .ok (.putfield 15, 3) := by decide +kernel
theorem dX1_become_10 : decode cX1_become 10 = .ok (.aload_n 0, 1) := by decide +kernel
theorem dX1_become_11 : decode cX1_become 11 = .ok (.iload_n 2, 1) := by decide +kernel
theorem dX1_become_12 : decode cX1_become 12 = .ok (.putfield 18, 3) := by decide +kernel
theorem dX1_become_15 : decode cX1_become 15 = .ok (.aload_n 0, 1) := by decide +kernel
theorem dX1_become_16 : decode cX1_become 16 = .ok (.iload_n 3, 1) := by decide +kernel
theorem dX1_become_17 : decode cX1_become 17 = .ok (.putfield 21, 3) := by decide +kernel
theorem dX1_become_20 : decode cX1_become 20 = .ok (.aload_n 0, 1) := by decide +kernel
theorem dX1_become_21 : decode cX1_become 21 = .ok (.iload 4, 2) := by decide +kernel
theorem dX1_become_23 : decode cX1_become 23 = .ok (.putfield 24, 3) := by decide +kernel
theorem dX1_become_26 : decode cX1_become 26 = .ok (.aload_n 0, 1) := by decide +kernel
theorem dX1_become_27 : decode cX1_become 27 = .ok (.iload 5, 2) := by decide +kernel
theorem dX1_become_29 : decode cX1_become 29 = .ok (.putfield 27, 3) := by decide +kernel
theorem dX1_become_32 : decode cX1_become 32 = .ok (.aload_n 0, 1) := by decide +kernel
theorem dX1_become_33 : decode cX1_become 33 = .ok (.iconst 0, 1) := by decide +kernel
theorem dX1_become_34 : decode cX1_become 34 = .ok (.putfield 30, 3) := by decide +kernel
theorem dX1_become_37 : decode cX1_become 37 = .ok (.return_, 1) := by decide +kernel
theorem dX1_layer_0 : decode cX1_layer 0 = .ok (.aload_n 0, 1) := by decide +kernel
theorem dX1_layer_1 : decode cX1_layer 1 = .ok (.getfield 15, 3) := by decide +kernel
theorem dX1_layer_4 : decode cX1_layer 4 = .ok (.iconst 0, 1) := by decide +kernel
theorem dX1_layer_5 : decode cX1_layer 5 = .ok (.iconst 5, 1) := by decide +kernel
theorem dX1_layer_6 : decode cX1_layer 6 = .ok (.invokestatic 33, 3) := by decide +kernel
theorem dX1_layer_9 : decode cX1_layer 9 = .ok (.ifCond .eq 14, 3) := by decide +kernel
theorem dX1_layer_12 : decode cX1_layer 12 = .ok (.getstatic 37, 3) := by decide +kernel
theorem dX1_layer_15 : decode cX1_layer 15 = .ok (.aload_n 0, 1) := by decide +kernel
theorem dX1_layer_16 : decode cX1_layer 16 = .ok (.getfield 15, 3) := by decide +kernel
theorem dX1_layer_19 : decode cX1_layer 19 = .ok (.iaload, 1) := by decide +kernel
theorem dX1_layer_20 : decode cX1_layer 20 = .ok (.goto 4, 3) := by decide +kernel
theorem dX1_layer_23 : decode cX1_layer 23 = .ok (.iconst 5, 1) := by decide +kernel
theorem dX1_layer_24 : decode cX1_layer 24 = .ok (.ireturn, 1) := by decide +kernel
theorem dX1_copyFrom_0 : decode cX1_copyFrom 0 = .ok (.aload_n 0, 1) := by decide +kernel
theorem dX1_copyFrom_1 : decode cX1_copyFrom 1 = .ok (.aload_n 1, 1) := by decide +kernel
theorem dX1_copyFrom_2 : decode cX1_copyFrom 2 = .ok (.getfield 9, 3) := by decide +kernel
theorem dX1_copyFrom_5 : decode cX1_copyFrom 5 = .ok (.putfield 9, 3) := by decide +kernel
theorem dX1_copyFrom_8 : decode cX1_copyFrom 8 = .ok (.aload_n 0, 1) := by decide +kernel
theorem dX1_copyFrom_9 : decode cX1_copyFrom 9 = .ok (.aload_n 1, 1) := by decide +kernel
theorem dX1_copyFrom_10 : decode cX1_copyFrom 10 = .ok (.getfield 15, 3) := by decide +kernel
theorem dX1_copyFrom_13 : decode cX1_copyFrom 13 = .ok (.putfield 15, 3) := by decide +kernel
theorem dX1_copyFrom_16 : decode cX1_copyFrom 16 = .ok (.aload_n 0, 1) := by decide +kernel
theorem dX1_copyFrom_17 : decode cX1_copyFrom 17 = .ok (.aload_n 1, 1) := by decide +kernel
theorem dX1_copyFrom_18 : decode cX1_copyFrom 18 = .ok (.getfield 18, 3) := by decide +kernel
theorem dX1_copyFrom_21 : decode cX1_copyFrom 21 = .ok (.putfield 18, 3) := by decide +kernel
theorem dX1_copyFrom_24 : decode cX1_copyFrom 24 = .ok (.aload_n 0, 1) := by decide +kernel
theorem dX1_copyFrom_25 : decode cX1_copyFrom 25 = .ok (.aload_n 1, 1) := by decide +kernel
theorem dX1_copyFrom_26 : decode cX1_copyFrom 26 = .ok (.getfield 21, 3) := by decide +kernel
theorem dX1_copyFrom_29 : decode cX1_copyFrom 29 = .ok (.putfield 21, 3) := by decide +kernel
theorem dX1_copyFrom_32 : decode cX1_copyFrom 32 = .ok (.aload_n 0, 1) := by decide +kernel
theorem dX1_copyFrom_33 : decode cX1_copyFrom 33 = .ok (.aload_n 1, 1) := by decide +kernel
theorem dX1_copyFrom_34 : decode cX1_copyFrom 34 = .ok (.getfield 24, 3) := by decide +kernel
theorem dX1_copyFrom_37 : decode cX1_copyFrom 37 = .ok (.putfield 24, 3) := by decide +kernel
theorem dX1_copyFrom_40 : decode cX1_copyFrom 40 = .ok (.aload_n 0, 1) := by decide +kernel
theorem dX1_copyFrom_41 : decode cX1_copyFrom 41 = .ok (.aload_n 1, 1) := by decide +kernel
theorem dX1_copyFrom_42 : decode cX1_copyFrom 42 = .ok (.getfield 27, 3) := by decide +kernel
theorem dX1_copyFrom_45 : decode cX1_copyFrom 45 = .ok (.putfield 27, 3) := by decide +kernel
theorem dX1_copyFrom_48 : decode cX1_copyFrom 48 = .ok (.aload_n 0, 1) := by decide +kernel
theorem dX1_copyFrom_49 : decode cX1_copyFrom 49 = .ok (.aload_n 1, 1) := by decide +kernel
theorem dX1_copyFrom_50 : decode cX1_copyFrom 50 = .ok (.getfield 30, 3) := by decide +kernel
theorem dX1_copyFrom_53 : decode cX1_copyFrom 53 = .ok (.putfield 30, 3) := by decide +kernel
theorem dX1_copyFrom_56 : decode cX1_copyFrom 56 = .ok (.return_, 1) := by decide +kernel
end
section
theorem dX2_init_0 : decode cX2_init 0 = .ok (.aload_n 0, 1) := by decide +kernel
theorem dX2_init_1 : decode cX2_init 1 = .ok (.invokespecial 3, 3) := by decide +kernel
theorem dX2_init_4 : decode cX2_init 4 = .ok (.aload_n 0, 1) := by decide +kernel
theorem dX2_init_5 : decode cX2_init 5 = .ok (.bipush 8, 2) := by decide +kernel
theorem dX2_init_7 : decode cX2_init 7 = .ok (.newarray .int, 2) := by decide +kernel
theorem dX2_init_9 : decode cX2_init 9 = .ok (.putfield 9, 3) := by decide +kernel
theorem dX2_init_12 : decode cX2_init 12 = .ok (.aload_n 0, 1) := by decide +kernel
theorem dX2_init_13 : decode cX2_init 13 = .ok (.bipush 8, 2) := by decide +kernel
theorem dX2_init_15 : decode cX2_init 15 = .ok (.newarray .int, 2) := by decide +kernel
theorem dX2_init_17 : decode cX2_init 17 = .ok (.putfield 15, 3) := by decide +kernel
theorem dX2_init_20 : decode cX2_init 20 = .ok (.aload_n 0, 1) := by decide +kernel
theorem dX2_init_21 : decode cX2_init 21 = .ok (.bipush 8, 2) := by decide +kernel
theorem dX2_init_23 : decode cX2_init 23 = .ok (.newarray .int, 2) := by decide +kernel
theorem dX2_init_25 : decode cX2_init 25 = .ok (.putfield 18, 3) := by decide +kernel
theorem dX2_init_28 : decode cX2_init 28 = .ok (.aload_n 0, 1) := by decide +kernel
theorem dX2_init_29 : decode cX2_init 29 = .ok (.bipush 8, 2) := by decide +kernel
theorem dX2_init_31 : decode cX2_init 31 = .ok (.newarray .int, 2) := by decide +kernel
theorem dX2_init_33 : decode cX2_init 33 = .ok (.putfield 21, 3) := by decide +kernel
theorem dX2_init_36 : decode cX2_init 36 = .ok (.aload_n 0, 1) := by decide +kernel
theorem dX2_init_37 : decode cX2_init 37 = .ok (.bipush 10, 2) := by decide +kernel
theorem dX2_init_39 : decode cX2_init 39 = .ok (.newarray .int, 2) := by decide +kernel
theorem dX2_init_41 : decode cX2_init 41 = .ok (.putfield 24, 3) := by decide +kernel
theorem dX2_init_44 : decode cX2_init 44 = .ok (.return_, 1) := by decide +kernel
theorem dX2_make_0 : decode cX2_make 0 = .ok (.iconst 0, 1) := by decide +kernel
theorem dX2_make_1 : decode cX2_make 1 = .ok (.istore_n 3, 1) := by decide +kernel
theorem dX2_make_2 : decode cX2_make 2 = .ok (.iload_n 3, 1) := by decide +kernel
theorem dX2_make_3 : decode cX2_make 3 = .ok (.aload_n 1, 1) := by decide +kernel
theorem dX2_make_4 : decode cX2_make 4 = .ok (.getfield 27, 3) := by decide +kernel
theorem dX2_make_7 : decode cX2_make 7 = .ok (.if_icmp .ge 61, 3) := by decide +kernel
theorem dX2_make_10 : decode cX2_make 10 = .ok (.aload_n 0, 1) := by decide +kernel
theorem dX2_make_11 : decode cX2_make 11 = .ok (.getfield 9, 3) := by decide +kernel
theorem dX2_make_14 : decode cX2_make 14 = .ok (.iload_n 3, 1) := by decide +kernel
theorem dX2_make_15 : decode cX2_make 15 = .ok (.aload_n 1, 1) := by decide +kernel
theorem dX2_make_16 : decode cX2_make 16 = .ok (.getfield 33, 3) := by decide +kernel
theorem dX2_make_19 : decode cX2_make 19 = .ok (.iload_n 3, 1) := by decide +kernel
theorem dX2_make_20 : decode cX2_make 20 = .ok (.aaload, 1) := by decide +kernel
theorem dX2_make_21 : decode cX2_make 21 = .ok (.getfield 37, 3) := by decide +kernel
theorem dX2_make_24 : decode cX2_make 24 = .ok (.iastore, 1) := by decide +kernel
theorem dX2_make_25 : decode cX2_make 25 = .ok (.aload_n 0, 1) := by decide +kernel
theorem dX2_make_26 : decode cX2_make 26 = .ok (.getfield 15, 3) := by decide +kernel
theorem dX2_make_29 : decode cX2_make 29 = .ok (.iload_n 3, 1) := by decide +kernel
theorem dX2_make_30 : decode cX2_make 30 = .ok (.iconst 0, 1) := by decide +kernel
theorem dX2_make_31 : decode cX2_make 31 = .ok (.iastore, 1) := by decide +kernel
theorem dX2_make_32 : decode cX2_make 32 = .ok (.aload_n 0, 1) := by decide +kernel
theorem dX2_make_33 : decode cX2_make 33 = .ok (.getfield 18, 3) := by decide +kernel
theorem dX2_make_36 : decode cX2_make 36 = .ok (.iload_n 3, 1) := by decide +kernel
theorem dX2_make_37 : decode cX2_make 37 = .ok (.aload_n 1, 1) := by decide +kernel
theorem dX2_make_38 : decode cX2_make 38 = .ok (.getfield 33, 3) := by decide +kernel
theorem dX2_make_41 : decode cX2_make 41 = .ok (.iload_n 3, 1) := by decide +kernel
theorem dX2_make_42 : decode cX2_make 42 = .ok (.aaload, 1) := by decide +kernel
theorem dX2_make_43 : decode cX2_make 43 = .ok (.getfield 41, 3) := by decide +kernel
theorem dX2_make_46 : decode cX2_make 46 = .ok (.iastore, 1) := by decide +kernel
theorem dX2_make_47 : decode cX2_make 47 = .ok (.aload_n 0, 1) := by decide +kernel
theorem dX2_make_48 : decode cX2_make 48 = .ok (.getfield 21, 3) := by decide +kernel
theorem dX2_make_51 : decode cX2_make 51 = .ok (.iload_n 3, 1) := by decide +kernel
theorem dX2_make_52 : decode cX2_make 52 = .ok (.aload_n 1, 1) := by decide +kernel
theorem dX2_make_53 : decode cX2_make 53 = .ok (.getfield 33, 3) := by decide +kernel
theorem dX2_make_56 : decode cX2_make 56 = .ok (.iload_n 3, 1) := by decide +kernel
theorem dX2_make_57 : decode cX2_make 57 = .ok (.aaload, 1) := by decide +kernel
theorem dX2_make_58 : decode cX2_make 58 = .ok (.getfield 43, 3) := by decide +kernel
theorem dX2_make_61 : decode cX2_make 61 = .ok (.iastore, 1) := by decide +kernel
theorem dX2_make_62 : decode cX2_make 62 = .ok (.iinc 3 1, 3) := by decide +kernel
theorem dX2_make_65 : decode cX2_make 65 = .ok (.goto (-63), 3) := by decide +kernel
theorem dX2_make_68 : decode cX2_make 68 = .ok (.aload_n 0, 1) := by decide +kernel
theorem dX2_make_69 : decode cX2_make 69 = .ok (.iconst 0, 1) := by decide +kernel
theorem dX2_make_70 : decode cX2_make 70 = .ok (.putfield 45, 3) := by decide +kernel
theorem dX2_make_73 : decode cX2_make 73 = .ok (.iconst 0, 1) := by decide +kernel
theorem dX2_make_74 : decode cX2_make 74 = .ok (.istore_n 3, 1) := by decide +kernel
theorem dX2_make_75 : decode cX2_make 75 = .ok (.iload_n 3, 1) := by decide +kernel
theorem dX2_make_76 : decode cX2_make 76 = .ok (.iload_n 2, 1) := by decide +kernel
theorem dX2_make_77 : decode cX2_make 77 = .ok (.if_icmp .ge 80, 3) := by decide +kernel
theorem dX2_make_80 : decode cX2_make 80 = .ok (.iload_n 3, 1) := by decide +kernel
theorem dX2_make_81 : decode cX2_make 81 = .ok (.iconst 5, 1) := by decide +kernel
theorem dX2_make_82 : decode cX2_make 82 = .ok (.if_icmp .ge 75, 3) := by decide +kernel
theorem dX2_make_85 : decode cX2_make 85 = .ok (.aload_n 1, 1) := by decide +kernel
theorem dX2_make_86 : decode cX2_make 86 = .ok (.iload_n 3, 1) := by decide +kernel
theorem dX2_make_87 : decode cX2_make 87 = .ok (.invokevirtual 48, 3) := by decide +kernel
theorem dX2_make_90 : decode cX2_make 90 = .ok (.istore 4, 2) := by decide +kernel
theorem dX2_make_92 : decode cX2_make 92 = .ok (.iconst 0, 1) := by decide +kernel
theorem dX2_make_93 : decode cX2_make 93 = .ok (.istore 5, 2) := by decide +kernel
theorem dX2_make_95 : decode cX2_make 95 = .ok (.iload 5, 2) := by decide +kernel
theorem dX2_make_97 : decode cX2_make 97 = .ok (.bipush 10, 2) := by decide +kernel
theorem dX2_make_99 : decode cX2_make 99 = .ok (.if_icmp .ge 52, 3) := by decide +kernel
theorem dX2_make_102 : decode cX2_make 102 = .ok (.iload 4, 2) := by decide +kernel
theorem dX2_make_104 : decode cX2_make 104 = .ok (.ifCond .eq 47, 3) := by decide +kernel
theorem dX2_make_107 : decode cX2_make 107 = .ok (.aload_n 0, 1) := by decide +kernel
theorem dX2_make_108 : decode cX2_make 108 = .ok (.aload_n 1, 1) := by decide +kernel
theorem dX2_make_109 : decode cX2_make 109 = .ok (.iload 4, 2) := by decide +kernel
theorem dX2_make_111 : decode cX2_make 111 = .ok (.invokevirtual 52, 3) := by decide +kernel
theorem dX2_make_114 : decode cX2_make 114 = .ok (.istore 6, 2) := by decide +kernel
theorem dX2_make_116 : decode cX2_make 116 = .ok (.aload_n 0, 1) := by decide +kernel
theorem dX2_make_117 : decode cX2_make 117 = .ok (.aload_n 1, 1) := by decide +kernel
theorem dX2_make_118 : decode cX2_make 118 = .ok (.aload_n 1, 1) := by decide +kernel
theorem dX2_make_119 : decode cX2_make 119 = .ok (.getfield 56, 3) := by decide +kernel
theorem dX2_make_122 : decode cX2_make 122 = .ok (.iload 6, 2) := by decide +kernel
theorem dX2_make_124 : decode cX2_make 124 = .ok (.aaload, 1) := by decide +kernel
theorem dX2_make_125 : decode cX2_make 125 = .ok (.invokevirtual 60, 3) := by decide +kernel
theorem dX2_make_128 : decode cX2_make 128 = .ok (.aload_n 0, 1) := by decide +kernel
theorem dX2_make_129 : decode cX2_make 129 = .ok (.iload 6, 2) := by decide +kernel
theorem dX2_make_131 : decode cX2_make 131 = .ok (.invokevirtual 64, 3) := by decide +kernel
theorem dX2_make_134 : decode cX2_make 134 = .ok (.iload 4, 2) := by decide +kernel
theorem dX2_make_136 : decode cX2_make 136 = .ok (.iconst 1, 1) := by decide +kernel
theorem dX2_make_137 : decode cX2_make 137 = .ok (.iload 6, 2) := by decide +kernel
theorem dX2_make_139 : decode cX2_make 139 = .ok (.ishl, 1) := by decide +kernel
theorem dX2_make_140 : decode cX2_make 140 = .ok (.iconst (-1), 1) := by decide +kernel
theorem dX2_make_141 : decode cX2_make 141 = .ok (.ixor, 1) := by decide +kernel
theorem dX2_make_142 : decode cX2_make 142 = .ok (.iand, 1) := by decide +kernel
theorem dX2_make_143 : decode cX2_make 143 = .ok (.istore 4, 2) := by decide +kernel
theorem dX2_make_145 : decode cX2_make 145 = .ok (.iinc 5 1, 3) := by decide +kernel
theorem dX2_make_148 : decode cX2_make 148 = .ok (.goto (-53), 3) := by decide +kernel
theorem dX2_make_151 : decode cX2_make 151 = .ok (.iinc 3 1, 3) := by decide +kernel
theorem dX2_make_154 : decode cX2_make 154 = .ok (.goto (-79), 3) := by decide +kernel
theorem dX2_make_157 : decode cX2_make 157 = .ok (.return_, 1) := by decide +kernel
theorem dX2_record_0 : decode cX2_record 0 = .ok (.aload_n 0, 1) := by decide +kernel
theorem dX2_record_1 : decode cX2_record 1 = .ok (.getfield 45, 3) := by decide +kernel
theorem dX2_record_4 : decode cX2_record 4 = .ok (.bipush 10, 2) := by decide +kernel
theorem dX2_record_6 : decode cX2_record 6 = .ok (.if_icmp .ge 23, 3) := by decide +kernel
theorem dX2_record_9 : decode cX2_record 9 = .ok (.aload_n 0, 1) := by decide +kernel
theorem dX2_record_10 : decode cX2_record 10 = .ok (.getfield 24, 3) := by decide +kernel
theorem dX2_record_13 : decode cX2_record 13 = .ok (.aload_n 0, 1) := by decide +kernel
theorem dX2_record_14 : decode cX2_record 14 = .ok (.getfield 45, 3) := by decide +kernel
theorem dX2_record_17 : decode cX2_record 17 = .ok (.iload_n 1, 1) := by decide +kernel
theorem dX2_record_18 : decode cX2_record 18 = .ok (.iastore, 1) := by decide +kernel
theorem dX2_record_19 : decode cX2_record 19 = .ok (.aload_n 0, 1) := by decide +kernel
theorem dX2_record_20 : decode cX2_record 20 = .ok (.dup, 1) := by decide +kernel
theorem dX2_record_21 : decode cX2_record 21 = .ok (.getfield 45, 3) := by decide +kernel
theorem dX2_record_24 : decode cX2_record 24 = .ok (.iconst 1, 1) := by decide +kernel
theorem dX2_record_25 : decode cX2_record 25 = .ok (.iadd, 1) := by decide +kernel
theorem dX2_record_26 : decode cX2_record 26 = .ok (.putfield 45, 3) := by decide +kernel
theorem dX2_record_29 : decode cX2_record 29 = .ok (.return_, 1) := by decide +kernel
theorem dX2_pick_0 : decode cX2_pick 0 = .ok (.iconst 0, 1) := by decide +kernel
theorem dX2_pick_1 : decode cX2_pick 1 = .ok (.istore_n 3, 1) := by decide +kernel
theorem dX2_pick_2 : decode cX2_pick 2 = .ok (.iload_n 3, 1) := by decide +kernel
theorem dX2_pick_3 : decode cX2_pick 3 = .ok (.aload_n 1, 1) := by decide +kernel
theorem dX2_pick_4 : decode cX2_pick 4 = .ok (.getfield 68, 3) := by decide +kernel
theorem dX2_pick_7 : decode cX2_pick 7 = .ok (.if_icmp .ge 109, 3) := by decide +kernel
theorem dX2_pick_10 : decode cX2_pick 10 = .ok (.iload_n 2, 1) := by decide +kernel
theorem dX2_pick_11 : decode cX2_pick 11 = .ok (.iload_n 3, 1) := by decide +kernel
theorem dX2_pick_12 : decode cX2_pick 12 = .ok (.ishr, 1) := by decide +kernel
theorem dX2_pick_13 : decode cX2_pick 13 = .ok (.iconst 1, 1) := by decide +kernel
theorem dX2_pick_14 : decode cX2_pick 14 = .ok (.iand, 1) := by decide +kernel
theorem dX2_pick_15 : decode cX2_pick 15 = .ok (.ifCond .eq 7, 3) := by decide +kernel
theorem dX2_pick_18 : decode cX2_pick 18 = .ok (.iconst 1, 1) := by decide +kernel
theorem dX2_pick_19 : decode cX2_pick 19 = .ok (.goto 4, 3) := by decide +kernel
theorem dX2_pick_22 : decode cX2_pick 22 = .ok (.iconst 0, 1) := by decide +kernel
theorem dX2_pick_23 : decode cX2_pick 23 = .ok (.istore 4, 2) := by decide +kernel
theorem dX2_pick_25 : decode cX2_pick 25 = .ok (.iconst 0, 1) := by decide +kernel
theorem dX2_pick_26 : decode cX2_pick 26 = .ok (.istore 5, 2) := by decide +kernel
theorem dX2_pick_28 : decode cX2_pick 28 = .ok (.iload 4, 2) := by decide +kernel
theorem dX2_pick_30 : decode cX2_pick 30 = .ok (.ifCond .eq 73, 3) := by decide +kernel
theorem dX2_pick_33 : decode cX2_pick 33 = .ok (.iload 5, 2) := by decide +kernel
theorem dX2_pick_35 : decode cX2_pick 35 = .ok (.aload_n 1, 1) := by decide +kernel
theorem dX2_pick_36 : decode cX2_pick 36 = .ok (.getfield 68, 3) := by decide +kernel
theorem dX2_pick_39 : decode cX2_pick 39 = .ok (.if_icmp .ge 64, 3) := by decide +kernel
theorem dX2_pick_42 : decode cX2_pick 42 = .ok (.iload 5, 2) := by decide +kernel
theorem dX2_pick_44 : decode cX2_pick 44 = .ok (.iload_n 3, 1) := by decide +kernel
theorem dX2_pick_45 : decode cX2_pick 45 = .ok (.if_icmp .eq 16, 3) := by decide +kernel
theorem dX2_pick_48 : decode cX2_pick 48 = .ok (.iload_n 2, 1) := by decide +kernel
theorem dX2_pick_49 : decode cX2_pick 49 = .ok (.iload 5, 2) := by decide +kernel
theorem dX2_pick_51 : decode cX2_pick 51 = .ok (.ishr, 1) := by decide +kernel
theorem dX2_pick_52 : decode cX2_pick 52 = .ok (.iconst 1, 1) := by decide +kernel
theorem dX2_pick_53 : decode cX2_pick 53 = .ok (.iand, 1) := by decide +kernel
theorem dX2_pick_54 : decode cX2_pick 54 = .ok (.ifCond .eq 7, 3) := by decide +kernel
theorem dX2_pick_57 : decode cX2_pick 57 = .ok (.iconst 1, 1) := by decide +kernel
theorem dX2_pick_58 : decode cX2_pick 58 = .ok (.goto 4, 3) := by decide +kernel
theorem dX2_pick_61 : decode cX2_pick 61 = .ok (.iconst 0, 1) := by decide +kernel
theorem dX2_pick_62 : decode cX2_pick 62 = .ok (.istore 6, 2) := by decide +kernel
theorem dX2_pick_64 : decode cX2_pick 64 = .ok (.iload 6, 2) := by decide +kernel
theorem dX2_pick_66 : decode cX2_pick 66 = .ok (.ifCond .eq 24, 3) := by decide +kernel
theorem dX2_pick_69 : decode cX2_pick 69 = .ok (.aload_n 0, 1) := by decide +kernel
theorem dX2_pick_70 : decode cX2_pick 70 = .ok (.aload_n 1, 1) := by decide +kernel
theorem dX2_pick_71 : decode cX2_pick 71 = .ok (.aload_n 1, 1) := by decide +kernel
theorem dX2_pick_72 : decode cX2_pick 72 = .ok (.getfield 56, 3) := by decide +kernel
theorem dX2_pick_75 : decode cX2_pick 75 = .ok (.iload_n 3, 1) := by decide +kernel
theorem dX2_pick_76 : decode cX2_pick 76 = .ok (.aaload, 1) := by decide +kernel
theorem dX2_pick_77 : decode cX2_pick 77 = .ok (.aload_n 1, 1) := by decide +kernel
theorem dX2_pick_78 : decode cX2_pick 78 = .ok (.getfield 56, 3) := by decide +kernel
theorem dX2_pick_81 : decode cX2_pick 81 = .ok (.iload 5, 2) := by decide +kernel
theorem dX2_pick_83 : decode cX2_pick 83 = .ok (.aaload, 1) := by decide +kernel
theorem dX2_pick_84 : decode cX2_pick 84 = .ok (.invokevirtual 71, 3) := by decide +kernel
theorem dX2_pick_87 : decode cX2_pick 87 = .ok (.ifCond .ne 7, 3) := by decide +kernel
theorem dX2_pick_90 : decode cX2_pick 90 = .ok (.iconst 1, 1) := by decide +kernel
theorem dX2_pick_91 : decode cX2_pick 91 = .ok (.goto 4, 3) := by decide +kernel
theorem dX2_pick_94 : decode cX2_pick 94 = .ok (.iconst 0, 1) := by decide +kernel
theorem dX2_pick_95 : decode cX2_pick 95 = .ok (.istore 4, 2) := by decide +kernel
theorem dX2_pick_97 : decode cX2_pick 97 = .ok (.iinc 5 1, 3) := by decide +kernel
theorem dX2_pick_100 : decode cX2_pick 100 = .ok (.goto (-72), 3) := by decide +kernel
theorem dX2_pick_103 : decode cX2_pick 103 = .ok (.iload 4, 2) := by decide +kernel
theorem dX2_pick_105 : decode cX2_pick 105 = .ok (.ifCond .eq 5, 3) := by decide +kernel
theorem dX2_pick_108 : decode cX2_pick 108 = .ok (.iload_n 3, 1) := by decide +kernel
theorem dX2_pick_109 : decode cX2_pick 109 = .ok (.ireturn, 1) := by decide +kernel
theorem dX2_pick_110 : decode cX2_pick 110 = .ok (.iinc 3 1, 3) := by decide +kernel
theorem dX2_pick_113 : decode cX2_pick 113 = .ok (.goto (-111), 3) := by decide +kernel
theorem dX2_pick_116 : decode cX2_pick 116 = .ok (.iload_n 2, 1) := by decide +kernel
theorem dX2_pick_117 : decode cX2_pick 117 = .ok (.invokestatic 75, 3) := by decide +kernel
theorem dX2_pick_120 : decode cX2_pick 120 = .ok (.bipush 9, 2) := by decide +kernel
theorem dX2_pick_122 : decode cX2_pick 122 = .ok (.invokestatic 80, 3) := by decide +kernel
theorem dX2_pick_125 : decode cX2_pick 125 = .ok (.ireturn, 1) := by decide +kernel
theorem dX2_needs_0 : decode cX2_needs 0 = .ok (.iconst 0, 1) := by decide +kernel
theorem dX2_needs_1 : decode cX2_needs 1 = .ok (.istore 4, 2) := by decide +kernel
theorem dX2_needs_3 : decode cX2_needs 3 = .ok (.iload 4, 2) := by decide +kernel
theorem dX2_needs_5 : decode cX2_needs 5 = .ok (.aload_n 1, 1) := by decide +kernel
theorem dX2_needs_6 : decode cX2_needs 6 = .ok (.getfield 27, 3) := by decide +kernel
theorem dX2_needs_9 : decode cX2_needs 9 = .ok (.if_icmp .ge 89, 3) := by decide +kernel
theorem dX2_needs_12 : decode cX2_needs 12 = .ok (.aload_n 0, 1) := by decide +kernel
theorem dX2_needs_13 : decode cX2_needs 13 = .ok (.aload_n 1, 1) := by decide +kernel
theorem dX2_needs_14 : decode cX2_needs 14 = .ok (.iload 4, 2) := by decide +kernel
theorem dX2_needs_16 : decode cX2_needs 16 = .ok (.aload_n 3, 1) := by decide +kernel
theorem dX2_needs_17 : decode cX2_needs 17 = .ok (.getfield 86, 3) := by decide +kernel
theorem dX2_needs_20 : decode cX2_needs 20 = .ok (.aload_n 3, 1) := by decide +kernel
theorem dX2_needs_21 : decode cX2_needs 21 = .ok (.getfield 91, 3) := by decide +kernel
theorem dX2_needs_24 : decode cX2_needs 24 = .ok (.invokevirtual 94, 3) := by decide +kernel
theorem dX2_needs_27 : decode cX2_needs 27 = .ok (.ifCond .eq 65, 3) := by decide +kernel
theorem dX2_needs_30 : decode cX2_needs 30 = .ok (.aload_n 0, 1) := by decide +kernel
theorem dX2_needs_31 : decode cX2_needs 31 = .ok (.aload_n 3, 1) := by decide +kernel
theorem dX2_needs_32 : decode cX2_needs 32 = .ok (.iload 4, 2) := by decide +kernel
theorem dX2_needs_34 : decode cX2_needs 34 = .ok (.invokevirtual 98, 3) := by decide +kernel
theorem dX2_needs_37 : decode cX2_needs 37 = .ok (.istore 5, 2) := by decide +kernel
theorem dX2_needs_39 : decode cX2_needs 39 = .ok (.aload_n 0, 1) := by decide +kernel
theorem dX2_needs_40 : decode cX2_needs 40 = .ok (.aload_n 3, 1) := by decide +kernel
theorem dX2_needs_41 : decode cX2_needs 41 = .ok (.iload 4, 2) := by decide +kernel
theorem dX2_needs_43 : decode cX2_needs 43 = .ok (.invokevirtual 102, 3) := by decide +kernel
theorem dX2_needs_46 : decode cX2_needs 46 = .ok (.istore 6, 2) := by decide +kernel
theorem dX2_needs_48 : decode cX2_needs 48 = .ok (.aload_n 0, 1) := by decide +kernel
theorem dX2_needs_49 : decode cX2_needs 49 = .ok (.aload_n 1, 1) := by decide +kernel
theorem dX2_needs_50 : decode cX2_needs 50 = .ok (.iload 4, 2) := by decide +kernel
theorem dX2_needs_52 : decode cX2_needs 52 = .ok (.aload_n 2, 1) := by decide +kernel
theorem dX2_needs_53 : decode cX2_needs 53 = .ok (.getfield 86, 3) := by decide +kernel
theorem dX2_needs_56 : decode cX2_needs 56 = .ok (.aload_n 2, 1) := by decide +kernel
theorem dX2_needs_57 : decode cX2_needs 57 = .ok (.getfield 91, 3) := by decide +kernel
theorem dX2_needs_60 : decode cX2_needs 60 = .ok (.invokevirtual 94, 3) := by decide +kernel
theorem dX2_needs_63 : decode cX2_needs 63 = .ok (.aload_n 1, 1) := by decide +kernel
theorem dX2_needs_64 : decode cX2_needs 64 = .ok (.getfield 33, 3) := by decide +kernel
theorem dX2_needs_67 : decode cX2_needs 67 = .ok (.iload 4, 2) := by decide +kernel
theorem dX2_needs_69 : decode cX2_needs 69 = .ok (.aaload, 1) := by decide +kernel
theorem dX2_needs_70 : decode cX2_needs 70 = .ok (.iload 4, 2) := by decide +kernel
theorem dX2_needs_72 : decode cX2_needs 72 = .ok (.aload_n 2, 1) := by decide +kernel
theorem dX2_needs_73 : decode cX2_needs 73 = .ok (.getfield 86, 3) := by decide +kernel
theorem dX2_needs_76 : decode cX2_needs 76 = .ok (.aload_n 2, 1) := by decide +kernel
theorem dX2_needs_77 : decode cX2_needs 77 = .ok (.getfield 91, 3) := by decide +kernel
theorem dX2_needs_80 : decode cX2_needs 80 = .ok (.iload 5, 2) := by decide +kernel
theorem dX2_needs_82 : decode cX2_needs 82 = .ok (.iload 6, 2) := by decide +kernel
theorem dX2_needs_84 : decode cX2_needs 84 = .ok (.invokestatic 105, 3) := by decide +kernel
theorem dX2_needs_87 : decode cX2_needs 87 = .ok (.if_icmp .eq 5, 3) := by decide +kernel
theorem dX2_needs_90 : decode cX2_needs 90 = .ok (.iconst 1, 1) := by decide +kernel
theorem dX2_needs_91 : decode cX2_needs 91 = .ok (.ireturn, 1) := by decide +kernel
theorem dX2_needs_92 : decode cX2_needs 92 = .ok (.iinc 4 1, 3) := by decide +kernel
theorem dX2_needs_95 : decode cX2_needs 95 = .ok (.goto (-92), 3) := by decide +kernel
theorem dX2_needs_98 : decode cX2_needs 98 = .ok (.iconst 0, 1) := by decide +kernel
theorem dX2_needs_99 : decode cX2_needs 99 = .ok (.ireturn, 1) := by decide +kernel
theorem dX2_typeUnder_0 : decode cX2_typeUnder 0 = .ok (.aload_n 1, 1) := by decide +kernel
theorem dX2_typeUnder_1 : decode cX2_typeUnder 1 = .ok (.getfield 109, 3) := by decide +kernel
theorem dX2_typeUnder_4 : decode cX2_typeUnder 4 = .ok (.ifCond .ne 10, 3) := by decide +kernel
theorem dX2_typeUnder_7 : decode cX2_typeUnder 7 = .ok (.aload_n 1, 1) := by decide +kernel
theorem dX2_typeUnder_8 : decode cX2_typeUnder 8 = .ok (.getfield 112, 3) := by decide +kernel
theorem dX2_typeUnder_11 : decode cX2_typeUnder 11 = .ok (.goto 9, 3) := by decide +kernel
theorem dX2_typeUnder_14 : decode cX2_typeUnder 14 = .ok (.aload_n 0, 1) := by decide +kernel
theorem dX2_typeUnder_15 : decode cX2_typeUnder 15 = .ok (.getfield 9, 3) := by decide +kernel
theorem dX2_typeUnder_18 : decode cX2_typeUnder 18 = .ok (.iload_n 2, 1) := by decide +kernel
theorem dX2_typeUnder_19 : decode cX2_typeUnder 19 = .ok (.iaload, 1) := by decide +kernel
theorem dX2_typeUnder_20 : decode cX2_typeUnder 20 = .ok (.ireturn, 1) := by decide +kernel
theorem dX2_marksUnder_0 : decode cX2_marksUnder 0 = .ok (.aload_n 1, 1) := by decide +kernel
theorem dX2_marksUnder_1 : decode cX2_marksUnder 1 = .ok (.getfield 109, 3) := by decide +kernel
theorem dX2_marksUnder_4 : decode cX2_marksUnder 4 = .ok (.iconst 1, 1) := by decide +kernel
theorem dX2_marksUnder_5 : decode cX2_marksUnder 5 = .ok (.if_icmp .ne 17, 3) := by decide +kernel
theorem dX2_marksUnder_8 : decode cX2_marksUnder 8 = .ok (.aload_n 0, 1) := by decide +kernel
theorem dX2_marksUnder_9 : decode cX2_marksUnder 9 = .ok (.getfield 15, 3) := by decide +kernel
theorem dX2_marksUnder_12 : decode cX2_marksUnder 12 = .ok (.iload_n 2, 1) := by decide +kernel
theorem dX2_marksUnder_13 : decode cX2_marksUnder 13 = .ok (.iaload, 1) := by decide +kernel
theorem dX2_marksUnder_14 : decode cX2_marksUnder 14 = .ok (.iconst 1, 1) := by decide +kernel
theorem dX2_marksUnder_15 : decode cX2_marksUnder 15 = .ok (.aload_n 1, 1) := by decide +kernel
theorem dX2_marksUnder_16 : decode cX2_marksUnder 16 = .ok (.getfield 112, 3) := by decide +kernel
theorem dX2_marksUnder_19 : decode cX2_marksUnder 19 = .ok (.ishl, 1) := by decide +kernel
theorem dX2_marksUnder_20 : decode cX2_marksUnder 20 = .ok (.ior, 1) := by decide +kernel
theorem dX2_marksUnder_21 : decode cX2_marksUnder 21 = .ok (.ireturn, 1) := by decide +kernel
theorem dX2_marksUnder_22 : decode cX2_marksUnder 22 = .ok (.aload_n 1, 1) := by decide +kernel
theorem dX2_marksUnder_23 : decode cX2_marksUnder 23 = .ok (.getfield 109, 3) := by decide +kernel
theorem dX2_marksUnder_26 : decode cX2_marksUnder 26 = .ok (.iconst 2, 1) := by decide +kernel
theorem dX2_marksUnder_27 : decode cX2_marksUnder 27 = .ok (.if_icmp .ne 21, 3) := by decide +kernel
theorem dX2_marksUnder_30 : decode cX2_marksUnder 30 = .ok (.aload_n 0, 1) := by decide +kernel
theorem dX2_marksUnder_31 : decode cX2_marksUnder 31 = .ok (.getfield 15, 3) := by decide +kernel
theorem dX2_marksUnder_34 : decode cX2_marksUnder 34 = .ok (.iload_n 2, 1) := by decide +kernel
theorem dX2_marksUnder_35 : decode cX2_marksUnder 35 = .ok (.iaload, 1) := by decide +kernel
theorem dX2_marksUnder_36 : decode cX2_marksUnder 36 = .ok (.iconst 1, 1) := by decide +kernel
theorem dX2_marksUnder_37 : decode cX2_marksUnder 37 = .ok (.aload_n 1, 1) := by decide +kernel
theorem dX2_marksUnder_38 : decode cX2_marksUnder 38 = .ok (.getfield 112, 3) := by decide +kernel
theorem dX2_marksUnder_41 : decode cX2_marksUnder 41 = .ok (.ishl, 1) := by decide +kernel
theorem dX2_marksUnder_42 : decode cX2_marksUnder 42 = .ok (.iconst (-1), 1) := by decide +kernel
theorem dX2_marksUnder_43 : decode cX2_marksUnder 43 = .ok (.ixor, 1) := by decide +kernel
theorem dX2_marksUnder_44 : decode cX2_marksUnder 44 = .ok (.iand, 1) := by decide +kernel
theorem dX2_marksUnder_45 : decode cX2_marksUnder 45 = .ok (.goto 9, 3) := by decide +kernel
theorem dX2_marksUnder_48 : decode cX2_marksUnder 48 = .ok (.aload_n 0, 1) := by decide +kernel
theorem dX2_marksUnder_49 : decode cX2_marksUnder 49 = .ok (.getfield 15, 3) := by decide +kernel
theorem dX2_marksUnder_52 : decode cX2_marksUnder 52 = .ok (.iload_n 2, 1) := by decide +kernel
theorem dX2_marksUnder_53 : decode cX2_marksUnder 53 = .ok (.iaload, 1) := by decide +kernel
theorem dX2_marksUnder_54 : decode cX2_marksUnder 54 = .ok (.ireturn, 1) := by decide +kernel
theorem dX2_perform_0 : decode cX2_perform 0 = .ok (.iconst 0, 1) := by decide +kernel
theorem dX2_perform_1 : decode cX2_perform 1 = .ok (.istore_n 3, 1) := by decide +kernel
theorem dX2_perform_2 : decode cX2_perform 2 = .ok (.iload_n 3, 1) := by decide +kernel
theorem dX2_perform_3 : decode cX2_perform 3 = .ok (.aload_n 1, 1) := by decide +kernel
theorem dX2_perform_4 : decode cX2_perform 4 = .ok (.getfield 27, 3) := by decide +kernel
theorem dX2_perform_7 : decode cX2_perform 7 = .ok (.if_icmp .ge 56, 3) := by decide +kernel
theorem dX2_perform_10 : decode cX2_perform 10 = .ok (.aload_n 0, 1) := by decide +kernel
theorem dX2_perform_11 : decode cX2_perform 11 = .ok (.aload_n 1, 1) := by decide +kernel
theorem dX2_perform_12 : decode cX2_perform 12 = .ok (.iload_n 3, 1) := by decide +kernel
theorem dX2_perform_13 : decode cX2_perform 13 = .ok (.aload_n 2, 1) := by decide +kernel
theorem dX2_perform_14 : decode cX2_perform 14 = .ok (.getfield 86, 3) := by decide +kernel
theorem dX2_perform_17 : decode cX2_perform 17 = .ok (.aload_n 2, 1) := by decide +kernel
theorem dX2_perform_18 : decode cX2_perform 18 = .ok (.getfield 91, 3) := by decide +kernel
theorem dX2_perform_21 : decode cX2_perform 21 = .ok (.invokevirtual 94, 3) := by decide +kernel
theorem dX2_perform_24 : decode cX2_perform 24 = .ok (.ifCond .eq 33, 3) := by decide +kernel
theorem dX2_perform_27 : decode cX2_perform 27 = .ok (.aload_n 0, 1) := by decide +kernel
theorem dX2_perform_28 : decode cX2_perform 28 = .ok (.getfield 9, 3) := by decide +kernel
theorem dX2_perform_31 : decode cX2_perform 31 = .ok (.iload_n 3, 1) := by decide +kernel
theorem dX2_perform_32 : decode cX2_perform 32 = .ok (.aload_n 0, 1) := by decide +kernel
theorem dX2_perform_33 : decode cX2_perform 33 = .ok (.aload_n 2, 1) := by decide +kernel
theorem dX2_perform_34 : decode cX2_perform 34 = .ok (.iload_n 3, 1) := by decide +kernel
theorem dX2_perform_35 : decode cX2_perform 35 = .ok (.invokevirtual 98, 3) := by decide +kernel
theorem dX2_perform_38 : decode cX2_perform 38 = .ok (.iastore, 1) := by decide +kernel
theorem dX2_perform_39 : decode cX2_perform 39 = .ok (.aload_n 0, 1) := by decide +kernel
theorem dX2_perform_40 : decode cX2_perform 40 = .ok (.getfield 15, 3) := by decide +kernel
theorem dX2_perform_43 : decode cX2_perform 43 = .ok (.iload_n 3, 1) := by decide +kernel
theorem dX2_perform_44 : decode cX2_perform 44 = .ok (.aload_n 0, 1) := by decide +kernel
theorem dX2_perform_45 : decode cX2_perform 45 = .ok (.aload_n 2, 1) := by decide +kernel
theorem dX2_perform_46 : decode cX2_perform 46 = .ok (.iload_n 3, 1) := by decide +kernel
theorem dX2_perform_47 : decode cX2_perform 47 = .ok (.invokevirtual 102, 3) := by decide +kernel
theorem dX2_perform_50 : decode cX2_perform 50 = .ok (.iastore, 1) := by decide +kernel
theorem dX2_perform_51 : decode cX2_perform 51 = .ok (.aload_n 0, 1) := by decide +kernel
theorem dX2_perform_52 : decode cX2_perform 52 = .ok (.aload_n 2, 1) := by decide +kernel
theorem dX2_perform_53 : decode cX2_perform 53 = .ok (.iload_n 3, 1) := by decide +kernel
theorem dX2_perform_54 : decode cX2_perform 54 = .ok (.invokevirtual 115, 3) := by decide +kernel
theorem dX2_perform_57 : decode cX2_perform 57 = .ok (.iinc 3 1, 3) := by decide +kernel
theorem dX2_perform_60 : decode cX2_perform 60 = .ok (.goto (-58), 3) := by decide +kernel
theorem dX2_perform_63 : decode cX2_perform 63 = .ok (.return_, 1) := by decide +kernel
theorem dX2_changeStrength_0 : decode cX2_changeStrength 0 = .ok (.aload_n 1, 1) := by decide +kernel
theorem dX2_changeStrength_1 : decode cX2_changeStrength 1 = .ok (.getfield 109, 3) := by decide +kernel
theorem dX2_changeStrength_4 : decode cX2_changeStrength 4 = .ok (.iconst 3, 1) := by decide +kernel
theorem dX2_changeStrength_5 : decode cX2_changeStrength 5 = .ok (.if_icmp .ne 26, 3) := by decide +kernel
theorem dX2_changeStrength_8 : decode cX2_changeStrength 8 = .ok (.aload_n 0, 1) := by decide +kernel
theorem dX2_changeStrength_9 : decode cX2_changeStrength 9 = .ok (.getfield 18, 3) := by decide +kernel
theorem dX2_changeStrength_12 : decode cX2_changeStrength 12 = .ok (.iload_n 2, 1) := by decide +kernel
theorem dX2_changeStrength_13 : decode cX2_changeStrength 13 = .ok (.aload_n 1, 1) := by decide +kernel
theorem dX2_changeStrength_14 : decode cX2_changeStrength 14 = .ok (.getfield 112, 3) := by decide +kernel
theorem dX2_changeStrength_17 : decode cX2_changeStrength 17 = .ok (.iastore, 1) := by decide +kernel
theorem dX2_changeStrength_18 : decode cX2_changeStrength 18 = .ok (.aload_n 0, 1) := by decide +kernel
theorem dX2_changeStrength_19 : decode cX2_changeStrength 19 = .ok (.getfield 21, 3) := by decide +kernel
theorem dX2_changeStrength_22 : decode cX2_changeStrength 22 = .ok (.iload_n 2, 1) := by decide +kernel
theorem dX2_changeStrength_23 : decode cX2_changeStrength 23 = .ok (.aload_n 1, 1) := by decide +kernel
theorem dX2_changeStrength_24 : decode cX2_changeStrength 24 = .ok (.getfield 119, 3) := by decide +kernel
theorem dX2_changeStrength_27 : decode cX2_changeStrength 27 = .ok (.iastore, 1) := by decide +kernel
theorem dX2_changeStrength_28 : decode cX2_changeStrength 28 = .ok (.goto 74, 3) := by decide +kernel
theorem dX2_changeStrength_31 : decode cX2_changeStrength 31 = .ok (.aload_n 1, 1) := by decide +kernel
theorem dX2_changeStrength_32 : decode cX2_changeStrength 32 = .ok (.getfield 109, 3) := by decide +kernel
theorem dX2_changeStrength_35 : decode cX2_changeStrength 35 = .ok (.iconst 4, 1) := by decide +kernel
theorem dX2_changeStrength_36 : decode cX2_changeStrength 36 = .ok (.if_icmp .ne 32, 3) := by decide +kernel
theorem dX2_changeStrength_39 : decode cX2_changeStrength 39 = .ok (.aload_n 0, 1) := by decide +kernel
theorem dX2_changeStrength_40 : decode cX2_changeStrength 40 = .ok (.getfield 18, 3) := by decide +kernel
theorem dX2_changeStrength_43 : decode cX2_changeStrength 43 = .ok (.iload_n 2, 1) := by decide +kernel
theorem dX2_changeStrength_44 : decode cX2_changeStrength 44 = .ok (.dup2, 1) := by decide +kernel
theorem dX2_changeStrength_45 : decode cX2_changeStrength 45 = .ok (.iaload, 1) := by decide +kernel
theorem dX2_changeStrength_46 : decode cX2_changeStrength 46 = .ok (.aload_n 1, 1) := by decide +kernel
theorem dX2_changeStrength_47 : decode cX2_changeStrength 47 = .ok (.getfield 112, 3) := by decide +kernel
theorem dX2_changeStrength_50 : decode cX2_changeStrength 50 = .ok (.iadd, 1) := by decide +kernel
theorem dX2_changeStrength_51 : decode cX2_changeStrength 51 = .ok (.iastore, 1) := by decide +kernel
theorem dX2_changeStrength_52 : decode cX2_changeStrength 52 = .ok (.aload_n 0, 1) := by decide +kernel
theorem dX2_changeStrength_53 : decode cX2_changeStrength 53 = .ok (.getfield 21, 3) := by decide +kernel
theorem dX2_changeStrength_56 : decode cX2_changeStrength 56 = .ok (.iload_n 2, 1) := by decide +kernel
theorem dX2_changeStrength_57 : decode cX2_changeStrength 57 = .ok (.dup2, 1) := by decide +kernel
theorem dX2_changeStrength_58 : decode cX2_changeStrength 58 = .ok (.iaload, 1) := by decide +kernel
theorem dX2_changeStrength_59 : decode cX2_changeStrength 59 = .ok (.aload_n 1, 1) := by decide +kernel
theorem dX2_changeStrength_60 : decode cX2_changeStrength 60 = .ok (.getfield 119, 3) := by decide +kernel
theorem dX2_changeStrength_63 : decode cX2_changeStrength 63 = .ok (.iadd, 1) := by decide +kernel
theorem dX2_changeStrength_64 : decode cX2_changeStrength 64 = .ok (.iastore, 1) := by decide +kernel
theorem dX2_changeStrength_65 : decode cX2_changeStrength 65 = .ok (.goto 37, 3) := by decide +kernel
theorem dX2_changeStrength_68 : decode cX2_changeStrength 68 = .ok (.aload_n 1, 1) := by decide +kernel
theorem dX2_changeStrength_69 : decode cX2_changeStrength 69 = .ok (.getfield 109, 3) := by decide +kernel
theorem dX2_changeStrength_72 : decode cX2_changeStrength 72 = .ok (.iconst 5, 1) := by decide +kernel
theorem dX2_changeStrength_73 : decode cX2_changeStrength 73 = .ok (.if_icmp .ne 29, 3) := by decide +kernel
theorem dX2_changeStrength_76 : decode cX2_changeStrength 76 = .ok (.aload_n 0, 1) := by decide +kernel
theorem dX2_changeStrength_77 : decode cX2_changeStrength 77 = .ok (.getfield 18, 3) := by decide +kernel
theorem dX2_changeStrength_80 : decode cX2_changeStrength 80 = .ok (.iload_n 2, 1) := by decide +kernel
theorem dX2_changeStrength_81 : decode cX2_changeStrength 81 = .ok (.iaload, 1) := by decide +kernel
theorem dX2_changeStrength_82 : decode cX2_changeStrength 82 = .ok (.istore_n 3, 1) := by decide +kernel
theorem dX2_changeStrength_83 : decode cX2_changeStrength 83 = .ok (.aload_n 0, 1) := by decide +kernel
theorem dX2_changeStrength_84 : decode cX2_changeStrength 84 = .ok (.getfield 18, 3) := by decide +kernel
theorem dX2_changeStrength_87 : decode cX2_changeStrength 87 = .ok (.iload_n 2, 1) := by decide +kernel
theorem dX2_changeStrength_88 : decode cX2_changeStrength 88 = .ok (.aload_n 0, 1) := by decide +kernel
theorem dX2_changeStrength_89 : decode cX2_changeStrength 89 = .ok (.getfield 21, 3) := by decide +kernel
theorem dX2_changeStrength_92 : decode cX2_changeStrength 92 = .ok (.iload_n 2, 1) := by decide +kernel
theorem dX2_changeStrength_93 : decode cX2_changeStrength 93 = .ok (.iaload, 1) := by decide +kernel
theorem dX2_changeStrength_94 : decode cX2_changeStrength 94 = .ok (.iastore, 1) := by decide +kernel
theorem dX2_changeStrength_95 : decode cX2_changeStrength 95 = .ok (.aload_n 0, 1) := by decide +kernel
theorem dX2_changeStrength_96 : decode cX2_changeStrength 96 = .ok (.getfield 21, 3) := by decide +kernel
theorem dX2_changeStrength_99 : decode cX2_changeStrength 99 = .ok (.iload_n 2, 1) := by decide +kernel
theorem dX2_changeStrength_100 : decode cX2_changeStrength 100 = .ok (.iload_n 3, 1) := by decide +kernel
theorem dX2_changeStrength_101 : decode cX2_changeStrength 101 = .ok (.iastore, 1) := by decide +kernel
theorem dX2_changeStrength_102 : decode cX2_changeStrength 102 = .ok (.return_, 1) := by decide +kernel
theorem dX2_holds_0 : decode cX2_holds 0 = .ok (.iload_n 2, 1) := by decide +kernel
theorem dX2_holds_1 : decode cX2_holds 1 = .ok (.ifCond .lt 43, 3) := by decide +kernel
theorem dX2_holds_4 : decode cX2_holds 4 = .ok (.iload_n 2, 1) := by decide +kernel
end
section
theorem dX2_holds_5 : decode cX2_holds 5 = .ok (.aload_n 1, 1) := by decide +kernel
theorem dX2_holds_6 : decode cX2_holds 6 = .ok (.getfield 27, 3) := by decide +kernel
theorem dX2_holds_9 : decode cX2_holds 9 = .ok (.if_icmp .ge 35, 3) := by decide +kernel
theorem dX2_holds_12 : decode cX2_holds 12 = .ok (.aload_n 1, 1) := by decide +kernel
theorem dX2_holds_13 : decode cX2_holds 13 = .ok (.getfield 33, 3) := by decide +kernel
theorem dX2_holds_16 : decode cX2_holds 16 = .ok (.iload_n 2, 1) := by decide +kernel
theorem dX2_holds_17 : decode cX2_holds 17 = .ok (.aaload, 1) := by decide +kernel
theorem dX2_holds_18 : decode cX2_holds 18 = .ok (.iload_n 2, 1) := by decide +kernel
theorem dX2_holds_19 : decode cX2_holds 19 = .ok (.iload_n 3, 1) := by decide +kernel
theorem dX2_holds_20 : decode cX2_holds 20 = .ok (.iload 4, 2) := by decide +kernel
theorem dX2_holds_22 : decode cX2_holds 22 = .ok (.aload_n 0, 1) := by decide +kernel
theorem dX2_holds_23 : decode cX2_holds 23 = .ok (.getfield 9, 3) := by decide +kernel
theorem dX2_holds_26 : decode cX2_holds 26 = .ok (.iload_n 2, 1) := by decide +kernel
theorem dX2_holds_27 : decode cX2_holds 27 = .ok (.iaload, 1) := by decide +kernel
theorem dX2_holds_28 : decode cX2_holds 28 = .ok (.aload_n 0, 1) := by decide +kernel
theorem dX2_holds_29 : decode cX2_holds 29 = .ok (.getfield 15, 3) := by decide +kernel
theorem dX2_holds_32 : decode cX2_holds 32 = .ok (.iload_n 2, 1) := by decide +kernel
theorem dX2_holds_33 : decode cX2_holds 33 = .ok (.iaload, 1) := by decide +kernel
theorem dX2_holds_34 : decode cX2_holds 34 = .ok (.invokestatic 105, 3) := by decide +kernel
theorem dX2_holds_37 : decode cX2_holds 37 = .ok (.ifCond .eq 7, 3) := by decide +kernel
theorem dX2_holds_40 : decode cX2_holds 40 = .ok (.iconst 1, 1) := by decide +kernel
theorem dX2_holds_41 : decode cX2_holds 41 = .ok (.goto 4, 3) := by decide +kernel
theorem dX2_holds_44 : decode cX2_holds 44 = .ok (.iconst 0, 1) := by decide +kernel
theorem dX2_holds_45 : decode cX2_holds 45 = .ok (.ireturn, 1) := by decide +kernel
theorem dX2_fits_0 : decode cX2_fits 0 = .ok (.aload_n 0, 1) := by decide +kernel
theorem dX2_fits_1 : decode cX2_fits 1 = .ok (.getfield 122, 3) := by decide +kernel
theorem dX2_fits_4 : decode cX2_fits 4 = .ok (.ifCond .ne 5, 3) := by decide +kernel
theorem dX2_fits_7 : decode cX2_fits 7 = .ok (.iconst 0, 1) := by decide +kernel
theorem dX2_fits_8 : decode cX2_fits 8 = .ok (.ireturn, 1) := by decide +kernel
theorem dX2_fits_9 : decode cX2_fits 9 = .ok (.iload_n 2, 1) := by decide +kernel
theorem dX2_fits_10 : decode cX2_fits 10 = .ok (.tableswitch 92 0 4 #[34, 36, 50, 62, 77], 34) := by decide +kernel
theorem dX2_fits_44 : decode cX2_fits 44 = .ok (.iconst 1, 1) := by decide +kernel
theorem dX2_fits_45 : decode cX2_fits 45 = .ok (.ireturn, 1) := by decide +kernel
theorem dX2_fits_46 : decode cX2_fits 46 = .ok (.aload_n 0, 1) := by decide +kernel
theorem dX2_fits_47 : decode cX2_fits 47 = .ok (.getfield 126, 3) := by decide +kernel
theorem dX2_fits_50 : decode cX2_fits 50 = .ok (.iload_n 3, 1) := by decide +kernel
theorem dX2_fits_51 : decode cX2_fits 51 = .ok (.if_icmp .ne 7, 3) := by decide +kernel
theorem dX2_fits_54 : decode cX2_fits 54 = .ok (.iconst 1, 1) := by decide +kernel
theorem dX2_fits_55 : decode cX2_fits 55 = .ok (.goto 4, 3) := by decide +kernel
theorem dX2_fits_58 : decode cX2_fits 58 = .ok (.iconst 0, 1) := by decide +kernel
theorem dX2_fits_59 : decode cX2_fits 59 = .ok (.ireturn, 1) := by decide +kernel
theorem dX2_fits_60 : decode cX2_fits 60 = .ok (.iload 4, 2) := by decide +kernel
theorem dX2_fits_62 : decode cX2_fits 62 = .ok (.iload_n 3, 1) := by decide +kernel
theorem dX2_fits_63 : decode cX2_fits 63 = .ok (.if_icmp .ne 7, 3) := by decide +kernel
theorem dX2_fits_66 : decode cX2_fits 66 = .ok (.iconst 1, 1) := by decide +kernel
theorem dX2_fits_67 : decode cX2_fits 67 = .ok (.goto 4, 3) := by decide +kernel
theorem dX2_fits_70 : decode cX2_fits 70 = .ok (.iconst 0, 1) := by decide +kernel
theorem dX2_fits_71 : decode cX2_fits 71 = .ok (.ireturn, 1) := by decide +kernel
theorem dX2_fits_72 : decode cX2_fits 72 = .ok (.iload 5, 2) := by decide +kernel
theorem dX2_fits_74 : decode cX2_fits 74 = .ok (.iload_n 3, 1) := by decide +kernel
theorem dX2_fits_75 : decode cX2_fits 75 = .ok (.ishr, 1) := by decide +kernel
theorem dX2_fits_76 : decode cX2_fits 76 = .ok (.iconst 1, 1) := by decide +kernel
theorem dX2_fits_77 : decode cX2_fits 77 = .ok (.iand, 1) := by decide +kernel
theorem dX2_fits_78 : decode cX2_fits 78 = .ok (.ifCond .eq 7, 3) := by decide +kernel
theorem dX2_fits_81 : decode cX2_fits 81 = .ok (.iconst 1, 1) := by decide +kernel
theorem dX2_fits_82 : decode cX2_fits 82 = .ok (.goto 4, 3) := by decide +kernel
theorem dX2_fits_85 : decode cX2_fits 85 = .ok (.iconst 0, 1) := by decide +kernel
theorem dX2_fits_86 : decode cX2_fits 86 = .ok (.ireturn, 1) := by decide +kernel
theorem dX2_fits_87 : decode cX2_fits 87 = .ok (.iload 5, 2) := by decide +kernel
theorem dX2_fits_89 : decode cX2_fits 89 = .ok (.iload_n 3, 1) := by decide +kernel
theorem dX2_fits_90 : decode cX2_fits 90 = .ok (.ishr, 1) := by decide +kernel
theorem dX2_fits_91 : decode cX2_fits 91 = .ok (.iconst 1, 1) := by decide +kernel
theorem dX2_fits_92 : decode cX2_fits 92 = .ok (.iand, 1) := by decide +kernel
theorem dX2_fits_93 : decode cX2_fits 93 = .ok (.ifCond .ne 7, 3) := by decide +kernel
theorem dX2_fits_96 : decode cX2_fits 96 = .ok (.iconst 1, 1) := by decide +kernel
theorem dX2_fits_97 : decode cX2_fits 97 = .ok (.goto 4, 3) := by decide +kernel
theorem dX2_fits_100 : decode cX2_fits 100 = .ok (.iconst 0, 1) := by decide +kernel
theorem dX2_fits_101 : decode cX2_fits 101 = .ok (.ireturn, 1) := by decide +kernel
theorem dX2_fits_102 : decode cX2_fits 102 = .ok (.iload_n 1, 1) := by decide +kernel
theorem dX2_fits_103 : decode cX2_fits 103 = .ok (.iload_n 3, 1) := by decide +kernel
theorem dX2_fits_104 : decode cX2_fits 104 = .ok (.if_icmp .ne 7, 3) := by decide +kernel
theorem dX2_fits_107 : decode cX2_fits 107 = .ok (.iconst 1, 1) := by decide +kernel
theorem dX2_fits_108 : decode cX2_fits 108 = .ok (.goto 4, 3) := by decide +kernel
theorem dX2_fits_111 : decode cX2_fits 111 = .ok (.iconst 0, 1) := by decide +kernel
theorem dX2_fits_112 : decode cX2_fits 112 = .ok (.ireturn, 1) := by decide +kernel
theorem dX2_forceOf_0 : decode cX2_forceOf 0 = .ok (.aload_n 1, 1) := by decide +kernel
theorem dX2_forceOf_1 : decode cX2_forceOf 1 = .ok (.iload_n 2, 1) := by decide +kernel
theorem dX2_forceOf_2 : decode cX2_forceOf 2 = .ok (.invokevirtual 129, 3) := by decide +kernel
theorem dX2_forceOf_5 : decode cX2_forceOf 5 = .ok (.ifCond .ne 5, 3) := by decide +kernel
theorem dX2_forceOf_8 : decode cX2_forceOf 8 = .ok (.iconst 0, 1) := by decide +kernel
theorem dX2_forceOf_9 : decode cX2_forceOf 9 = .ok (.ireturn, 1) := by decide +kernel
theorem dX2_forceOf_10 : decode cX2_forceOf 10 = .ok (.aload_n 1, 1) := by decide +kernel
theorem dX2_forceOf_11 : decode cX2_forceOf 11 = .ok (.getfield 33, 3) := by decide +kernel
theorem dX2_forceOf_14 : decode cX2_forceOf 14 = .ok (.iload_n 2, 1) := by decide +kernel
theorem dX2_forceOf_15 : decode cX2_forceOf 15 = .ok (.aaload, 1) := by decide +kernel
theorem dX2_forceOf_16 : decode cX2_forceOf 16 = .ok (.getfield 122, 3) := by decide +kernel
theorem dX2_forceOf_19 : decode cX2_forceOf 19 = .ok (.ifCond .eq 12, 3) := by decide +kernel
theorem dX2_forceOf_22 : decode cX2_forceOf 22 = .ok (.aload_n 0, 1) := by decide +kernel
theorem dX2_forceOf_23 : decode cX2_forceOf 23 = .ok (.getfield 18, 3) := by decide +kernel
theorem dX2_forceOf_26 : decode cX2_forceOf 26 = .ok (.iload_n 2, 1) := by decide +kernel
theorem dX2_forceOf_27 : decode cX2_forceOf 27 = .ok (.iaload, 1) := by decide +kernel
theorem dX2_forceOf_28 : decode cX2_forceOf 28 = .ok (.goto 12, 3) := by decide +kernel
theorem dX2_forceOf_31 : decode cX2_forceOf 31 = .ok (.aload_n 1, 1) := by decide +kernel
theorem dX2_forceOf_32 : decode cX2_forceOf 32 = .ok (.getfield 33, 3) := by decide +kernel
theorem dX2_forceOf_35 : decode cX2_forceOf 35 = .ok (.iload_n 2, 1) := by decide +kernel
theorem dX2_forceOf_36 : decode cX2_forceOf 36 = .ok (.aaload, 1) := by decide +kernel
theorem dX2_forceOf_37 : decode cX2_forceOf 37 = .ok (.getfield 133, 3) := by decide +kernel
theorem dX2_forceOf_40 : decode cX2_forceOf 40 = .ok (.ireturn, 1) := by decide +kernel
theorem dX2_remember_0 : decode cX2_remember 0 = .ok (.iload_n 2, 1) := by decide +kernel
theorem dX2_remember_1 : decode cX2_remember 1 = .ok (.iconst 0, 1) := by decide +kernel
theorem dX2_remember_2 : decode cX2_remember 2 = .ok (.bipush 7, 2) := by decide +kernel
theorem dX2_remember_4 : decode cX2_remember 4 = .ok (.invokestatic 136, 3) := by decide +kernel
theorem dX2_remember_7 : decode cX2_remember 7 = .ok (.ifCond .eq 43, 3) := by decide +kernel
theorem dX2_remember_10 : decode cX2_remember 10 = .ok (.aload_n 1, 1) := by decide +kernel
theorem dX2_remember_11 : decode cX2_remember 11 = .ok (.aload_n 0, 1) := by decide +kernel
theorem dX2_remember_12 : decode cX2_remember 12 = .ok (.getfield 9, 3) := by decide +kernel
theorem dX2_remember_15 : decode cX2_remember 15 = .ok (.iload_n 2, 1) := by decide +kernel
theorem dX2_remember_16 : decode cX2_remember 16 = .ok (.iaload, 1) := by decide +kernel
theorem dX2_remember_17 : decode cX2_remember 17 = .ok (.putfield 140, 3) := by decide +kernel
theorem dX2_remember_20 : decode cX2_remember 20 = .ok (.aload_n 1, 1) := by decide +kernel
theorem dX2_remember_21 : decode cX2_remember 21 = .ok (.aload_n 0, 1) := by decide +kernel
theorem dX2_remember_22 : decode cX2_remember 22 = .ok (.getfield 15, 3) := by decide +kernel
theorem dX2_remember_25 : decode cX2_remember 25 = .ok (.iload_n 2, 1) := by decide +kernel
theorem dX2_remember_26 : decode cX2_remember 26 = .ok (.iaload, 1) := by decide +kernel
theorem dX2_remember_27 : decode cX2_remember 27 = .ok (.putfield 143, 3) := by decide +kernel
theorem dX2_remember_30 : decode cX2_remember 30 = .ok (.aload_n 1, 1) := by decide +kernel
theorem dX2_remember_31 : decode cX2_remember 31 = .ok (.aload_n 0, 1) := by decide +kernel
theorem dX2_remember_32 : decode cX2_remember 32 = .ok (.getfield 18, 3) := by decide +kernel
theorem dX2_remember_35 : decode cX2_remember 35 = .ok (.iload_n 2, 1) := by decide +kernel
theorem dX2_remember_36 : decode cX2_remember 36 = .ok (.iaload, 1) := by decide +kernel
theorem dX2_remember_37 : decode cX2_remember 37 = .ok (.putfield 133, 3) := by decide +kernel
theorem dX2_remember_40 : decode cX2_remember 40 = .ok (.aload_n 1, 1) := by decide +kernel
theorem dX2_remember_41 : decode cX2_remember 41 = .ok (.aload_n 0, 1) := by decide +kernel
theorem dX2_remember_42 : decode cX2_remember 42 = .ok (.getfield 21, 3) := by decide +kernel
theorem dX2_remember_45 : decode cX2_remember 45 = .ok (.iload_n 2, 1) := by decide +kernel
theorem dX2_remember_46 : decode cX2_remember 46 = .ok (.iaload, 1) := by decide +kernel
theorem dX2_remember_47 : decode cX2_remember 47 = .ok (.putfield 146, 3) := by decide +kernel
theorem dX2_remember_50 : decode cX2_remember 50 = .ok (.return_, 1) := by decide +kernel
end
section
theorem dX3_init_0 : decode cX3_init 0 = .ok (.aload_n 0, 1) := by decide +kernel
theorem dX3_init_1 : decode cX3_init 1 = .ok (.invokespecial 3, 3) := by decide +kernel
theorem dX3_init_4 : decode cX3_init 4 = .ok (.aload_n 0, 1) := by decide +kernel
theorem dX3_init_5 : decode cX3_init 5 = .ok (.bipush 120, 2) := by decide +kernel
theorem dX3_init_7 : decode cX3_init 7 = .ok (.newarray .byte, 2) := by decide +kernel
theorem dX3_init_9 : decode cX3_init 9 = .ok (.putfield 9, 3) := by decide +kernel
theorem dX3_init_12 : decode cX3_init 12 = .ok (.aload_n 0, 1) := by decide +kernel
theorem dX3_init_13 : decode cX3_init 13 = .ok (.bipush 10, 2) := by decide +kernel
theorem dX3_init_15 : decode cX3_init 15 = .ok (.anewarray 15, 3) := by decide +kernel
theorem dX3_init_18 : decode cX3_init 18 = .ok (.putfield 17, 3) := by decide +kernel
theorem dX3_init_21 : decode cX3_init 21 = .ok (.iconst 0, 1) := by decide +kernel
theorem dX3_init_22 : decode cX3_init 22 = .ok (.istore_n 1, 1) := by decide +kernel
theorem dX3_init_23 : decode cX3_init 23 = .ok (.iload_n 1, 1) := by decide +kernel
theorem dX3_init_24 : decode cX3_init 24 = .ok (.bipush 10, 2) := by decide +kernel
theorem dX3_init_26 : decode cX3_init 26 = .ok (.if_icmp .ge 22, 3) := by decide +kernel
theorem dX3_init_29 : decode cX3_init 29 = .ok (.aload_n 0, 1) := by decide +kernel
theorem dX3_init_30 : decode cX3_init 30 = .ok (.getfield 17, 3) := by decide +kernel
theorem dX3_init_33 : decode cX3_init 33 = .ok (.iload_n 1, 1) := by decide +kernel
theorem dX3_init_34 : decode cX3_init 34 = .ok (.new 15, 3) := by decide +kernel
theorem dX3_init_37 : decode cX3_init 37 = .ok (.dup, 1) := by decide +kernel
theorem dX3_init_38 : decode cX3_init 38 = .ok (.invokespecial 21, 3) := by decide +kernel
theorem dX3_init_41 : decode cX3_init 41 = .ok (.aastore, 1) := by decide +kernel
theorem dX3_init_42 : decode cX3_init 42 = .ok (.iinc 1 1, 3) := by decide +kernel
theorem dX3_init_45 : decode cX3_init 45 = .ok (.goto (-22), 3) := by decide +kernel
theorem dX3_init_48 : decode cX3_init 48 = .ok (.return_, 1) := by decide +kernel
theorem dX3_append_0 : decode cX3_append 0 = .ok (.aload_n 0, 1) := by decide +kernel
theorem dX3_append_1 : decode cX3_append 1 = .ok (.getfield 22, 3) := by decide +kernel
theorem dX3_append_4 : decode cX3_append 4 = .ok (.bipush 120, 2) := by decide +kernel
theorem dX3_append_6 : decode cX3_append 6 = .ok (.if_icmp .ge 23, 3) := by decide +kernel
theorem dX3_append_9 : decode cX3_append 9 = .ok (.aload_n 0, 1) := by decide +kernel
theorem dX3_append_10 : decode cX3_append 10 = .ok (.getfield 9, 3) := by decide +kernel
theorem dX3_append_13 : decode cX3_append 13 = .ok (.aload_n 0, 1) := by decide +kernel
theorem dX3_append_14 : decode cX3_append 14 = .ok (.getfield 22, 3) := by decide +kernel
theorem dX3_append_17 : decode cX3_append 17 = .ok (.iload_n 1, 1) := by decide +kernel
theorem dX3_append_18 : decode cX3_append 18 = .ok (.bastore, 1) := by decide +kernel
theorem dX3_append_19 : decode cX3_append 19 = .ok (.aload_n 0, 1) := by decide +kernel
theorem dX3_append_20 : decode cX3_append 20 = .ok (.dup, 1) := by decide +kernel
theorem dX3_append_21 : decode cX3_append 21 = .ok (.getfield 22, 3) := by decide +kernel
theorem dX3_append_24 : decode cX3_append 24 = .ok (.iconst 1, 1) := by decide +kernel
theorem dX3_append_25 : decode cX3_append 25 = .ok (.iadd, 1) := by decide +kernel
theorem dX3_append_26 : decode cX3_append 26 = .ok (.putfield 22, 3) := by decide +kernel
theorem dX3_append_29 : decode cX3_append 29 = .ok (.return_, 1) := by decide +kernel
theorem dX3_readAll_0 : decode cX3_readAll 0 = .ok (.aload_n 0, 1) := by decide +kernel
theorem dX3_readAll_1 : decode cX3_readAll 1 = .ok (.iconst 0, 1) := by decide +kernel
theorem dX3_readAll_2 : decode cX3_readAll 2 = .ok (.putfield 26, 3) := by decide +kernel
theorem dX3_readAll_5 : decode cX3_readAll 5 = .ok (.aload_n 0, 1) := by decide +kernel
theorem dX3_readAll_6 : decode cX3_readAll 6 = .ok (.iconst (-1), 1) := by decide +kernel
theorem dX3_readAll_7 : decode cX3_readAll 7 = .ok (.putfield 29, 3) := by decide +kernel
theorem dX3_readAll_10 : decode cX3_readAll 10 = .ok (.aload_n 0, 1) := by decide +kernel
theorem dX3_readAll_11 : decode cX3_readAll 11 = .ok (.iconst 0, 1) := by decide +kernel
theorem dX3_readAll_12 : decode cX3_readAll 12 = .ok (.putfield 32, 3) := by decide +kernel
theorem dX3_readAll_15 : decode cX3_readAll 15 = .ok (.iconst 0, 1) := by decide +kernel
theorem dX3_readAll_16 : decode cX3_readAll 16 = .ok (.istore_n 2, 1) := by decide +kernel
theorem dX3_readAll_17 : decode cX3_readAll 17 = .ok (.iload_n 2, 1) := by decide +kernel
theorem dX3_readAll_18 : decode cX3_readAll 18 = .ok (.bipush 10, 2) := by decide +kernel
theorem dX3_readAll_20 : decode cX3_readAll 20 = .ok (.if_icmp .gt 61, 3) := by decide +kernel
theorem dX3_readAll_23 : decode cX3_readAll 23 = .ok (.aload_n 0, 1) := by decide +kernel
theorem dX3_readAll_24 : decode cX3_readAll 24 = .ok (.iload_n 2, 1) := by decide +kernel
theorem dX3_readAll_25 : decode cX3_readAll 25 = .ok (.iload_n 1, 1) := by decide +kernel
theorem dX3_readAll_26 : decode cX3_readAll 26 = .ok (.if_icmp .ge 7, 3) := by decide +kernel
theorem dX3_readAll_29 : decode cX3_readAll 29 = .ok (.iconst 1, 1) := by decide +kernel
theorem dX3_readAll_30 : decode cX3_readAll 30 = .ok (.goto 4, 3) := by decide +kernel
theorem dX3_readAll_33 : decode cX3_readAll 33 = .ok (.iconst 0, 1) := by decide +kernel
theorem dX3_readAll_34 : decode cX3_readAll 34 = .ok (.invokevirtual 35, 3) := by decide +kernel
theorem dX3_readAll_37 : decode cX3_readAll 37 = .ok (.aload_n 0, 1) := by decide +kernel
theorem dX3_readAll_38 : decode cX3_readAll 38 = .ok (.getfield 29, 3) := by decide +kernel
theorem dX3_readAll_41 : decode cX3_readAll 41 = .ok (.iconst (-1), 1) := by decide +kernel
theorem dX3_readAll_42 : decode cX3_readAll 42 = .ok (.if_icmp .eq 4, 3) := by decide +kernel
theorem dX3_readAll_45 : decode cX3_readAll 45 = .ok (.return_, 1) := by decide +kernel
theorem dX3_readAll_46 : decode cX3_readAll 46 = .ok (.aload_n 0, 1) := by decide +kernel
theorem dX3_readAll_47 : decode cX3_readAll 47 = .ok (.invokevirtual 39, 3) := by decide +kernel
theorem dX3_readAll_50 : decode cX3_readAll 50 = .ok (.aload_n 0, 1) := by decide +kernel
theorem dX3_readAll_51 : decode cX3_readAll 51 = .ok (.getfield 42, 3) := by decide +kernel
theorem dX3_readAll_54 : decode cX3_readAll 54 = .ok (.ifCond .ne 4, 3) := by decide +kernel
theorem dX3_readAll_57 : decode cX3_readAll 57 = .ok (.return_, 1) := by decide +kernel
theorem dX3_readAll_58 : decode cX3_readAll 58 = .ok (.aload_n 0, 1) := by decide +kernel
theorem dX3_readAll_59 : decode cX3_readAll 59 = .ok (.getfield 42, 3) := by decide +kernel
theorem dX3_readAll_62 : decode cX3_readAll 62 = .ok (.iconst 3, 1) := by decide +kernel
theorem dX3_readAll_63 : decode cX3_readAll 63 = .ok (.if_icmp .eq 12, 3) := by decide +kernel
theorem dX3_readAll_66 : decode cX3_readAll 66 = .ok (.aload_n 0, 1) := by decide +kernel
theorem dX3_readAll_67 : decode cX3_readAll 67 = .ok (.aload_n 0, 1) := by decide +kernel
theorem dX3_readAll_68 : decode cX3_readAll 68 = .ok (.getfield 45, 3) := by decide +kernel
theorem dX3_readAll_71 : decode cX3_readAll 71 = .ok (.putfield 29, 3) := by decide +kernel
theorem dX3_readAll_74 : decode cX3_readAll 74 = .ok (.return_, 1) := by decide +kernel
theorem dX3_readAll_75 : decode cX3_readAll 75 = .ok (.iinc 2 1, 3) := by decide +kernel
theorem dX3_readAll_78 : decode cX3_readAll 78 = .ok (.goto (-61), 3) := by decide +kernel
theorem dX3_readAll_81 : decode cX3_readAll 81 = .ok (.return_, 1) := by decide +kernel
theorem dX3_readPhrase_0 : decode cX3_readPhrase 0 = .ok (.aload_n 0, 1) := by decide +kernel
theorem dX3_readPhrase_1 : decode cX3_readPhrase 1 = .ok (.invokevirtual 39, 3) := by decide +kernel
theorem dX3_readPhrase_4 : decode cX3_readPhrase 4 = .ok (.aload_n 0, 1) := by decide +kernel
theorem dX3_readPhrase_5 : decode cX3_readPhrase 5 = .ok (.getfield 42, 3) := by decide +kernel
theorem dX3_readPhrase_8 : decode cX3_readPhrase 8 = .ok (.iconst 1, 1) := by decide +kernel
theorem dX3_readPhrase_9 : decode cX3_readPhrase 9 = .ok (.if_icmp .ne 10, 3) := by decide +kernel
theorem dX3_readPhrase_12 : decode cX3_readPhrase 12 = .ok (.aload_n 0, 1) := by decide +kernel
theorem dX3_readPhrase_13 : decode cX3_readPhrase 13 = .ok (.invokevirtual 48, 3) := by decide +kernel
theorem dX3_readPhrase_16 : decode cX3_readPhrase 16 = .ok (.goto 4, 3) := by decide +kernel
theorem dX3_readPhrase_19 : decode cX3_readPhrase 19 = .ok (.iconst (-1), 1) := by decide +kernel
theorem dX3_readPhrase_20 : decode cX3_readPhrase 20 = .ok (.istore_n 2, 1) := by decide +kernel
theorem dX3_readPhrase_21 : decode cX3_readPhrase 21 = .ok (.iload_n 2, 1) := by decide +kernel
theorem dX3_readPhrase_22 : decode cX3_readPhrase 22 = .ok (.iconst (-1), 1) := by decide +kernel
theorem dX3_readPhrase_23 : decode cX3_readPhrase 23 = .ok (.if_icmp .eq 16, 3) := by decide +kernel
theorem dX3_readPhrase_26 : decode cX3_readPhrase 26 = .ok (.iload_n 1, 1) := by decide +kernel
theorem dX3_readPhrase_27 : decode cX3_readPhrase 27 = .ok (.ifCond .eq 12, 3) := by decide +kernel
theorem dX3_readPhrase_30 : decode cX3_readPhrase 30 = .ok (.aload_n 0, 1) := by decide +kernel
theorem dX3_readPhrase_31 : decode cX3_readPhrase 31 = .ok (.getfield 32, 3) := by decide +kernel
theorem dX3_readPhrase_34 : decode cX3_readPhrase 34 = .ok (.bipush 10, 2) := by decide +kernel
theorem dX3_readPhrase_36 : decode cX3_readPhrase 36 = .ok (.if_icmp .lt 12, 3) := by decide +kernel
theorem dX3_readPhrase_39 : decode cX3_readPhrase 39 = .ok (.aload_n 0, 1) := by decide +kernel
theorem dX3_readPhrase_40 : decode cX3_readPhrase 40 = .ok (.aload_n 0, 1) := by decide +kernel
theorem dX3_readPhrase_41 : decode cX3_readPhrase 41 = .ok (.getfield 45, 3) := by decide +kernel
theorem dX3_readPhrase_44 : decode cX3_readPhrase 44 = .ok (.putfield 29, 3) := by decide +kernel
theorem dX3_readPhrase_47 : decode cX3_readPhrase 47 = .ok (.return_, 1) := by decide +kernel
theorem dX3_readPhrase_48 : decode cX3_readPhrase 48 = .ok (.iload_n 2, 1) := by decide +kernel
theorem dX3_readPhrase_49 : decode cX3_readPhrase 49 = .ok (.ifCond .ne 7, 3) := by decide +kernel
theorem dX3_readPhrase_52 : decode cX3_readPhrase 52 = .ok (.iconst 0, 1) := by decide +kernel
theorem dX3_readPhrase_53 : decode cX3_readPhrase 53 = .ok (.goto 12, 3) := by decide +kernel
theorem dX3_readPhrase_56 : decode cX3_readPhrase 56 = .ok (.aload_n 0, 1) := by decide +kernel
theorem dX3_readPhrase_57 : decode cX3_readPhrase 57 = .ok (.getstatic 52, 3) := by decide +kernel
theorem dX3_readPhrase_60 : decode cX3_readPhrase 60 = .ok (.iload_n 2, 1) := by decide +kernel
theorem dX3_readPhrase_61 : decode cX3_readPhrase 61 = .ok (.iaload, 1) := by decide +kernel
theorem dX3_readPhrase_62 : decode cX3_readPhrase 62 = .ok (.invokevirtual 56, 3) := by decide +kernel
theorem dX3_readPhrase_65 : decode cX3_readPhrase 65 = .ok (.istore_n 3, 1) := by decide +kernel
theorem dX3_readPhrase_66 : decode cX3_readPhrase 66 = .ok (.aload_n 0, 1) := by decide +kernel
theorem dX3_readPhrase_67 : decode cX3_readPhrase 67 = .ok (.getfield 29, 3) := by decide +kernel
theorem dX3_readPhrase_70 : decode cX3_readPhrase 70 = .ok (.iconst (-1), 1) := by decide +kernel
theorem dX3_readPhrase_71 : decode cX3_readPhrase 71 = .ok (.if_icmp .eq 4, 3) := by decide +kernel
theorem dX3_readPhrase_74 : decode cX3_readPhrase 74 = .ok (.return_, 1) := by decide +kernel
theorem dX3_readPhrase_75 : decode cX3_readPhrase 75 = .ok (.aload_n 0, 1) := by decide +kernel
theorem dX3_readPhrase_76 : decode cX3_readPhrase 76 = .ok (.invokevirtual 39, 3) := by decide +kernel
theorem dX3_readPhrase_79 : decode cX3_readPhrase 79 = .ok (.aload_n 0, 1) := by decide +kernel
theorem dX3_readPhrase_80 : decode cX3_readPhrase 80 = .ok (.getfield 42, 3) := by decide +kernel
theorem dX3_readPhrase_83 : decode cX3_readPhrase 83 = .ok (.iconst 1, 1) := by decide +kernel
theorem dX3_readPhrase_84 : decode cX3_readPhrase 84 = .ok (.if_icmp .ne 10, 3) := by decide +kernel
theorem dX3_readPhrase_87 : decode cX3_readPhrase 87 = .ok (.aload_n 0, 1) := by decide +kernel
theorem dX3_readPhrase_88 : decode cX3_readPhrase 88 = .ok (.invokevirtual 60, 3) := by decide +kernel
theorem dX3_readPhrase_91 : decode cX3_readPhrase 91 = .ok (.goto 4, 3) := by decide +kernel
theorem dX3_readPhrase_94 : decode cX3_readPhrase 94 = .ok (.iconst (-1), 1) := by decide +kernel
theorem dX3_readPhrase_95 : decode cX3_readPhrase 95 = .ok (.istore 4, 2) := by decide +kernel
theorem dX3_readPhrase_97 : decode cX3_readPhrase 97 = .ok (.iload 4, 2) := by decide +kernel
theorem dX3_readPhrase_99 : decode cX3_readPhrase 99 = .ok (.iconst (-1), 1) := by decide +kernel
theorem dX3_readPhrase_100 : decode cX3_readPhrase 100 = .ok (.if_icmp .ne 12, 3) := by decide +kernel
theorem dX3_readPhrase_103 : decode cX3_readPhrase 103 = .ok (.aload_n 0, 1) := by decide +kernel
theorem dX3_readPhrase_104 : decode cX3_readPhrase 104 = .ok (.aload_n 0, 1) := by decide +kernel
theorem dX3_readPhrase_105 : decode cX3_readPhrase 105 = .ok (.getfield 45, 3) := by decide +kernel
theorem dX3_readPhrase_108 : decode cX3_readPhrase 108 = .ok (.putfield 29, 3) := by decide +kernel
theorem dX3_readPhrase_111 : decode cX3_readPhrase 111 = .ok (.return_, 1) := by decide +kernel
theorem dX3_readPhrase_112 : decode cX3_readPhrase 112 = .ok (.aload_n 0, 1) := by decide +kernel
theorem dX3_readPhrase_113 : decode cX3_readPhrase 113 = .ok (.iload 4, 2) := by decide +kernel
theorem dX3_readPhrase_115 : decode cX3_readPhrase 115 = .ok (.invokevirtual 63, 3) := by decide +kernel
theorem dX3_readPhrase_118 : decode cX3_readPhrase 118 = .ok (.istore 5, 2) := by decide +kernel
theorem dX3_readPhrase_120 : decode cX3_readPhrase 120 = .ok (.aload_n 0, 1) := by decide +kernel
theorem dX3_readPhrase_121 : decode cX3_readPhrase 121 = .ok (.getfield 29, 3) := by decide +kernel
theorem dX3_readPhrase_124 : decode cX3_readPhrase 124 = .ok (.iconst (-1), 1) := by decide +kernel
theorem dX3_readPhrase_125 : decode cX3_readPhrase 125 = .ok (.if_icmp .ne 22, 3) := by decide +kernel
theorem dX3_readPhrase_128 : decode cX3_readPhrase 128 = .ok (.iload 4, 2) := by decide +kernel
theorem dX3_readPhrase_130 : decode cX3_readPhrase 130 = .ok (.iconst 3, 1) := by decide +kernel
theorem dX3_readPhrase_131 : decode cX3_readPhrase 131 = .ok (.if_icmp .eq 9, 3) := by decide +kernel
theorem dX3_readPhrase_134 : decode cX3_readPhrase 134 = .ok (.iload 4, 2) := by decide +kernel
theorem dX3_readPhrase_136 : decode cX3_readPhrase 136 = .ok (.iconst 4, 1) := by decide +kernel
theorem dX3_readPhrase_137 : decode cX3_readPhrase 137 = .ok (.if_icmp .ne 10, 3) := by decide +kernel
theorem dX3_readPhrase_140 : decode cX3_readPhrase 140 = .ok (.aload_n 0, 1) := by decide +kernel
theorem dX3_readPhrase_141 : decode cX3_readPhrase 141 = .ok (.invokevirtual 66, 3) := by decide +kernel
theorem dX3_readPhrase_144 : decode cX3_readPhrase 144 = .ok (.goto 4, 3) := by decide +kernel
theorem dX3_readPhrase_147 : decode cX3_readPhrase 147 = .ok (.iconst 0, 1) := by decide +kernel
theorem dX3_readPhrase_148 : decode cX3_readPhrase 148 = .ok (.istore 6, 2) := by decide +kernel
theorem dX3_readPhrase_150 : decode cX3_readPhrase 150 = .ok (.aload_n 0, 1) := by decide +kernel
theorem dX3_readPhrase_151 : decode cX3_readPhrase 151 = .ok (.getfield 29, 3) := by decide +kernel
theorem dX3_readPhrase_154 : decode cX3_readPhrase 154 = .ok (.iconst (-1), 1) := by decide +kernel
theorem dX3_readPhrase_155 : decode cX3_readPhrase 155 = .ok (.if_icmp .ne 33, 3) := by decide +kernel
theorem dX3_readPhrase_158 : decode cX3_readPhrase 158 = .ok (.aload_n 0, 1) := by decide +kernel
theorem dX3_readPhrase_159 : decode cX3_readPhrase 159 = .ok (.getfield 17, 3) := by decide +kernel
theorem dX3_readPhrase_162 : decode cX3_readPhrase 162 = .ok (.aload_n 0, 1) := by decide +kernel
theorem dX3_readPhrase_163 : decode cX3_readPhrase 163 = .ok (.getfield 32, 3) := by decide +kernel
theorem dX3_readPhrase_166 : decode cX3_readPhrase 166 = .ok (.aaload, 1) := by decide +kernel
theorem dX3_readPhrase_167 : decode cX3_readPhrase 167 = .ok (.iload 4, 2) := by decide +kernel
theorem dX3_readPhrase_169 : decode cX3_readPhrase 169 = .ok (.iload_n 2, 1) := by decide +kernel
theorem dX3_readPhrase_170 : decode cX3_readPhrase 170 = .ok (.iload_n 3, 1) := by decide +kernel
theorem dX3_readPhrase_171 : decode cX3_readPhrase 171 = .ok (.iload 5, 2) := by decide +kernel
theorem dX3_readPhrase_173 : decode cX3_readPhrase 173 = .ok (.iload 6, 2) := by decide +kernel
theorem dX3_readPhrase_175 : decode cX3_readPhrase 175 = .ok (.invokevirtual 69, 3) := by decide +kernel
theorem dX3_readPhrase_178 : decode cX3_readPhrase 178 = .ok (.aload_n 0, 1) := by decide +kernel
theorem dX3_readPhrase_179 : decode cX3_readPhrase 179 = .ok (.dup, 1) := by decide +kernel
theorem dX3_readPhrase_180 : decode cX3_readPhrase 180 = .ok (.getfield 32, 3) := by decide +kernel
theorem dX3_readPhrase_183 : decode cX3_readPhrase 183 = .ok (.iconst 1, 1) := by decide +kernel
theorem dX3_readPhrase_184 : decode cX3_readPhrase 184 = .ok (.iadd, 1) := by decide +kernel
theorem dX3_readPhrase_185 : decode cX3_readPhrase 185 = .ok (.putfield 32, 3) := by decide +kernel
theorem dX3_readPhrase_188 : decode cX3_readPhrase 188 = .ok (.return_, 1) := by decide +kernel
theorem dX3_readFirst_0 : decode cX3_readFirst 0 = .ok (.iload_n 1, 1) := by decide +kernel
theorem dX3_readFirst_1 : decode cX3_readFirst 1 = .ok (.iconst 5, 1) := by decide +kernel
theorem dX3_readFirst_2 : decode cX3_readFirst 2 = .ok (.if_icmp .ne 5, 3) := by decide +kernel
theorem dX3_readFirst_5 : decode cX3_readFirst 5 = .ok (.iconst 0, 1) := by decide +kernel
theorem dX3_readFirst_6 : decode cX3_readFirst 6 = .ok (.ireturn, 1) := by decide +kernel
theorem dX3_readFirst_7 : decode cX3_readFirst 7 = .ok (.iload_n 1, 1) := by decide +kernel
theorem dX3_readFirst_8 : decode cX3_readFirst 8 = .ok (.iconst 2, 1) := by decide +kernel
theorem dX3_readFirst_9 : decode cX3_readFirst 9 = .ok (.if_icmp .gt 11, 3) := by decide +kernel
theorem dX3_readFirst_12 : decode cX3_readFirst 12 = .ok (.aload_n 0, 1) := by decide +kernel
theorem dX3_readFirst_13 : decode cX3_readFirst 13 = .ok (.iconst 5, 1) := by decide +kernel
theorem dX3_readFirst_14 : decode cX3_readFirst 14 = .ok (.invokevirtual 56, 3) := by decide +kernel
theorem dX3_readFirst_17 : decode cX3_readFirst 17 = .ok (.goto 7, 3) := by decide +kernel
theorem dX3_readFirst_20 : decode cX3_readFirst 20 = .ok (.aload_n 0, 1) := by decide +kernel
theorem dX3_readFirst_21 : decode cX3_readFirst 21 = .ok (.invokevirtual 66, 3) := by decide +kernel
theorem dX3_readFirst_24 : decode cX3_readFirst 24 = .ok (.ireturn, 1) := by decide +kernel
theorem dX3_readNumber_0 : decode cX3_readNumber 0 = .ok (.aload_n 0, 1) := by decide +kernel
theorem dX3_readNumber_1 : decode cX3_readNumber 1 = .ok (.invokevirtual 39, 3) := by decide +kernel
theorem dX3_readNumber_4 : decode cX3_readNumber 4 = .ok (.aload_n 0, 1) := by decide +kernel
theorem dX3_readNumber_5 : decode cX3_readNumber 5 = .ok (.iload_n 1, 1) := by decide +kernel
theorem dX3_readNumber_6 : decode cX3_readNumber 6 = .ok (.invokevirtual 73, 3) := by decide +kernel
theorem dX3_readNumber_9 : decode cX3_readNumber 9 = .ok (.ireturn, 1) := by decide +kernel
theorem dX3_readValue_0 : decode cX3_readValue 0 = .ok (.aload_n 0, 1) := by decide +kernel
theorem dX3_readValue_1 : decode cX3_readValue 1 = .ok (.invokevirtual 39, 3) := by decide +kernel
theorem dX3_readValue_4 : decode cX3_readValue 4 = .ok (.aload_n 0, 1) := by decide +kernel
theorem dX3_readValue_5 : decode cX3_readValue 5 = .ok (.getfield 42, 3) := by decide +kernel
theorem dX3_readValue_8 : decode cX3_readValue 8 = .ok (.iconst 4, 1) := by decide +kernel
theorem dX3_readValue_9 : decode cX3_readValue 9 = .ok (.if_icmp .eq 10, 3) := by decide +kernel
theorem dX3_readValue_12 : decode cX3_readValue 12 = .ok (.aload_n 0, 1) := by decide +kernel
theorem dX3_readValue_13 : decode cX3_readValue 13 = .ok (.bipush 9, 2) := by decide +kernel
theorem dX3_readValue_15 : decode cX3_readValue 15 = .ok (.invokevirtual 73, 3) := by decide +kernel
theorem dX3_readValue_18 : decode cX3_readValue 18 = .ok (.ireturn, 1) := by decide +kernel
theorem dX3_readValue_19 : decode cX3_readValue 19 = .ok (.aload_n 0, 1) := by decide +kernel
theorem dX3_readValue_20 : decode cX3_readValue 20 = .ok (.invokevirtual 39, 3) := by decide +kernel
theorem dX3_readValue_23 : decode cX3_readValue 23 = .ok (.aload_n 0, 1) := by decide +kernel
theorem dX3_readValue_24 : decode cX3_readValue 24 = .ok (.bipush 9, 2) := by decide +kernel
theorem dX3_readValue_26 : decode cX3_readValue 26 = .ok (.invokevirtual 73, 3) := by decide +kernel
theorem dX3_readValue_29 : decode cX3_readValue 29 = .ok (.ineg, 1) := by decide +kernel
theorem dX3_readValue_30 : decode cX3_readValue 30 = .ok (.ireturn, 1) := by decide +kernel
theorem dX3_numberHere_0 : decode cX3_numberHere 0 = .ok (.aload_n 0, 1) := by decide +kernel
theorem dX3_numberHere_1 : decode cX3_numberHere 1 = .ok (.getfield 42, 3) := by decide +kernel
theorem dX3_numberHere_4 : decode cX3_numberHere 4 = .ok (.iconst 2, 1) := by decide +kernel
theorem dX3_numberHere_5 : decode cX3_numberHere 5 = .ok (.if_icmp .ne 16, 3) := by decide +kernel
theorem dX3_numberHere_8 : decode cX3_numberHere 8 = .ok (.aload_n 0, 1) := by decide +kernel
theorem dX3_numberHere_9 : decode cX3_numberHere 9 = .ok (.getfield 76, 3) := by decide +kernel
theorem dX3_numberHere_12 : decode cX3_numberHere 12 = .ok (.iload_n 1, 1) := by decide +kernel
theorem dX3_numberHere_13 : decode cX3_numberHere 13 = .ok (.if_icmp .gt 8, 3) := by decide +kernel
theorem dX3_numberHere_16 : decode cX3_numberHere 16 = .ok (.aload_n 0, 1) := by decide +kernel
theorem dX3_numberHere_17 : decode cX3_numberHere 17 = .ok (.getfield 76, 3) := by decide +kernel
theorem dX3_numberHere_20 : decode cX3_numberHere 20 = .ok (.ireturn, 1) := by decide +kernel
theorem dX3_numberHere_21 : decode cX3_numberHere 21 = .ok (.aload_n 0, 1) := by decide +kernel
theorem dX3_numberHere_22 : decode cX3_numberHere 22 = .ok (.aload_n 0, 1) := by decide +kernel
theorem dX3_numberHere_23 : decode cX3_numberHere 23 = .ok (.getfield 45, 3) := by decide +kernel
theorem dX3_numberHere_26 : decode cX3_numberHere 26 = .ok (.putfield 29, 3) := by decide +kernel
theorem dX3_numberHere_29 : decode cX3_numberHere 29 = .ok (.iconst 0, 1) := by decide +kernel
theorem dX3_numberHere_30 : decode cX3_numberHere 30 = .ok (.ireturn, 1) := by decide +kernel
theorem dX3_scopeOfWord_0 : decode cX3_scopeOfWord 0 = .ok (.iconst 0, 1) := by decide +kernel
theorem dX3_scopeOfWord_1 : decode cX3_scopeOfWord 1 = .ok (.istore_n 1, 1) := by decide +kernel
theorem dX3_scopeOfWord_2 : decode cX3_scopeOfWord 2 = .ok (.iload_n 1, 1) := by decide +kernel
theorem dX3_scopeOfWord_3 : decode cX3_scopeOfWord 3 = .ok (.iconst 5, 1) := by decide +kernel
theorem dX3_scopeOfWord_4 : decode cX3_scopeOfWord 4 = .ok (.if_icmp .gt 22, 3) := by decide +kernel
theorem dX3_scopeOfWord_7 : decode cX3_scopeOfWord 7 = .ok (.aload_n 0, 1) := by decide +kernel
theorem dX3_scopeOfWord_8 : decode cX3_scopeOfWord 8 = .ok (.iload_n 1, 1) := by decide +kernel
theorem dX3_scopeOfWord_9 : decode cX3_scopeOfWord 9 = .ok (.invokestatic 79, 3) := by decide +kernel
theorem dX3_scopeOfWord_12 : decode cX3_scopeOfWord 12 = .ok (.invokevirtual 83, 3) := by decide +kernel
theorem dX3_scopeOfWord_15 : decode cX3_scopeOfWord 15 = .ok (.ifCond .eq 5, 3) := by decide +kernel
theorem dX3_scopeOfWord_18 : decode cX3_scopeOfWord 18 = .ok (.iload_n 1, 1) := by decide +kernel
theorem dX3_scopeOfWord_19 : decode cX3_scopeOfWord 19 = .ok (.ireturn, 1) := by decide +kernel
theorem dX3_scopeOfWord_20 : decode cX3_scopeOfWord 20 = .ok (.iinc 1 1, 3) := by decide +kernel
theorem dX3_scopeOfWord_23 : decode cX3_scopeOfWord 23 = .ok (.goto (-21), 3) := by decide +kernel
theorem dX3_scopeOfWord_26 : decode cX3_scopeOfWord 26 = .ok (.iconst (-1), 1) := by decide +kernel
theorem dX3_scopeOfWord_27 : decode cX3_scopeOfWord 27 = .ok (.ireturn, 1) := by decide +kernel
theorem dX3_sortOfWord_0 : decode cX3_sortOfWord 0 = .ok (.iconst 0, 1) := by decide +kernel
theorem dX3_sortOfWord_1 : decode cX3_sortOfWord 1 = .ok (.istore_n 1, 1) := by decide +kernel
theorem dX3_sortOfWord_2 : decode cX3_sortOfWord 2 = .ok (.iload_n 1, 1) := by decide +kernel
theorem dX3_sortOfWord_3 : decode cX3_sortOfWord 3 = .ok (.iconst 5, 1) := by decide +kernel
theorem dX3_sortOfWord_4 : decode cX3_sortOfWord 4 = .ok (.if_icmp .gt 22, 3) := by decide +kernel
theorem dX3_sortOfWord_7 : decode cX3_sortOfWord 7 = .ok (.aload_n 0, 1) := by decide +kernel
theorem dX3_sortOfWord_8 : decode cX3_sortOfWord 8 = .ok (.iload_n 1, 1) := by decide +kernel
theorem dX3_sortOfWord_9 : decode cX3_sortOfWord 9 = .ok (.invokestatic 87, 3) := by decide +kernel
theorem dX3_sortOfWord_12 : decode cX3_sortOfWord 12 = .ok (.invokevirtual 83, 3) := by decide +kernel
theorem dX3_sortOfWord_15 : decode cX3_sortOfWord 15 = .ok (.ifCond .eq 5, 3) := by decide +kernel
theorem dX3_sortOfWord_18 : decode cX3_sortOfWord 18 = .ok (.iload_n 1, 1) := by decide +kernel
theorem dX3_sortOfWord_19 : decode cX3_sortOfWord 19 = .ok (.ireturn, 1) := by decide +kernel
theorem dX3_sortOfWord_20 : decode cX3_sortOfWord 20 = .ok (.iinc 1 1, 3) := by decide +kernel
theorem dX3_sortOfWord_23 : decode cX3_sortOfWord 23 = .ok (.goto (-21), 3) := by decide +kernel
theorem dX3_sortOfWord_26 : decode cX3_sortOfWord 26 = .ok (.iconst (-1), 1) := by decide +kernel
theorem dX3_sortOfWord_27 : decode cX3_sortOfWord 27 = .ok (.ireturn, 1) := by decide +kernel
theorem dX3_isWord_0 : decode cX3_isWord 0 = .ok (.aload_n 0, 1) := by decide +kernel
theorem dX3_isWord_1 : decode cX3_isWord 1 = .ok (.getfield 26, 3) := by decide +kernel
theorem dX3_isWord_4 : decode cX3_isWord 4 = .ok (.aload_n 0, 1) := by decide +kernel
theorem dX3_isWord_5 : decode cX3_isWord 5 = .ok (.getfield 45, 3) := by decide +kernel
theorem dX3_isWord_8 : decode cX3_isWord 8 = .ok (.isub, 1) := by decide +kernel
theorem dX3_isWord_9 : decode cX3_isWord 9 = .ok (.aload_n 1, 1) := by decide +kernel
theorem dX3_isWord_10 : decode cX3_isWord 10 = .ok (.invokevirtual 90, 3) := by decide +kernel
theorem dX3_isWord_13 : decode cX3_isWord 13 = .ok (.if_icmp .eq 5, 3) := by decide +kernel
theorem dX3_isWord_16 : decode cX3_isWord 16 = .ok (.iconst 0, 1) := by decide +kernel
theorem dX3_isWord_17 : decode cX3_isWord 17 = .ok (.ireturn, 1) := by decide +kernel
theorem dX3_isWord_18 : decode cX3_isWord 18 = .ok (.iconst 0, 1) := by decide +kernel
theorem dX3_isWord_19 : decode cX3_isWord 19 = .ok (.istore_n 2, 1) := by decide +kernel
theorem dX3_isWord_20 : decode cX3_isWord 20 = .ok (.iload_n 2, 1) := by decide +kernel
theorem dX3_isWord_21 : decode cX3_isWord 21 = .ok (.aload_n 1, 1) := by decide +kernel
theorem dX3_isWord_22 : decode cX3_isWord 22 = .ok (.invokevirtual 90, 3) := by decide +kernel
theorem dX3_isWord_25 : decode cX3_isWord 25 = .ok (.if_icmp .ge 29, 3) := by decide +kernel
theorem dX3_isWord_28 : decode cX3_isWord 28 = .ok (.aload_n 0, 1) := by decide +kernel
theorem dX3_isWord_29 : decode cX3_isWord 29 = .ok (.aload_n 0, 1) := by decide +kernel
theorem dX3_isWord_30 : decode cX3_isWord 30 = .ok (.getfield 45, 3) := by decide +kernel
theorem dX3_isWord_33 : decode cX3_isWord 33 = .ok (.iload_n 2, 1) := by decide +kernel
theorem dX3_isWord_34 : decode cX3_isWord 34 = .ok (.iadd, 1) := by decide +kernel
theorem dX3_isWord_35 : decode cX3_isWord 35 = .ok (.invokevirtual 94, 3) := by decide +kernel
theorem dX3_isWord_38 : decode cX3_isWord 38 = .ok (.aload_n 1, 1) := by decide +kernel
theorem dX3_isWord_39 : decode cX3_isWord 39 = .ok (.iload_n 2, 1) := by decide +kernel
theorem dX3_isWord_40 : decode cX3_isWord 40 = .ok (.invokevirtual 97, 3) := by decide +kernel
theorem dX3_isWord_43 : decode cX3_isWord 43 = .ok (.if_icmp .eq 5, 3) := by decide +kernel
theorem dX3_isWord_46 : decode cX3_isWord 46 = .ok (.iconst 0, 1) := by decide +kernel
theorem dX3_isWord_47 : decode cX3_isWord 47 = .ok (.ireturn, 1) := by decide +kernel
theorem dX3_isWord_48 : decode cX3_isWord 48 = .ok (.iinc 2 1, 3) := by decide +kernel
theorem dX3_isWord_51 : decode cX3_isWord 51 = .ok (.goto (-31), 3) := by decide +kernel
theorem dX3_isWord_54 : decode cX3_isWord 54 = .ok (.iconst 1, 1) := by decide +kernel
theorem dX3_isWord_55 : decode cX3_isWord 55 = .ok (.ireturn, 1) := by decide +kernel
theorem dX3_byteAt_0 : decode cX3_byteAt 0 = .ok (.iload_n 1, 1) := by decide +kernel
theorem dX3_byteAt_1 : decode cX3_byteAt 1 = .ok (.ifCond .lt 26, 3) := by decide +kernel
theorem dX3_byteAt_4 : decode cX3_byteAt 4 = .ok (.iload_n 1, 1) := by decide +kernel
theorem dX3_byteAt_5 : decode cX3_byteAt 5 = .ok (.aload_n 0, 1) := by decide +kernel
theorem dX3_byteAt_6 : decode cX3_byteAt 6 = .ok (.getfield 22, 3) := by decide +kernel
theorem dX3_byteAt_9 : decode cX3_byteAt 9 = .ok (.if_icmp .ge 18, 3) := by decide +kernel
theorem dX3_byteAt_12 : decode cX3_byteAt 12 = .ok (.iload_n 1, 1) := by decide +kernel
theorem dX3_byteAt_13 : decode cX3_byteAt 13 = .ok (.bipush 120, 2) := by decide +kernel
theorem dX3_byteAt_15 : decode cX3_byteAt 15 = .ok (.if_icmp .ge 12, 3) := by decide +kernel
theorem dX3_byteAt_18 : decode cX3_byteAt 18 = .ok (.aload_n 0, 1) := by decide +kernel
theorem dX3_byteAt_19 : decode cX3_byteAt 19 = .ok (.getfield 9, 3) := by decide +kernel
theorem dX3_byteAt_22 : decode cX3_byteAt 22 = .ok (.iload_n 1, 1) := by decide +kernel
theorem dX3_byteAt_23 : decode cX3_byteAt 23 = .ok (.baload, 1) := by decide +kernel
theorem dX3_byteAt_24 : decode cX3_byteAt 24 = .ok (.goto 4, 3) := by decide +kernel
theorem dX3_byteAt_27 : decode cX3_byteAt 27 = .ok (.iconst 0, 1) := by decide +kernel
theorem dX3_byteAt_28 : decode cX3_byteAt 28 = .ok (.ireturn, 1) := by decide +kernel
theorem dX3_advance_0 : decode cX3_advance 0 = .ok (.aload_n 0, 1) := by decide +kernel
theorem dX3_advance_1 : decode cX3_advance 1 = .ok (.getfield 26, 3) := by decide +kernel
theorem dX3_advance_4 : decode cX3_advance 4 = .ok (.aload_n 0, 1) := by decide +kernel
theorem dX3_advance_5 : decode cX3_advance 5 = .ok (.getfield 22, 3) := by decide +kernel
theorem dX3_advance_8 : decode cX3_advance 8 = .ok (.if_icmp .ge 29, 3) := by decide +kernel
theorem dX3_advance_11 : decode cX3_advance 11 = .ok (.aload_n 0, 1) := by decide +kernel
theorem dX3_advance_12 : decode cX3_advance 12 = .ok (.aload_n 0, 1) := by decide +kernel
theorem dX3_advance_13 : decode cX3_advance 13 = .ok (.getfield 26, 3) := by decide +kernel
theorem dX3_advance_16 : decode cX3_advance 16 = .ok (.invokevirtual 94, 3) := by decide +kernel
theorem dX3_advance_19 : decode cX3_advance 19 = .ok (.bipush 32, 2) := by decide +kernel
theorem dX3_advance_21 : decode cX3_advance 21 = .ok (.if_icmp .ne 16, 3) := by decide +kernel
theorem dX3_advance_24 : decode cX3_advance 24 = .ok (.aload_n 0, 1) := by decide +kernel
theorem dX3_advance_25 : decode cX3_advance 25 = .ok (.dup, 1) := by decide +kernel
theorem dX3_advance_26 : decode cX3_advance 26 = .ok (.getfield 26, 3) := by decide +kernel
theorem dX3_advance_29 : decode cX3_advance 29 = .ok (.iconst 1, 1) := by decide +kernel
theorem dX3_advance_30 : decode cX3_advance 30 = .ok (.iadd, 1) := by decide +kernel
theorem dX3_advance_31 : decode cX3_advance 31 = .ok (.putfield 26, 3) := by decide +kernel
theorem dX3_advance_34 : decode cX3_advance 34 = .ok (.goto (-34), 3) := by decide +kernel
theorem dX3_advance_37 : decode cX3_advance 37 = .ok (.aload_n 0, 1) := by decide +kernel
theorem dX3_advance_38 : decode cX3_advance 38 = .ok (.aload_n 0, 1) := by decide +kernel
theorem dX3_advance_39 : decode cX3_advance 39 = .ok (.getfield 26, 3) := by decide +kernel
theorem dX3_advance_42 : decode cX3_advance 42 = .ok (.putfield 45, 3) := by decide +kernel
theorem dX3_advance_45 : decode cX3_advance 45 = .ok (.aload_n 0, 1) := by decide +kernel
theorem dX3_advance_46 : decode cX3_advance 46 = .ok (.aload_n 0, 1) := by decide +kernel
theorem dX3_advance_47 : decode cX3_advance 47 = .ok (.getfield 26, 3) := by decide +kernel
theorem dX3_advance_50 : decode cX3_advance 50 = .ok (.aload_n 0, 1) := by decide +kernel
theorem dX3_advance_51 : decode cX3_advance 51 = .ok (.getfield 22, 3) := by decide +kernel
theorem dX3_advance_54 : decode cX3_advance 54 = .ok (.if_icmp .ge 17, 3) := by decide +kernel
theorem dX3_advance_57 : decode cX3_advance 57 = .ok (.aload_n 0, 1) := by decide +kernel
theorem dX3_advance_58 : decode cX3_advance 58 = .ok (.aload_n 0, 1) := by decide +kernel
theorem dX3_advance_59 : decode cX3_advance 59 = .ok (.getfield 26, 3) := by decide +kernel
theorem dX3_advance_62 : decode cX3_advance 62 = .ok (.invokevirtual 94, 3) := by decide +kernel
theorem dX3_advance_65 : decode cX3_advance 65 = .ok (.invokestatic 101, 3) := by decide +kernel
theorem dX3_advance_68 : decode cX3_advance 68 = .ok (.goto 4, 3) := by decide +kernel
theorem dX3_advance_71 : decode cX3_advance 71 = .ok (.iconst 0, 1) := by decide +kernel
theorem dX3_advance_72 : decode cX3_advance 72 = .ok (.putfield 42, 3) := by decide +kernel
theorem dX3_advance_75 : decode cX3_advance 75 = .ok (.aload_n 0, 1) := by decide +kernel
theorem dX3_advance_76 : decode cX3_advance 76 = .ok (.iconst 0, 1) := by decide +kernel
theorem dX3_advance_77 : decode cX3_advance 77 = .ok (.putfield 76, 3) := by decide +kernel
theorem dX3_advance_80 : decode cX3_advance 80 = .ok (.aload_n 0, 1) := by decide +kernel
theorem dX3_advance_81 : decode cX3_advance 81 = .ok (.getfield 42, 3) := by decide +kernel
theorem dX3_advance_84 : decode cX3_advance 84 = .ok (.ifCond .eq 7, 3) := by decide +kernel
theorem dX3_advance_87 : decode cX3_advance 87 = .ok (.iconst 1, 1) := by decide +kernel
theorem dX3_advance_88 : decode cX3_advance 88 = .ok (.goto 4, 3) := by decide +kernel
theorem dX3_advance_91 : decode cX3_advance 91 = .ok (.iconst 0, 1) := by decide +kernel
theorem dX3_advance_92 : decode cX3_advance 92 = .ok (.istore_n 1, 1) := by decide +kernel
theorem dX3_advance_93 : decode cX3_advance 93 = .ok (.iload_n 1, 1) := by decide +kernel
theorem dX3_advance_94 : decode cX3_advance 94 = .ok (.ifCond .eq 103, 3) := by decide +kernel
theorem dX3_advance_97 : decode cX3_advance 97 = .ok (.aload_n 0, 1) := by decide +kernel
theorem dX3_advance_98 : decode cX3_advance 98 = .ok (.getfield 26, 3) := by decide +kernel
theorem dX3_advance_101 : decode cX3_advance 101 = .ok (.aload_n 0, 1) := by decide +kernel
theorem dX3_advance_102 : decode cX3_advance 102 = .ok (.getfield 22, 3) := by decide +kernel
theorem dX3_advance_105 : decode cX3_advance 105 = .ok (.if_icmp .ge 92, 3) := by decide +kernel
theorem dX3_advance_108 : decode cX3_advance 108 = .ok (.aload_n 0, 1) := by decide +kernel
theorem dX3_advance_109 : decode cX3_advance 109 = .ok (.getfield 42, 3) := by decide +kernel
theorem dX3_advance_112 : decode cX3_advance 112 = .ok (.iconst 2, 1) := by decide +kernel
theorem dX3_advance_113 : decode cX3_advance 113 = .ok (.if_icmp .ne 31, 3) := by decide +kernel
theorem dX3_advance_116 : decode cX3_advance 116 = .ok (.aload_n 0, 1) := by decide +kernel
theorem dX3_advance_117 : decode cX3_advance 117 = .ok (.bipush 10, 2) := by decide +kernel
theorem dX3_advance_119 : decode cX3_advance 119 = .ok (.aload_n 0, 1) := by decide +kernel
theorem dX3_advance_120 : decode cX3_advance 120 = .ok (.getfield 76, 3) := by decide +kernel
theorem dX3_advance_123 : decode cX3_advance 123 = .ok (.bipush 10, 2) := by decide +kernel
theorem dX3_advance_125 : decode cX3_advance 125 = .ok (.imul, 1) := by decide +kernel
theorem dX3_advance_126 : decode cX3_advance 126 = .ok (.aload_n 0, 1) := by decide +kernel
theorem dX3_advance_127 : decode cX3_advance 127 = .ok (.aload_n 0, 1) := by decide +kernel
theorem dX3_advance_128 : decode cX3_advance 128 = .ok (.getfield 26, 3) := by decide +kernel
theorem dX3_advance_131 : decode cX3_advance 131 = .ok (.invokevirtual 94, 3) := by decide +kernel
theorem dX3_advance_134 : decode cX3_advance 134 = .ok (.iadd, 1) := by decide +kernel
theorem dX3_advance_135 : decode cX3_advance 135 = .ok (.bipush 48, 2) := by decide +kernel
theorem dX3_advance_137 : decode cX3_advance 137 = .ok (.isub, 1) := by decide +kernel
theorem dX3_advance_138 : decode cX3_advance 138 = .ok (.invokestatic 104, 3) := by decide +kernel
theorem dX3_advance_141 : decode cX3_advance 141 = .ok (.putfield 76, 3) := by decide +kernel
theorem dX3_advance_144 : decode cX3_advance 144 = .ok (.aload_n 0, 1) := by decide +kernel
theorem dX3_advance_145 : decode cX3_advance 145 = .ok (.dup, 1) := by decide +kernel
theorem dX3_advance_146 : decode cX3_advance 146 = .ok (.getfield 26, 3) := by decide +kernel
theorem dX3_advance_149 : decode cX3_advance 149 = .ok (.iconst 1, 1) := by decide +kernel
theorem dX3_advance_150 : decode cX3_advance 150 = .ok (.iadd, 1) := by decide +kernel
theorem dX3_advance_151 : decode cX3_advance 151 = .ok (.putfield 26, 3) := by decide +kernel
end
section
theorem dX3_advance_154 : decode cX3_advance 154 = .ok (.aload_n 0, 1) := by decide +kernel
theorem dX3_advance_155 : decode cX3_advance 155 = .ok (.getfield 42, 3) := by decide +kernel
theorem dX3_advance_158 : decode cX3_advance 158 = .ok (.iconst 1, 1) := by decide +kernel
theorem dX3_advance_159 : decode cX3_advance 159 = .ok (.if_icmp .eq 11, 3) := by decide +kernel
theorem dX3_advance_162 : decode cX3_advance 162 = .ok (.aload_n 0, 1) := by decide +kernel
theorem dX3_advance_163 : decode cX3_advance 163 = .ok (.getfield 42, 3) := by decide +kernel
theorem dX3_advance_166 : decode cX3_advance 166 = .ok (.iconst 2, 1) := by decide +kernel
theorem dX3_advance_167 : decode cX3_advance 167 = .ok (.if_icmp .ne 25, 3) := by decide +kernel
theorem dX3_advance_170 : decode cX3_advance 170 = .ok (.aload_n 0, 1) := by decide +kernel
theorem dX3_advance_171 : decode cX3_advance 171 = .ok (.aload_n 0, 1) := by decide +kernel
theorem dX3_advance_172 : decode cX3_advance 172 = .ok (.getfield 26, 3) := by decide +kernel
theorem dX3_advance_175 : decode cX3_advance 175 = .ok (.invokevirtual 94, 3) := by decide +kernel
theorem dX3_advance_178 : decode cX3_advance 178 = .ok (.invokestatic 101, 3) := by decide +kernel
theorem dX3_advance_181 : decode cX3_advance 181 = .ok (.aload_n 0, 1) := by decide +kernel
theorem dX3_advance_182 : decode cX3_advance 182 = .ok (.getfield 42, 3) := by decide +kernel
theorem dX3_advance_185 : decode cX3_advance 185 = .ok (.if_icmp .ne 7, 3) := by decide +kernel
theorem dX3_advance_188 : decode cX3_advance 188 = .ok (.iconst 1, 1) := by decide +kernel
theorem dX3_advance_189 : decode cX3_advance 189 = .ok (.goto 4, 3) := by decide +kernel
theorem dX3_advance_192 : decode cX3_advance 192 = .ok (.iconst 0, 1) := by decide +kernel
theorem dX3_advance_193 : decode cX3_advance 193 = .ok (.istore_n 1, 1) := by decide +kernel
theorem dX3_advance_194 : decode cX3_advance 194 = .ok (.goto (-101), 3) := by decide +kernel
theorem dX3_advance_197 : decode cX3_advance 197 = .ok (.return_, 1) := by decide +kernel
theorem dX3_kindOf_0 : decode cX3_kindOf 0 = .ok (.iload_n 0, 1) := by decide +kernel
theorem dX3_kindOf_1 : decode cX3_kindOf 1 = .ok (.bipush 97, 2) := by decide +kernel
theorem dX3_kindOf_3 : decode cX3_kindOf 3 = .ok (.if_icmp .lt 11, 3) := by decide +kernel
theorem dX3_kindOf_6 : decode cX3_kindOf 6 = .ok (.iload_n 0, 1) := by decide +kernel
theorem dX3_kindOf_7 : decode cX3_kindOf 7 = .ok (.bipush 122, 2) := by decide +kernel
theorem dX3_kindOf_9 : decode cX3_kindOf 9 = .ok (.if_icmp .gt 5, 3) := by decide +kernel
theorem dX3_kindOf_12 : decode cX3_kindOf 12 = .ok (.iconst 1, 1) := by decide +kernel
theorem dX3_kindOf_13 : decode cX3_kindOf 13 = .ok (.ireturn, 1) := by decide +kernel
theorem dX3_kindOf_14 : decode cX3_kindOf 14 = .ok (.iload_n 0, 1) := by decide +kernel
theorem dX3_kindOf_15 : decode cX3_kindOf 15 = .ok (.bipush 48, 2) := by decide +kernel
theorem dX3_kindOf_17 : decode cX3_kindOf 17 = .ok (.if_icmp .lt 11, 3) := by decide +kernel
theorem dX3_kindOf_20 : decode cX3_kindOf 20 = .ok (.iload_n 0, 1) := by decide +kernel
theorem dX3_kindOf_21 : decode cX3_kindOf 21 = .ok (.bipush 57, 2) := by decide +kernel
theorem dX3_kindOf_23 : decode cX3_kindOf 23 = .ok (.if_icmp .gt 5, 3) := by decide +kernel
theorem dX3_kindOf_26 : decode cX3_kindOf 26 = .ok (.iconst 2, 1) := by decide +kernel
theorem dX3_kindOf_27 : decode cX3_kindOf 27 = .ok (.ireturn, 1) := by decide +kernel
theorem dX3_kindOf_28 : decode cX3_kindOf 28 = .ok (.iload_n 0, 1) := by decide +kernel
theorem dX3_kindOf_29 : decode cX3_kindOf 29 = .ok (.bipush 59, 2) := by decide +kernel
theorem dX3_kindOf_31 : decode cX3_kindOf 31 = .ok (.if_icmp .ne 5, 3) := by decide +kernel
theorem dX3_kindOf_34 : decode cX3_kindOf 34 = .ok (.iconst 3, 1) := by decide +kernel
theorem dX3_kindOf_35 : decode cX3_kindOf 35 = .ok (.ireturn, 1) := by decide +kernel
theorem dX3_kindOf_36 : decode cX3_kindOf 36 = .ok (.iload_n 0, 1) := by decide +kernel
theorem dX3_kindOf_37 : decode cX3_kindOf 37 = .ok (.bipush 45, 2) := by decide +kernel
theorem dX3_kindOf_39 : decode cX3_kindOf 39 = .ok (.if_icmp .ne 7, 3) := by decide +kernel
theorem dX3_kindOf_42 : decode cX3_kindOf 42 = .ok (.iconst 4, 1) := by decide +kernel
theorem dX3_kindOf_43 : decode cX3_kindOf 43 = .ok (.goto 4, 3) := by decide +kernel
theorem dX3_kindOf_46 : decode cX3_kindOf 46 = .ok (.iconst 5, 1) := by decide +kernel
theorem dX3_kindOf_47 : decode cX3_kindOf 47 = .ok (.ireturn, 1) := by decide +kernel
end
section
theorem dX4_init_0 : decode cX4_init 0 = .ok (.aload_n 0, 1) := by decide +kernel
theorem dX4_init_1 : decode cX4_init 1 = .ok (.invokespecial 1, 3) := by decide +kernel
theorem dX4_init_4 : decode cX4_init 4 = .ok (.return_, 1) := by decide +kernel
theorem dX4_become_0 : decode cX4_become 0 = .ok (.aload_n 0, 1) := by decide +kernel
theorem dX4_become_1 : decode cX4_become 1 = .ok (.iload_n 1, 1) := by decide +kernel
theorem dX4_become_2 : decode cX4_become 2 = .ok (.putfield 7, 3) := by decide +kernel
theorem dX4_become_5 : decode cX4_become 5 = .ok (.aload_n 0, 1) := by decide +kernel
theorem dX4_become_6 : decode cX4_become 6 = .ok (.iload_n 2, 1) := by decide +kernel
theorem dX4_become_7 : decode cX4_become 7 = .ok (.putfield 13, 3) := by decide +kernel
theorem dX4_become_10 : decode cX4_become 10 = .ok (.aload_n 0, 1) := by decide +kernel
theorem dX4_become_11 : decode cX4_become 11 = .ok (.iload_n 3, 1) := by decide +kernel
theorem dX4_become_12 : decode cX4_become 12 = .ok (.putfield 16, 3) := by decide +kernel
theorem dX4_become_15 : decode cX4_become 15 = .ok (.aload_n 0, 1) := by decide +kernel
theorem dX4_become_16 : decode cX4_become 16 = .ok (.iload 4, 2) := by decide +kernel
theorem dX4_become_18 : decode cX4_become 18 = .ok (.putfield 19, 3) := by decide +kernel
theorem dX4_become_21 : decode cX4_become 21 = .ok (.return_, 1) := by decide +kernel
theorem dX4_copyFrom_0 : decode cX4_copyFrom 0 = .ok (.aload_n 0, 1) := by decide +kernel
theorem dX4_copyFrom_1 : decode cX4_copyFrom 1 = .ok (.aload_n 1, 1) := by decide +kernel
theorem dX4_copyFrom_2 : decode cX4_copyFrom 2 = .ok (.getfield 7, 3) := by decide +kernel
theorem dX4_copyFrom_5 : decode cX4_copyFrom 5 = .ok (.aload_n 1, 1) := by decide +kernel
theorem dX4_copyFrom_6 : decode cX4_copyFrom 6 = .ok (.getfield 13, 3) := by decide +kernel
theorem dX4_copyFrom_9 : decode cX4_copyFrom 9 = .ok (.aload_n 1, 1) := by decide +kernel
theorem dX4_copyFrom_10 : decode cX4_copyFrom 10 = .ok (.getfield 16, 3) := by decide +kernel
theorem dX4_copyFrom_13 : decode cX4_copyFrom 13 = .ok (.aload_n 1, 1) := by decide +kernel
theorem dX4_copyFrom_14 : decode cX4_copyFrom 14 = .ok (.getfield 19, 3) := by decide +kernel
theorem dX4_copyFrom_17 : decode cX4_copyFrom 17 = .ok (.invokevirtual 22, 3) := by decide +kernel
theorem dX4_copyFrom_20 : decode cX4_copyFrom 20 = .ok (.return_, 1) := by decide +kernel
end
section
theorem dX5_init_0 : decode cX5_init 0 = .ok (.aload_n 0, 1) := by decide +kernel
theorem dX5_init_1 : decode cX5_init 1 = .ok (.invokespecial 3, 3) := by decide +kernel
theorem dX5_init_4 : decode cX5_init 4 = .ok (.aload_n 0, 1) := by decide +kernel
theorem dX5_init_5 : decode cX5_init 5 = .ok (.iconst (-1), 1) := by decide +kernel
theorem dX5_init_6 : decode cX5_init 6 = .ok (.putfield 9, 3) := by decide +kernel
theorem dX5_init_9 : decode cX5_init 9 = .ok (.aload_n 0, 1) := by decide +kernel
theorem dX5_init_10 : decode cX5_init 10 = .ok (.bipush 40, 2) := by decide +kernel
theorem dX5_init_12 : decode cX5_init 12 = .ok (.newarray .int, 2) := by decide +kernel
theorem dX5_init_14 : decode cX5_init 14 = .ok (.putfield 15, 3) := by decide +kernel
theorem dX5_init_17 : decode cX5_init 17 = .ok (.return_, 1) := by decide +kernel
theorem dX5_become_0 : decode cX5_become 0 = .ok (.aload_n 0, 1) := by decide +kernel
theorem dX5_become_1 : decode cX5_become 1 = .ok (.iload_n 1, 1) := by decide +kernel
theorem dX5_become_2 : decode cX5_become 2 = .ok (.putfield 9, 3) := by decide +kernel
theorem dX5_become_5 : decode cX5_become 5 = .ok (.aload_n 0, 1) := by decide +kernel
theorem dX5_become_6 : decode cX5_become 6 = .ok (.iload_n 2, 1) := by decide +kernel
theorem dX5_become_7 : decode cX5_become 7 = .ok (.putfield 19, 3) := by decide +kernel
theorem dX5_become_10 : decode cX5_become 10 = .ok (.iconst 0, 1) := by decide +kernel
theorem dX5_become_11 : decode cX5_become 11 = .ok (.istore_n 3, 1) := by decide +kernel
theorem dX5_become_12 : decode cX5_become 12 = .ok (.iload_n 3, 1) := by decide +kernel
theorem dX5_become_13 : decode cX5_become 13 = .ok (.bipush 40, 2) := by decide +kernel
theorem dX5_become_15 : decode cX5_become 15 = .ok (.if_icmp .ge 16, 3) := by decide +kernel
theorem dX5_become_18 : decode cX5_become 18 = .ok (.aload_n 0, 1) := by decide +kernel
theorem dX5_become_19 : decode cX5_become 19 = .ok (.getfield 15, 3) := by decide +kernel
theorem dX5_become_22 : decode cX5_become 22 = .ok (.iload_n 3, 1) := by decide +kernel
theorem dX5_become_23 : decode cX5_become 23 = .ok (.iconst 0, 1) := by decide +kernel
theorem dX5_become_24 : decode cX5_become 24 = .ok (.iastore, 1) := by decide +kernel
theorem dX5_become_25 : decode cX5_become 25 = .ok (.iinc 3 1, 3) := by decide +kernel
theorem dX5_become_28 : decode cX5_become 28 = .ok (.goto (-16), 3) := by decide +kernel
theorem dX5_become_31 : decode cX5_become 31 = .ok (.return_, 1) := by decide +kernel
theorem dX5_spans_0 : decode cX5_spans 0 = .ok (.iload_n 2, 1) := by decide +kernel
theorem dX5_spans_1 : decode cX5_spans 1 = .ok (.ifCond .lt 29, 3) := by decide +kernel
theorem dX5_spans_4 : decode cX5_spans 4 = .ok (.iload_n 2, 1) := by decide +kernel
theorem dX5_spans_5 : decode cX5_spans 5 = .ok (.aload_n 0, 1) := by decide +kernel
theorem dX5_spans_6 : decode cX5_spans 6 = .ok (.getfield 19, 3) := by decide +kernel
theorem dX5_spans_9 : decode cX5_spans 9 = .ok (.if_icmp .gt 21, 3) := by decide +kernel
theorem dX5_spans_12 : decode cX5_spans 12 = .ok (.iload_n 1, 1) := by decide +kernel
theorem dX5_spans_13 : decode cX5_spans 13 = .ok (.iconst 0, 1) := by decide +kernel
theorem dX5_spans_14 : decode cX5_spans 14 = .ok (.aload_n 0, 1) := by decide +kernel
theorem dX5_spans_15 : decode cX5_spans 15 = .ok (.getfield 19, 3) := by decide +kernel
theorem dX5_spans_18 : decode cX5_spans 18 = .ok (.iload_n 2, 1) := by decide +kernel
theorem dX5_spans_19 : decode cX5_spans 19 = .ok (.isub, 1) := by decide +kernel
theorem dX5_spans_20 : decode cX5_spans 20 = .ok (.invokestatic 22, 3) := by decide +kernel
theorem dX5_spans_23 : decode cX5_spans 23 = .ok (.ifCond .eq 7, 3) := by decide +kernel
theorem dX5_spans_26 : decode cX5_spans 26 = .ok (.iconst 1, 1) := by decide +kernel
theorem dX5_spans_27 : decode cX5_spans 27 = .ok (.goto 4, 3) := by decide +kernel
theorem dX5_spans_30 : decode cX5_spans 30 = .ok (.iconst 0, 1) := by decide +kernel
theorem dX5_spans_31 : decode cX5_spans 31 = .ok (.ireturn, 1) := by decide +kernel
theorem dX5_appendText_0 : decode cX5_appendText 0 = .ok (.iconst 0, 1) := by decide +kernel
theorem dX5_appendText_1 : decode cX5_appendText 1 = .ok (.istore_n 2, 1) := by decide +kernel
theorem dX5_appendText_2 : decode cX5_appendText 2 = .ok (.iload_n 2, 1) := by decide +kernel
theorem dX5_appendText_3 : decode cX5_appendText 3 = .ok (.aload_n 1, 1) := by decide +kernel
theorem dX5_appendText_4 : decode cX5_appendText 4 = .ok (.invokevirtual 26, 3) := by decide +kernel
theorem dX5_appendText_7 : decode cX5_appendText 7 = .ok (.if_icmp .ge 18, 3) := by decide +kernel
theorem dX5_appendText_10 : decode cX5_appendText 10 = .ok (.aload_n 0, 1) := by decide +kernel
theorem dX5_appendText_11 : decode cX5_appendText 11 = .ok (.aload_n 1, 1) := by decide +kernel
theorem dX5_appendText_12 : decode cX5_appendText 12 = .ok (.iload_n 2, 1) := by decide +kernel
theorem dX5_appendText_13 : decode cX5_appendText 13 = .ok (.invokevirtual 31, 3) := by decide +kernel
theorem dX5_appendText_16 : decode cX5_appendText 16 = .ok (.invokevirtual 35, 3) := by decide +kernel
theorem dX5_appendText_19 : decode cX5_appendText 19 = .ok (.iinc 2 1, 3) := by decide +kernel
theorem dX5_appendText_22 : decode cX5_appendText 22 = .ok (.goto (-20), 3) := by decide +kernel
theorem dX5_appendText_25 : decode cX5_appendText 25 = .ok (.return_, 1) := by decide +kernel
theorem dX5_appendValue_0 : decode cX5_appendValue 0 = .ok (.aload_n 0, 1) := by decide +kernel
theorem dX5_appendValue_1 : decode cX5_appendValue 1 = .ok (.bipush 32, 2) := by decide +kernel
theorem dX5_appendValue_3 : decode cX5_appendValue 3 = .ok (.invokevirtual 35, 3) := by decide +kernel
theorem dX5_appendValue_6 : decode cX5_appendValue 6 = .ok (.iload_n 1, 1) := by decide +kernel
theorem dX5_appendValue_7 : decode cX5_appendValue 7 = .ok (.ifCond .ge 9, 3) := by decide +kernel
theorem dX5_appendValue_10 : decode cX5_appendValue 10 = .ok (.aload_n 0, 1) := by decide +kernel
theorem dX5_appendValue_11 : decode cX5_appendValue 11 = .ok (.bipush 45, 2) := by decide +kernel
theorem dX5_appendValue_13 : decode cX5_appendValue 13 = .ok (.invokevirtual 35, 3) := by decide +kernel
theorem dX5_appendValue_16 : decode cX5_appendValue 16 = .ok (.aload_n 0, 1) := by decide +kernel
theorem dX5_appendValue_17 : decode cX5_appendValue 17 = .ok (.bipush 48, 2) := by decide +kernel
theorem dX5_appendValue_19 : decode cX5_appendValue 19 = .ok (.iload_n 1, 1) := by decide +kernel
theorem dX5_appendValue_20 : decode cX5_appendValue 20 = .ok (.invokestatic 39, 3) := by decide +kernel
theorem dX5_appendValue_23 : decode cX5_appendValue 23 = .ok (.iadd, 1) := by decide +kernel
theorem dX5_appendValue_24 : decode cX5_appendValue 24 = .ok (.i2c, 1) := by decide +kernel
theorem dX5_appendValue_25 : decode cX5_appendValue 25 = .ok (.invokevirtual 35, 3) := by decide +kernel
theorem dX5_appendValue_28 : decode cX5_appendValue 28 = .ok (.return_, 1) := by decide +kernel
theorem dX5_appendSign_0 : decode cX5_appendSign 0 = .ok (.aload_n 0, 1) := by decide +kernel
theorem dX5_appendSign_1 : decode cX5_appendSign 1 = .ok (.getfield 19, 3) := by decide +kernel
theorem dX5_appendSign_4 : decode cX5_appendSign 4 = .ok (.bipush 40, 2) := by decide +kernel
theorem dX5_appendSign_6 : decode cX5_appendSign 6 = .ok (.if_icmp .ge 24, 3) := by decide +kernel
theorem dX5_appendSign_9 : decode cX5_appendSign 9 = .ok (.aload_n 0, 1) := by decide +kernel
theorem dX5_appendSign_10 : decode cX5_appendSign 10 = .ok (.getfield 15, 3) := by decide +kernel
theorem dX5_appendSign_13 : decode cX5_appendSign 13 = .ok (.aload_n 0, 1) := by decide +kernel
theorem dX5_appendSign_14 : decode cX5_appendSign 14 = .ok (.getfield 19, 3) := by decide +kernel
theorem dX5_appendSign_17 : decode cX5_appendSign 17 = .ok (.iload_n 1, 1) := by decide +kernel
theorem dX5_appendSign_18 : decode cX5_appendSign 18 = .ok (.i2b, 1) := by decide +kernel
theorem dX5_appendSign_19 : decode cX5_appendSign 19 = .ok (.iastore, 1) := by decide +kernel
theorem dX5_appendSign_20 : decode cX5_appendSign 20 = .ok (.aload_n 0, 1) := by decide +kernel
theorem dX5_appendSign_21 : decode cX5_appendSign 21 = .ok (.dup, 1) := by decide +kernel
theorem dX5_appendSign_22 : decode cX5_appendSign 22 = .ok (.getfield 19, 3) := by decide +kernel
theorem dX5_appendSign_25 : decode cX5_appendSign 25 = .ok (.iconst 1, 1) := by decide +kernel
theorem dX5_appendSign_26 : decode cX5_appendSign 26 = .ok (.iadd, 1) := by decide +kernel
theorem dX5_appendSign_27 : decode cX5_appendSign 27 = .ok (.putfield 19, 3) := by decide +kernel
theorem dX5_appendSign_30 : decode cX5_appendSign 30 = .ok (.return_, 1) := by decide +kernel
end
section
theorem dX6_init_0 : decode cX6_init 0 = .ok (.aload_n 0, 1) := by decide +kernel
theorem dX6_init_1 : decode cX6_init 1 = .ok (.invokespecial 3, 3) := by decide +kernel
theorem dX6_init_4 : decode cX6_init 4 = .ok (.return_, 1) := by decide +kernel
theorem dX6_become_0 : decode cX6_become 0 = .ok (.aload_n 0, 1) := by decide +kernel
theorem dX6_become_1 : decode cX6_become 1 = .ok (.iload_n 1, 1) := by decide +kernel
theorem dX6_become_2 : decode cX6_become 2 = .ok (.putfield 9, 3) := by decide +kernel
theorem dX6_become_5 : decode cX6_become 5 = .ok (.aload_n 0, 1) := by decide +kernel
theorem dX6_become_6 : decode cX6_become 6 = .ok (.iload_n 2, 1) := by decide +kernel
theorem dX6_become_7 : decode cX6_become 7 = .ok (.putfield 15, 3) := by decide +kernel
theorem dX6_become_10 : decode cX6_become 10 = .ok (.aload_n 0, 1) := by decide +kernel
theorem dX6_become_11 : decode cX6_become 11 = .ok (.iload_n 3, 1) := by decide +kernel
theorem dX6_become_12 : decode cX6_become 12 = .ok (.putfield 18, 3) := by decide +kernel
theorem dX6_become_15 : decode cX6_become 15 = .ok (.aload_n 0, 1) := by decide +kernel
theorem dX6_become_16 : decode cX6_become 16 = .ok (.iload 4, 2) := by decide +kernel
theorem dX6_become_18 : decode cX6_become 18 = .ok (.putfield 21, 3) := by decide +kernel
theorem dX6_become_21 : decode cX6_become 21 = .ok (.aload_n 0, 1) := by decide +kernel
theorem dX6_become_22 : decode cX6_become 22 = .ok (.iconst 0, 1) := by decide +kernel
theorem dX6_become_23 : decode cX6_become 23 = .ok (.putfield 24, 3) := by decide +kernel
theorem dX6_become_26 : decode cX6_become 26 = .ok (.aload_n 0, 1) := by decide +kernel
theorem dX6_become_27 : decode cX6_become 27 = .ok (.iconst 1, 1) := by decide +kernel
theorem dX6_become_28 : decode cX6_become 28 = .ok (.putfield 27, 3) := by decide +kernel
theorem dX6_become_31 : decode cX6_become 31 = .ok (.aload_n 0, 1) := by decide +kernel
theorem dX6_become_32 : decode cX6_become 32 = .ok (.iconst 0, 1) := by decide +kernel
theorem dX6_become_33 : decode cX6_become 33 = .ok (.putfield 31, 3) := by decide +kernel
theorem dX6_become_36 : decode cX6_become 36 = .ok (.aload_n 0, 1) := by decide +kernel
theorem dX6_become_37 : decode cX6_become 37 = .ok (.iconst 0, 1) := by decide +kernel
theorem dX6_become_38 : decode cX6_become 38 = .ok (.putfield 34, 3) := by decide +kernel
theorem dX6_become_41 : decode cX6_become 41 = .ok (.aload_n 0, 1) := by decide +kernel
theorem dX6_become_42 : decode cX6_become 42 = .ok (.iconst 0, 1) := by decide +kernel
theorem dX6_become_43 : decode cX6_become 43 = .ok (.putfield 37, 3) := by decide +kernel
theorem dX6_become_46 : decode cX6_become 46 = .ok (.aload_n 0, 1) := by decide +kernel
theorem dX6_become_47 : decode cX6_become 47 = .ok (.iconst 0, 1) := by decide +kernel
theorem dX6_become_48 : decode cX6_become 48 = .ok (.putfield 40, 3) := by decide +kernel
theorem dX6_become_51 : decode cX6_become 51 = .ok (.return_, 1) := by decide +kernel
theorem dX6_change_0 : decode cX6_change 0 = .ok (.iload_n 1, 1) := by decide +kernel
theorem dX6_change_1 : decode cX6_change 1 = .ok (.tableswitch 63 1 3 #[27, 39, 51], 27) := by decide +kernel
theorem dX6_change_28 : decode cX6_change 28 = .ok (.aload_n 0, 1) := by decide +kernel
theorem dX6_change_29 : decode cX6_change 29 = .ok (.getfield 15, 3) := by decide +kernel
theorem dX6_change_32 : decode cX6_change 32 = .ok (.istore_n 3, 1) := by decide +kernel
theorem dX6_change_33 : decode cX6_change 33 = .ok (.aload_n 0, 1) := by decide +kernel
theorem dX6_change_34 : decode cX6_change 34 = .ok (.iload_n 2, 1) := by decide +kernel
theorem dX6_change_35 : decode cX6_change 35 = .ok (.putfield 15, 3) := by decide +kernel
theorem dX6_change_38 : decode cX6_change 38 = .ok (.iload_n 3, 1) := by decide +kernel
theorem dX6_change_39 : decode cX6_change 39 = .ok (.ireturn, 1) := by decide +kernel
theorem dX6_change_40 : decode cX6_change 40 = .ok (.aload_n 0, 1) := by decide +kernel
theorem dX6_change_41 : decode cX6_change 41 = .ok (.getfield 18, 3) := by decide +kernel
theorem dX6_change_44 : decode cX6_change 44 = .ok (.istore_n 3, 1) := by decide +kernel
theorem dX6_change_45 : decode cX6_change 45 = .ok (.aload_n 0, 1) := by decide +kernel
theorem dX6_change_46 : decode cX6_change 46 = .ok (.iload_n 2, 1) := by decide +kernel
theorem dX6_change_47 : decode cX6_change 47 = .ok (.putfield 18, 3) := by decide +kernel
theorem dX6_change_50 : decode cX6_change 50 = .ok (.iload_n 3, 1) := by decide +kernel
theorem dX6_change_51 : decode cX6_change 51 = .ok (.ireturn, 1) := by decide +kernel
theorem dX6_change_52 : decode cX6_change 52 = .ok (.aload_n 0, 1) := by decide +kernel
theorem dX6_change_53 : decode cX6_change 53 = .ok (.getfield 21, 3) := by decide +kernel
theorem dX6_change_56 : decode cX6_change 56 = .ok (.istore_n 3, 1) := by decide +kernel
theorem dX6_change_57 : decode cX6_change 57 = .ok (.aload_n 0, 1) := by decide +kernel
theorem dX6_change_58 : decode cX6_change 58 = .ok (.iload_n 2, 1) := by decide +kernel
theorem dX6_change_59 : decode cX6_change 59 = .ok (.putfield 21, 3) := by decide +kernel
theorem dX6_change_62 : decode cX6_change 62 = .ok (.iload_n 3, 1) := by decide +kernel
theorem dX6_change_63 : decode cX6_change 63 = .ok (.ireturn, 1) := by decide +kernel
theorem dX6_change_64 : decode cX6_change 64 = .ok (.aload_n 0, 1) := by decide +kernel
theorem dX6_change_65 : decode cX6_change 65 = .ok (.getfield 24, 3) := by decide +kernel
theorem dX6_change_68 : decode cX6_change 68 = .ok (.istore_n 3, 1) := by decide +kernel
theorem dX6_change_69 : decode cX6_change 69 = .ok (.aload_n 0, 1) := by decide +kernel
theorem dX6_change_70 : decode cX6_change 70 = .ok (.iload_n 2, 1) := by decide +kernel
theorem dX6_change_71 : decode cX6_change 71 = .ok (.putfield 24, 3) := by decide +kernel
theorem dX6_change_74 : decode cX6_change 74 = .ok (.iload_n 3, 1) := by decide +kernel
theorem dX6_change_75 : decode cX6_change 75 = .ok (.ireturn, 1) := by decide +kernel
theorem dX6_heal_0 : decode cX6_heal 0 = .ok (.aload_n 0, 1) := by decide +kernel
theorem dX6_heal_1 : decode cX6_heal 1 = .ok (.iconst 0, 1) := by decide +kernel
theorem dX6_heal_2 : decode cX6_heal 2 = .ok (.aload_n 0, 1) := by decide +kernel
theorem dX6_heal_3 : decode cX6_heal 3 = .ok (.getfield 24, 3) := by decide +kernel
theorem dX6_heal_6 : decode cX6_heal 6 = .ok (.iload_n 1, 1) := by decide +kernel
theorem dX6_heal_7 : decode cX6_heal 7 = .ok (.isub, 1) := by decide +kernel
theorem dX6_heal_8 : decode cX6_heal 8 = .ok (.invokestatic 43, 3) := by decide +kernel
theorem dX6_heal_11 : decode cX6_heal 11 = .ok (.putfield 24, 3) := by decide +kernel
theorem dX6_heal_14 : decode cX6_heal 14 = .ok (.return_, 1) := by decide +kernel
theorem dX6_raise_0 : decode cX6_raise 0 = .ok (.aload_n 0, 1) := by decide +kernel
theorem dX6_raise_1 : decode cX6_raise 1 = .ok (.bipush 99, 2) := by decide +kernel
theorem dX6_raise_3 : decode cX6_raise 3 = .ok (.aload_n 0, 1) := by decide +kernel
theorem dX6_raise_4 : decode cX6_raise 4 = .ok (.getfield 18, 3) := by decide +kernel
theorem dX6_raise_7 : decode cX6_raise 7 = .ok (.iload_n 1, 1) := by decide +kernel
theorem dX6_raise_8 : decode cX6_raise 8 = .ok (.iadd, 1) := by decide +kernel
theorem dX6_raise_9 : decode cX6_raise 9 = .ok (.invokestatic 49, 3) := by decide +kernel
theorem dX6_raise_12 : decode cX6_raise 12 = .ok (.putfield 18, 3) := by decide +kernel
theorem dX6_raise_15 : decode cX6_raise 15 = .ok (.aload_n 0, 1) := by decide +kernel
theorem dX6_raise_16 : decode cX6_raise 16 = .ok (.bipush 99, 2) := by decide +kernel
theorem dX6_raise_18 : decode cX6_raise 18 = .ok (.aload_n 0, 1) := by decide +kernel
theorem dX6_raise_19 : decode cX6_raise 19 = .ok (.getfield 21, 3) := by decide +kernel
theorem dX6_raise_22 : decode cX6_raise 22 = .ok (.iload_n 1, 1) := by decide +kernel
theorem dX6_raise_23 : decode cX6_raise 23 = .ok (.iadd, 1) := by decide +kernel
theorem dX6_raise_24 : decode cX6_raise 24 = .ok (.invokestatic 49, 3) := by decide +kernel
theorem dX6_raise_27 : decode cX6_raise 27 = .ok (.putfield 21, 3) := by decide +kernel
theorem dX6_raise_30 : decode cX6_raise 30 = .ok (.return_, 1) := by decide +kernel
theorem dX6_copyFrom_0 : decode cX6_copyFrom 0 = .ok (.aload_n 0, 1) := by decide +kernel
theorem dX6_copyFrom_1 : decode cX6_copyFrom 1 = .ok (.aload_n 1, 1) := by decide +kernel
theorem dX6_copyFrom_2 : decode cX6_copyFrom 2 = .ok (.getfield 9, 3) := by decide +kernel
theorem dX6_copyFrom_5 : decode cX6_copyFrom 5 = .ok (.putfield 9, 3) := by decide +kernel
theorem dX6_copyFrom_8 : decode cX6_copyFrom 8 = .ok (.aload_n 0, 1) := by decide +kernel
theorem dX6_copyFrom_9 : decode cX6_copyFrom 9 = .ok (.aload_n 1, 1) := by decide +kernel
theorem dX6_copyFrom_10 : decode cX6_copyFrom 10 = .ok (.getfield 15, 3) := by decide +kernel
theorem dX6_copyFrom_13 : decode cX6_copyFrom 13 = .ok (.putfield 15, 3) := by decide +kernel
theorem dX6_copyFrom_16 : decode cX6_copyFrom 16 = .ok (.aload_n 0, 1) := by decide +kernel
theorem dX6_copyFrom_17 : decode cX6_copyFrom 17 = .ok (.aload_n 1, 1) := by decide +kernel
theorem dX6_copyFrom_18 : decode cX6_copyFrom 18 = .ok (.getfield 18, 3) := by decide +kernel
theorem dX6_copyFrom_21 : decode cX6_copyFrom 21 = .ok (.putfield 18, 3) := by decide +kernel
theorem dX6_copyFrom_24 : decode cX6_copyFrom 24 = .ok (.aload_n 0, 1) := by decide +kernel
theorem dX6_copyFrom_25 : decode cX6_copyFrom 25 = .ok (.aload_n 1, 1) := by decide +kernel
theorem dX6_copyFrom_26 : decode cX6_copyFrom 26 = .ok (.getfield 21, 3) := by decide +kernel
theorem dX6_copyFrom_29 : decode cX6_copyFrom 29 = .ok (.putfield 21, 3) := by decide +kernel
theorem dX6_copyFrom_32 : decode cX6_copyFrom 32 = .ok (.aload_n 0, 1) := by decide +kernel
theorem dX6_copyFrom_33 : decode cX6_copyFrom 33 = .ok (.aload_n 1, 1) := by decide +kernel
theorem dX6_copyFrom_34 : decode cX6_copyFrom 34 = .ok (.getfield 24, 3) := by decide +kernel
theorem dX6_copyFrom_37 : decode cX6_copyFrom 37 = .ok (.putfield 24, 3) := by decide +kernel
theorem dX6_copyFrom_40 : decode cX6_copyFrom 40 = .ok (.aload_n 0, 1) := by decide +kernel
theorem dX6_copyFrom_41 : decode cX6_copyFrom 41 = .ok (.aload_n 1, 1) := by decide +kernel
theorem dX6_copyFrom_42 : decode cX6_copyFrom 42 = .ok (.getfield 27, 3) := by decide +kernel
theorem dX6_copyFrom_45 : decode cX6_copyFrom 45 = .ok (.putfield 27, 3) := by decide +kernel
theorem dX6_copyFrom_48 : decode cX6_copyFrom 48 = .ok (.aload_n 0, 1) := by decide +kernel
theorem dX6_copyFrom_49 : decode cX6_copyFrom 49 = .ok (.aload_n 1, 1) := by decide +kernel
theorem dX6_copyFrom_50 : decode cX6_copyFrom 50 = .ok (.getfield 31, 3) := by decide +kernel
theorem dX6_copyFrom_53 : decode cX6_copyFrom 53 = .ok (.putfield 31, 3) := by decide +kernel
theorem dX6_copyFrom_56 : decode cX6_copyFrom 56 = .ok (.aload_n 0, 1) := by decide +kernel
theorem dX6_copyFrom_57 : decode cX6_copyFrom 57 = .ok (.aload_n 1, 1) := by decide +kernel
theorem dX6_copyFrom_58 : decode cX6_copyFrom 58 = .ok (.getfield 34, 3) := by decide +kernel
theorem dX6_copyFrom_61 : decode cX6_copyFrom 61 = .ok (.putfield 34, 3) := by decide +kernel
theorem dX6_copyFrom_64 : decode cX6_copyFrom 64 = .ok (.aload_n 0, 1) := by decide +kernel
theorem dX6_copyFrom_65 : decode cX6_copyFrom 65 = .ok (.aload_n 1, 1) := by decide +kernel
theorem dX6_copyFrom_66 : decode cX6_copyFrom 66 = .ok (.getfield 37, 3) := by decide +kernel
theorem dX6_copyFrom_69 : decode cX6_copyFrom 69 = .ok (.putfield 37, 3) := by decide +kernel
theorem dX6_copyFrom_72 : decode cX6_copyFrom 72 = .ok (.aload_n 0, 1) := by decide +kernel
theorem dX6_copyFrom_73 : decode cX6_copyFrom 73 = .ok (.aload_n 1, 1) := by decide +kernel
theorem dX6_copyFrom_74 : decode cX6_copyFrom 74 = .ok (.getfield 40, 3) := by decide +kernel
theorem dX6_copyFrom_77 : decode cX6_copyFrom 77 = .ok (.putfield 40, 3) := by decide +kernel
theorem dX6_copyFrom_80 : decode cX6_copyFrom 80 = .ok (.return_, 1) := by decide +kernel
end
section
theorem dX7_init_0 : decode cX7_init 0 = .ok (.aload_n 0, 1) := by decide +kernel
theorem dX7_init_1 : decode cX7_init 1 = .ok (.invokespecial 3, 3) := by decide +kernel
theorem dX7_init_4 : decode cX7_init 4 = .ok (.return_, 1) := by decide +kernel
theorem dX7_become_0 : decode cX7_become 0 = .ok (.aload_n 0, 1) := by decide +kernel
theorem dX7_become_1 : decode cX7_become 1 = .ok (.iload_n 1, 1) := by decide +kernel
theorem dX7_become_2 : decode cX7_become 2 = .ok (.putfield 9, 3) := by decide +kernel
theorem dX7_become_5 : decode cX7_become 5 = .ok (.aload_n 0, 1) := by decide +kernel
theorem dX7_become_6 : decode cX7_become 6 = .ok (.iload_n 2, 1) := by decide +kernel
theorem dX7_become_7 : decode cX7_become 7 = .ok (.putfield 15, 3) := by decide +kernel
theorem dX7_become_10 : decode cX7_become 10 = .ok (.aload_n 0, 1) := by decide +kernel
theorem dX7_become_11 : decode cX7_become 11 = .ok (.iload_n 3, 1) := by decide +kernel
theorem dX7_become_12 : decode cX7_become 12 = .ok (.putfield 18, 3) := by decide +kernel
theorem dX7_become_15 : decode cX7_become 15 = .ok (.aload_n 0, 1) := by decide +kernel
theorem dX7_become_16 : decode cX7_become 16 = .ok (.iload 4, 2) := by decide +kernel
theorem dX7_become_18 : decode cX7_become 18 = .ok (.putfield 21, 3) := by decide +kernel
theorem dX7_become_21 : decode cX7_become 21 = .ok (.aload_n 0, 1) := by decide +kernel
theorem dX7_become_22 : decode cX7_become 22 = .ok (.iload 5, 2) := by decide +kernel
theorem dX7_become_24 : decode cX7_become 24 = .ok (.putfield 24, 3) := by decide +kernel
theorem dX7_become_27 : decode cX7_become 27 = .ok (.aload_n 0, 1) := by decide +kernel
theorem dX7_become_28 : decode cX7_become 28 = .ok (.iconst 0, 1) := by decide +kernel
theorem dX7_become_29 : decode cX7_become 29 = .ok (.putfield 27, 3) := by decide +kernel
theorem dX7_become_32 : decode cX7_become 32 = .ok (.aload_n 0, 1) := by decide +kernel
theorem dX7_become_33 : decode cX7_become 33 = .ok (.iconst 0, 1) := by decide +kernel
theorem dX7_become_34 : decode cX7_become 34 = .ok (.putfield 30, 3) := by decide +kernel
theorem dX7_become_37 : decode cX7_become 37 = .ok (.return_, 1) := by decide +kernel
theorem dX7_copyFrom_0 : decode cX7_copyFrom 0 = .ok (.aload_n 0, 1) := by decide +kernel
theorem dX7_copyFrom_1 : decode cX7_copyFrom 1 = .ok (.aload_n 1, 1) := by decide +kernel
theorem dX7_copyFrom_2 : decode cX7_copyFrom 2 = .ok (.getfield 9, 3) := by decide +kernel
theorem dX7_copyFrom_5 : decode cX7_copyFrom 5 = .ok (.aload_n 1, 1) := by decide +kernel
theorem dX7_copyFrom_6 : decode cX7_copyFrom 6 = .ok (.getfield 15, 3) := by decide +kernel
theorem dX7_copyFrom_9 : decode cX7_copyFrom 9 = .ok (.aload_n 1, 1) := by decide +kernel
theorem dX7_copyFrom_10 : decode cX7_copyFrom 10 = .ok (.getfield 18, 3) := by decide +kernel
theorem dX7_copyFrom_13 : decode cX7_copyFrom 13 = .ok (.aload_n 1, 1) := by decide +kernel
theorem dX7_copyFrom_14 : decode cX7_copyFrom 14 = .ok (.getfield 21, 3) := by decide +kernel
theorem dX7_copyFrom_17 : decode cX7_copyFrom 17 = .ok (.aload_n 1, 1) := by decide +kernel
theorem dX7_copyFrom_18 : decode cX7_copyFrom 18 = .ok (.getfield 24, 3) := by decide +kernel
theorem dX7_copyFrom_21 : decode cX7_copyFrom 21 = .ok (.invokevirtual 33, 3) := by decide +kernel
theorem dX7_copyFrom_24 : decode cX7_copyFrom 24 = .ok (.aload_n 0, 1) := by decide +kernel
theorem dX7_copyFrom_25 : decode cX7_copyFrom 25 = .ok (.aload_n 1, 1) := by decide +kernel
theorem dX7_copyFrom_26 : decode cX7_copyFrom 26 = .ok (.getfield 27, 3) := by decide +kernel
theorem dX7_copyFrom_29 : decode cX7_copyFrom 29 = .ok (.putfield 27, 3) := by decide +kernel
theorem dX7_copyFrom_32 : decode cX7_copyFrom 32 = .ok (.aload_n 0, 1) := by decide +kernel
theorem dX7_copyFrom_33 : decode cX7_copyFrom 33 = .ok (.aload_n 1, 1) := by decide +kernel
theorem dX7_copyFrom_34 : decode cX7_copyFrom 34 = .ok (.getfield 30, 3) := by decide +kernel
theorem dX7_copyFrom_37 : decode cX7_copyFrom 37 = .ok (.putfield 30, 3) := by decide +kernel
theorem dX7_copyFrom_40 : decode cX7_copyFrom 40 = .ok (.return_, 1) := by decide +kernel
end
section
theorem dX8_init_0 : decode cX8_init 0 = .ok (.aload_n 0, 1) := by decide +kernel
theorem dX8_init_1 : decode cX8_init 1 = .ok (.invokespecial 3, 3) := by decide +kernel
theorem dX8_init_4 : decode cX8_init 4 = .ok (.aload_n 0, 1) := by decide +kernel
theorem dX8_init_5 : decode cX8_init 5 = .ok (.bipush 8, 2) := by decide +kernel
theorem dX8_init_7 : decode cX8_init 7 = .ok (.anewarray 9, 3) := by decide +kernel
theorem dX8_init_10 : decode cX8_init 10 = .ok (.putfield 11, 3) := by decide +kernel
theorem dX8_init_13 : decode cX8_init 13 = .ok (.aload_n 0, 1) := by decide +kernel
theorem dX8_init_14 : decode cX8_init 14 = .ok (.bipush 10, 2) := by decide +kernel
theorem dX8_init_16 : decode cX8_init 16 = .ok (.anewarray 17, 3) := by decide +kernel
theorem dX8_init_19 : decode cX8_init 19 = .ok (.putfield 19, 3) := by decide +kernel
theorem dX8_init_22 : decode cX8_init 22 = .ok (.aload_n 0, 1) := by decide +kernel
theorem dX8_init_23 : decode cX8_init 23 = .ok (.bipush 8, 2) := by decide +kernel
theorem dX8_init_25 : decode cX8_init 25 = .ok (.anewarray 23, 3) := by decide +kernel
theorem dX8_init_28 : decode cX8_init 28 = .ok (.putfield 25, 3) := by decide +kernel
theorem dX8_init_31 : decode cX8_init 31 = .ok (.aload_n 0, 1) := by decide +kernel
theorem dX8_init_32 : decode cX8_init 32 = .ok (.bipush 8, 2) := by decide +kernel
theorem dX8_init_34 : decode cX8_init 34 = .ok (.anewarray 29, 3) := by decide +kernel
theorem dX8_init_37 : decode cX8_init 37 = .ok (.putfield 31, 3) := by decide +kernel
theorem dX8_init_40 : decode cX8_init 40 = .ok (.aload_n 0, 1) := by decide +kernel
theorem dX8_init_41 : decode cX8_init 41 = .ok (.iconst 2, 1) := by decide +kernel
theorem dX8_init_42 : decode cX8_init 42 = .ok (.newarray .int, 2) := by decide +kernel
theorem dX8_init_44 : decode cX8_init 44 = .ok (.putfield 35, 3) := by decide +kernel
theorem dX8_init_47 : decode cX8_init 47 = .ok (.aload_n 0, 1) := by decide +kernel
theorem dX8_init_48 : decode cX8_init 48 = .ok (.iconst 1, 1) := by decide +kernel
theorem dX8_init_49 : decode cX8_init 49 = .ok (.putfield 39, 3) := by decide +kernel
theorem dX8_init_52 : decode cX8_init 52 = .ok (.iconst 0, 1) := by decide +kernel
theorem dX8_init_53 : decode cX8_init 53 = .ok (.istore_n 1, 1) := by decide +kernel
theorem dX8_init_54 : decode cX8_init 54 = .ok (.iload_n 1, 1) := by decide +kernel
theorem dX8_init_55 : decode cX8_init 55 = .ok (.bipush 8, 2) := by decide +kernel
theorem dX8_init_57 : decode cX8_init 57 = .ok (.if_icmp .ge 22, 3) := by decide +kernel
theorem dX8_init_60 : decode cX8_init 60 = .ok (.aload_n 0, 1) := by decide +kernel
theorem dX8_init_61 : decode cX8_init 61 = .ok (.getfield 11, 3) := by decide +kernel
theorem dX8_init_64 : decode cX8_init 64 = .ok (.iload_n 1, 1) := by decide +kernel
theorem dX8_init_65 : decode cX8_init 65 = .ok (.new 9, 3) := by decide +kernel
theorem dX8_init_68 : decode cX8_init 68 = .ok (.dup, 1) := by decide +kernel
theorem dX8_init_69 : decode cX8_init 69 = .ok (.invokespecial 43, 3) := by decide +kernel
theorem dX8_init_72 : decode cX8_init 72 = .ok (.aastore, 1) := by decide +kernel
theorem dX8_init_73 : decode cX8_init 73 = .ok (.iinc 1 1, 3) := by decide +kernel
theorem dX8_init_76 : decode cX8_init 76 = .ok (.goto (-22), 3) := by decide +kernel
theorem dX8_init_79 : decode cX8_init 79 = .ok (.iconst 0, 1) := by decide +kernel
theorem dX8_init_80 : decode cX8_init 80 = .ok (.istore_n 1, 1) := by decide +kernel
theorem dX8_init_81 : decode cX8_init 81 = .ok (.iload_n 1, 1) := by decide +kernel
theorem dX8_init_82 : decode cX8_init 82 = .ok (.bipush 10, 2) := by decide +kernel
theorem dX8_init_84 : decode cX8_init 84 = .ok (.if_icmp .ge 22, 3) := by decide +kernel
theorem dX8_init_87 : decode cX8_init 87 = .ok (.aload_n 0, 1) := by decide +kernel
theorem dX8_init_88 : decode cX8_init 88 = .ok (.getfield 19, 3) := by decide +kernel
theorem dX8_init_91 : decode cX8_init 91 = .ok (.iload_n 1, 1) := by decide +kernel
theorem dX8_init_92 : decode cX8_init 92 = .ok (.new 17, 3) := by decide +kernel
theorem dX8_init_95 : decode cX8_init 95 = .ok (.dup, 1) := by decide +kernel
theorem dX8_init_96 : decode cX8_init 96 = .ok (.invokespecial 44, 3) := by decide +kernel
theorem dX8_init_99 : decode cX8_init 99 = .ok (.aastore, 1) := by decide +kernel
theorem dX8_init_100 : decode cX8_init 100 = .ok (.iinc 1 1, 3) := by decide +kernel
theorem dX8_init_103 : decode cX8_init 103 = .ok (.goto (-22), 3) := by decide +kernel
theorem dX8_init_106 : decode cX8_init 106 = .ok (.iconst 0, 1) := by decide +kernel
theorem dX8_init_107 : decode cX8_init 107 = .ok (.istore_n 1, 1) := by decide +kernel
theorem dX8_init_108 : decode cX8_init 108 = .ok (.iload_n 1, 1) := by decide +kernel
theorem dX8_init_109 : decode cX8_init 109 = .ok (.bipush 8, 2) := by decide +kernel
theorem dX8_init_111 : decode cX8_init 111 = .ok (.if_icmp .ge 22, 3) := by decide +kernel
theorem dX8_init_114 : decode cX8_init 114 = .ok (.aload_n 0, 1) := by decide +kernel
theorem dX8_init_115 : decode cX8_init 115 = .ok (.getfield 25, 3) := by decide +kernel
theorem dX8_init_118 : decode cX8_init 118 = .ok (.iload_n 1, 1) := by decide +kernel
theorem dX8_init_119 : decode cX8_init 119 = .ok (.new 23, 3) := by decide +kernel
theorem dX8_init_122 : decode cX8_init 122 = .ok (.dup, 1) := by decide +kernel
theorem dX8_init_123 : decode cX8_init 123 = .ok (.invokespecial 45, 3) := by decide +kernel
theorem dX8_init_126 : decode cX8_init 126 = .ok (.aastore, 1) := by decide +kernel
theorem dX8_init_127 : decode cX8_init 127 = .ok (.iinc 1 1, 3) := by decide +kernel
theorem dX8_init_130 : decode cX8_init 130 = .ok (.goto (-22), 3) := by decide +kernel
theorem dX8_init_133 : decode cX8_init 133 = .ok (.iconst 0, 1) := by decide +kernel
theorem dX8_init_134 : decode cX8_init 134 = .ok (.istore_n 1, 1) := by decide +kernel
theorem dX8_init_135 : decode cX8_init 135 = .ok (.iload_n 1, 1) := by decide +kernel
theorem dX8_init_136 : decode cX8_init 136 = .ok (.bipush 8, 2) := by decide +kernel
theorem dX8_init_138 : decode cX8_init 138 = .ok (.if_icmp .ge 22, 3) := by decide +kernel
theorem dX8_init_141 : decode cX8_init 141 = .ok (.aload_n 0, 1) := by decide +kernel
theorem dX8_init_142 : decode cX8_init 142 = .ok (.getfield 31, 3) := by decide +kernel
theorem dX8_init_145 : decode cX8_init 145 = .ok (.iload_n 1, 1) := by decide +kernel
theorem dX8_init_146 : decode cX8_init 146 = .ok (.new 29, 3) := by decide +kernel
theorem dX8_init_149 : decode cX8_init 149 = .ok (.dup, 1) := by decide +kernel
theorem dX8_init_150 : decode cX8_init 150 = .ok (.invokespecial 46, 3) := by decide +kernel
theorem dX8_init_153 : decode cX8_init 153 = .ok (.aastore, 1) := by decide +kernel
theorem dX8_init_154 : decode cX8_init 154 = .ok (.iinc 1 1, 3) := by decide +kernel
theorem dX8_init_157 : decode cX8_init 157 = .ok (.goto (-22), 3) := by decide +kernel
theorem dX8_init_160 : decode cX8_init 160 = .ok (.return_, 1) := by decide +kernel
theorem dX8_empty_0 : decode cX8_empty 0 = .ok (.aload_n 0, 1) := by decide +kernel
theorem dX8_empty_1 : decode cX8_empty 1 = .ok (.iconst 0, 1) := by decide +kernel
theorem dX8_empty_2 : decode cX8_empty 2 = .ok (.putfield 47, 3) := by decide +kernel
theorem dX8_empty_5 : decode cX8_empty 5 = .ok (.aload_n 0, 1) := by decide +kernel
theorem dX8_empty_6 : decode cX8_empty 6 = .ok (.iconst 0, 1) := by decide +kernel
theorem dX8_empty_7 : decode cX8_empty 7 = .ok (.putfield 50, 3) := by decide +kernel
theorem dX8_empty_10 : decode cX8_empty 10 = .ok (.aload_n 0, 1) := by decide +kernel
theorem dX8_empty_11 : decode cX8_empty 11 = .ok (.iconst 0, 1) := by decide +kernel
theorem dX8_empty_12 : decode cX8_empty 12 = .ok (.putfield 53, 3) := by decide +kernel
theorem dX8_empty_15 : decode cX8_empty 15 = .ok (.aload_n 0, 1) := by decide +kernel
theorem dX8_empty_16 : decode cX8_empty 16 = .ok (.iconst 0, 1) := by decide +kernel
theorem dX8_empty_17 : decode cX8_empty 17 = .ok (.putfield 56, 3) := by decide +kernel
theorem dX8_empty_20 : decode cX8_empty 20 = .ok (.aload_n 0, 1) := by decide +kernel
theorem dX8_empty_21 : decode cX8_empty 21 = .ok (.getfield 35, 3) := by decide +kernel
theorem dX8_empty_24 : decode cX8_empty 24 = .ok (.iconst 0, 1) := by decide +kernel
theorem dX8_empty_25 : decode cX8_empty 25 = .ok (.iconst 0, 1) := by decide +kernel
theorem dX8_empty_26 : decode cX8_empty 26 = .ok (.iastore, 1) := by decide +kernel
theorem dX8_empty_27 : decode cX8_empty 27 = .ok (.aload_n 0, 1) := by decide +kernel
theorem dX8_empty_28 : decode cX8_empty 28 = .ok (.getfield 35, 3) := by decide +kernel
theorem dX8_empty_31 : decode cX8_empty 31 = .ok (.iconst 1, 1) := by decide +kernel
theorem dX8_empty_32 : decode cX8_empty 32 = .ok (.iconst 0, 1) := by decide +kernel
theorem dX8_empty_33 : decode cX8_empty 33 = .ok (.iastore, 1) := by decide +kernel
theorem dX8_empty_34 : decode cX8_empty 34 = .ok (.aload_n 0, 1) := by decide +kernel
theorem dX8_empty_35 : decode cX8_empty 35 = .ok (.iconst 0, 1) := by decide +kernel
theorem dX8_empty_36 : decode cX8_empty 36 = .ok (.putfield 59, 3) := by decide +kernel
theorem dX8_empty_39 : decode cX8_empty 39 = .ok (.return_, 1) := by decide +kernel
theorem dX8_copyFrom_0 : decode cX8_copyFrom 0 = .ok (.aload_n 0, 1) := by decide +kernel
theorem dX8_copyFrom_1 : decode cX8_copyFrom 1 = .ok (.aload_n 1, 1) := by decide +kernel
theorem dX8_copyFrom_2 : decode cX8_copyFrom 2 = .ok (.getfield 47, 3) := by decide +kernel
theorem dX8_copyFrom_5 : decode cX8_copyFrom 5 = .ok (.putfield 47, 3) := by decide +kernel
theorem dX8_copyFrom_8 : decode cX8_copyFrom 8 = .ok (.aload_n 0, 1) := by decide +kernel
theorem dX8_copyFrom_9 : decode cX8_copyFrom 9 = .ok (.aload_n 1, 1) := by decide +kernel
theorem dX8_copyFrom_10 : decode cX8_copyFrom 10 = .ok (.getfield 50, 3) := by decide +kernel
theorem dX8_copyFrom_13 : decode cX8_copyFrom 13 = .ok (.putfield 50, 3) := by decide +kernel
theorem dX8_copyFrom_16 : decode cX8_copyFrom 16 = .ok (.aload_n 0, 1) := by decide +kernel
theorem dX8_copyFrom_17 : decode cX8_copyFrom 17 = .ok (.aload_n 1, 1) := by decide +kernel
theorem dX8_copyFrom_18 : decode cX8_copyFrom 18 = .ok (.getfield 53, 3) := by decide +kernel
theorem dX8_copyFrom_21 : decode cX8_copyFrom 21 = .ok (.putfield 53, 3) := by decide +kernel
theorem dX8_copyFrom_24 : decode cX8_copyFrom 24 = .ok (.aload_n 0, 1) := by decide +kernel
theorem dX8_copyFrom_25 : decode cX8_copyFrom 25 = .ok (.aload_n 1, 1) := by decide +kernel
theorem dX8_copyFrom_26 : decode cX8_copyFrom 26 = .ok (.getfield 56, 3) := by decide +kernel
theorem dX8_copyFrom_29 : decode cX8_copyFrom 29 = .ok (.putfield 56, 3) := by decide +kernel
theorem dX8_copyFrom_32 : decode cX8_copyFrom 32 = .ok (.iconst 0, 1) := by decide +kernel
theorem dX8_copyFrom_33 : decode cX8_copyFrom 33 = .ok (.istore_n 2, 1) := by decide +kernel
theorem dX8_copyFrom_34 : decode cX8_copyFrom 34 = .ok (.iload_n 2, 1) := by decide +kernel
theorem dX8_copyFrom_35 : decode cX8_copyFrom 35 = .ok (.aload_n 0, 1) := by decide +kernel
theorem dX8_copyFrom_36 : decode cX8_copyFrom 36 = .ok (.getfield 47, 3) := by decide +kernel
theorem dX8_copyFrom_39 : decode cX8_copyFrom 39 = .ok (.if_icmp .ge 30, 3) := by decide +kernel
theorem dX8_copyFrom_42 : decode cX8_copyFrom 42 = .ok (.iload_n 2, 1) := by decide +kernel
theorem dX8_copyFrom_43 : decode cX8_copyFrom 43 = .ok (.bipush 8, 2) := by decide +kernel
theorem dX8_copyFrom_45 : decode cX8_copyFrom 45 = .ok (.if_icmp .ge 24, 3) := by decide +kernel
theorem dX8_copyFrom_48 : decode cX8_copyFrom 48 = .ok (.aload_n 0, 1) := by decide +kernel
theorem dX8_copyFrom_49 : decode cX8_copyFrom 49 = .ok (.getfield 11, 3) := by decide +kernel
theorem dX8_copyFrom_52 : decode cX8_copyFrom 52 = .ok (.iload_n 2, 1) := by decide +kernel
theorem dX8_copyFrom_53 : decode cX8_copyFrom 53 = .ok (.aaload, 1) := by decide +kernel
theorem dX8_copyFrom_54 : decode cX8_copyFrom 54 = .ok (.aload_n 1, 1) := by decide +kernel
theorem dX8_copyFrom_55 : decode cX8_copyFrom 55 = .ok (.getfield 11, 3) := by decide +kernel
theorem dX8_copyFrom_58 : decode cX8_copyFrom 58 = .ok (.iload_n 2, 1) := by decide +kernel
theorem dX8_copyFrom_59 : decode cX8_copyFrom 59 = .ok (.aaload, 1) := by decide +kernel
theorem dX8_copyFrom_60 : decode cX8_copyFrom 60 = .ok (.invokevirtual 62, 3) := by decide +kernel
theorem dX8_copyFrom_63 : decode cX8_copyFrom 63 = .ok (.iinc 2 1, 3) := by decide +kernel
theorem dX8_copyFrom_66 : decode cX8_copyFrom 66 = .ok (.goto (-32), 3) := by decide +kernel
theorem dX8_copyFrom_69 : decode cX8_copyFrom 69 = .ok (.iconst 0, 1) := by decide +kernel
theorem dX8_copyFrom_70 : decode cX8_copyFrom 70 = .ok (.istore_n 2, 1) := by decide +kernel
theorem dX8_copyFrom_71 : decode cX8_copyFrom 71 = .ok (.iload_n 2, 1) := by decide +kernel
theorem dX8_copyFrom_72 : decode cX8_copyFrom 72 = .ok (.aload_n 0, 1) := by decide +kernel
theorem dX8_copyFrom_73 : decode cX8_copyFrom 73 = .ok (.getfield 50, 3) := by decide +kernel
theorem dX8_copyFrom_76 : decode cX8_copyFrom 76 = .ok (.if_icmp .ge 30, 3) := by decide +kernel
theorem dX8_copyFrom_79 : decode cX8_copyFrom 79 = .ok (.iload_n 2, 1) := by decide +kernel
theorem dX8_copyFrom_80 : decode cX8_copyFrom 80 = .ok (.bipush 10, 2) := by decide +kernel
theorem dX8_copyFrom_82 : decode cX8_copyFrom 82 = .ok (.if_icmp .ge 24, 3) := by decide +kernel
theorem dX8_copyFrom_85 : decode cX8_copyFrom 85 = .ok (.aload_n 0, 1) := by decide +kernel
theorem dX8_copyFrom_86 : decode cX8_copyFrom 86 = .ok (.getfield 19, 3) := by decide +kernel
theorem dX8_copyFrom_89 : decode cX8_copyFrom 89 = .ok (.iload_n 2, 1) := by decide +kernel
theorem dX8_copyFrom_90 : decode cX8_copyFrom 90 = .ok (.aaload, 1) := by decide +kernel
theorem dX8_copyFrom_91 : decode cX8_copyFrom 91 = .ok (.aload_n 1, 1) := by decide +kernel
theorem dX8_copyFrom_92 : decode cX8_copyFrom 92 = .ok (.getfield 19, 3) := by decide +kernel
theorem dX8_copyFrom_95 : decode cX8_copyFrom 95 = .ok (.iload_n 2, 1) := by decide +kernel
theorem dX8_copyFrom_96 : decode cX8_copyFrom 96 = .ok (.aaload, 1) := by decide +kernel
theorem dX8_copyFrom_97 : decode cX8_copyFrom 97 = .ok (.invokevirtual 66, 3) := by decide +kernel
theorem dX8_copyFrom_100 : decode cX8_copyFrom 100 = .ok (.iinc 2 1, 3) := by decide +kernel
theorem dX8_copyFrom_103 : decode cX8_copyFrom 103 = .ok (.goto (-32), 3) := by decide +kernel
theorem dX8_copyFrom_106 : decode cX8_copyFrom 106 = .ok (.iconst 0, 1) := by decide +kernel
theorem dX8_copyFrom_107 : decode cX8_copyFrom 107 = .ok (.istore_n 2, 1) := by decide +kernel
theorem dX8_copyFrom_108 : decode cX8_copyFrom 108 = .ok (.iload_n 2, 1) := by decide +kernel
theorem dX8_copyFrom_109 : decode cX8_copyFrom 109 = .ok (.aload_n 0, 1) := by decide +kernel
theorem dX8_copyFrom_110 : decode cX8_copyFrom 110 = .ok (.getfield 53, 3) := by decide +kernel
theorem dX8_copyFrom_113 : decode cX8_copyFrom 113 = .ok (.if_icmp .ge 30, 3) := by decide +kernel
theorem dX8_copyFrom_116 : decode cX8_copyFrom 116 = .ok (.iload_n 2, 1) := by decide +kernel
theorem dX8_copyFrom_117 : decode cX8_copyFrom 117 = .ok (.bipush 8, 2) := by decide +kernel
theorem dX8_copyFrom_119 : decode cX8_copyFrom 119 = .ok (.if_icmp .ge 24, 3) := by decide +kernel
theorem dX8_copyFrom_122 : decode cX8_copyFrom 122 = .ok (.aload_n 0, 1) := by decide +kernel
theorem dX8_copyFrom_123 : decode cX8_copyFrom 123 = .ok (.getfield 25, 3) := by decide +kernel
theorem dX8_copyFrom_126 : decode cX8_copyFrom 126 = .ok (.iload_n 2, 1) := by decide +kernel
theorem dX8_copyFrom_127 : decode cX8_copyFrom 127 = .ok (.aaload, 1) := by decide +kernel
theorem dX8_copyFrom_128 : decode cX8_copyFrom 128 = .ok (.aload_n 1, 1) := by decide +kernel
theorem dX8_copyFrom_129 : decode cX8_copyFrom 129 = .ok (.getfield 25, 3) := by decide +kernel
theorem dX8_copyFrom_132 : decode cX8_copyFrom 132 = .ok (.iload_n 2, 1) := by decide +kernel
theorem dX8_copyFrom_133 : decode cX8_copyFrom 133 = .ok (.aaload, 1) := by decide +kernel
theorem dX8_copyFrom_134 : decode cX8_copyFrom 134 = .ok (.invokevirtual 69, 3) := by decide +kernel
theorem dX8_copyFrom_137 : decode cX8_copyFrom 137 = .ok (.iinc 2 1, 3) := by decide +kernel
theorem dX8_copyFrom_140 : decode cX8_copyFrom 140 = .ok (.goto (-32), 3) := by decide +kernel
theorem dX8_copyFrom_143 : decode cX8_copyFrom 143 = .ok (.iconst 0, 1) := by decide +kernel
theorem dX8_copyFrom_144 : decode cX8_copyFrom 144 = .ok (.istore_n 2, 1) := by decide +kernel
theorem dX8_copyFrom_145 : decode cX8_copyFrom 145 = .ok (.iload_n 2, 1) := by decide +kernel
theorem dX8_copyFrom_146 : decode cX8_copyFrom 146 = .ok (.aload_n 0, 1) := by decide +kernel
theorem dX8_copyFrom_147 : decode cX8_copyFrom 147 = .ok (.getfield 56, 3) := by decide +kernel
theorem dX8_copyFrom_150 : decode cX8_copyFrom 150 = .ok (.if_icmp .ge 30, 3) := by decide +kernel
theorem dX8_copyFrom_153 : decode cX8_copyFrom 153 = .ok (.iload_n 2, 1) := by decide +kernel
theorem dX8_copyFrom_154 : decode cX8_copyFrom 154 = .ok (.bipush 8, 2) := by decide +kernel
theorem dX8_copyFrom_156 : decode cX8_copyFrom 156 = .ok (.if_icmp .ge 24, 3) := by decide +kernel
theorem dX8_copyFrom_159 : decode cX8_copyFrom 159 = .ok (.aload_n 0, 1) := by decide +kernel
theorem dX8_copyFrom_160 : decode cX8_copyFrom 160 = .ok (.getfield 31, 3) := by decide +kernel
theorem dX8_copyFrom_163 : decode cX8_copyFrom 163 = .ok (.iload_n 2, 1) := by decide +kernel
theorem dX8_copyFrom_164 : decode cX8_copyFrom 164 = .ok (.aaload, 1) := by decide +kernel
theorem dX8_copyFrom_165 : decode cX8_copyFrom 165 = .ok (.aload_n 1, 1) := by decide +kernel
theorem dX8_copyFrom_166 : decode cX8_copyFrom 166 = .ok (.getfield 31, 3) := by decide +kernel
theorem dX8_copyFrom_169 : decode cX8_copyFrom 169 = .ok (.iload_n 2, 1) := by decide +kernel
theorem dX8_copyFrom_170 : decode cX8_copyFrom 170 = .ok (.aaload, 1) := by decide +kernel
theorem dX8_copyFrom_171 : decode cX8_copyFrom 171 = .ok (.invokevirtual 72, 3) := by decide +kernel
theorem dX8_copyFrom_174 : decode cX8_copyFrom 174 = .ok (.iinc 2 1, 3) := by decide +kernel
theorem dX8_copyFrom_177 : decode cX8_copyFrom 177 = .ok (.goto (-32), 3) := by decide +kernel
theorem dX8_copyFrom_180 : decode cX8_copyFrom 180 = .ok (.aload_n 0, 1) := by decide +kernel
theorem dX8_copyFrom_181 : decode cX8_copyFrom 181 = .ok (.getfield 35, 3) := by decide +kernel
theorem dX8_copyFrom_184 : decode cX8_copyFrom 184 = .ok (.iconst 0, 1) := by decide +kernel
theorem dX8_copyFrom_185 : decode cX8_copyFrom 185 = .ok (.aload_n 1, 1) := by decide +kernel
theorem dX8_copyFrom_186 : decode cX8_copyFrom 186 = .ok (.getfield 35, 3) := by decide +kernel
theorem dX8_copyFrom_189 : decode cX8_copyFrom 189 = .ok (.iconst 0, 1) := by decide +kernel
theorem dX8_copyFrom_190 : decode cX8_copyFrom 190 = .ok (.iaload, 1) := by decide +kernel
theorem dX8_copyFrom_191 : decode cX8_copyFrom 191 = .ok (.iastore, 1) := by decide +kernel
theorem dX8_copyFrom_192 : decode cX8_copyFrom 192 = .ok (.aload_n 0, 1) := by decide +kernel
theorem dX8_copyFrom_193 : decode cX8_copyFrom 193 = .ok (.getfield 35, 3) := by decide +kernel
theorem dX8_copyFrom_196 : decode cX8_copyFrom 196 = .ok (.iconst 1, 1) := by decide +kernel
theorem dX8_copyFrom_197 : decode cX8_copyFrom 197 = .ok (.aload_n 1, 1) := by decide +kernel
theorem dX8_copyFrom_198 : decode cX8_copyFrom 198 = .ok (.getfield 35, 3) := by decide +kernel
theorem dX8_copyFrom_201 : decode cX8_copyFrom 201 = .ok (.iconst 1, 1) := by decide +kernel
theorem dX8_copyFrom_202 : decode cX8_copyFrom 202 = .ok (.iaload, 1) := by decide +kernel
theorem dX8_copyFrom_203 : decode cX8_copyFrom 203 = .ok (.iastore, 1) := by decide +kernel
theorem dX8_copyFrom_204 : decode cX8_copyFrom 204 = .ok (.aload_n 0, 1) := by decide +kernel
theorem dX8_copyFrom_205 : decode cX8_copyFrom 205 = .ok (.aload_n 1, 1) := by decide +kernel
theorem dX8_copyFrom_206 : decode cX8_copyFrom 206 = .ok (.getfield 59, 3) := by decide +kernel
theorem dX8_copyFrom_209 : decode cX8_copyFrom 209 = .ok (.putfield 59, 3) := by decide +kernel
theorem dX8_copyFrom_212 : decode cX8_copyFrom 212 = .ok (.aload_n 0, 1) := by decide +kernel
theorem dX8_copyFrom_213 : decode cX8_copyFrom 213 = .ok (.aload_n 1, 1) := by decide +kernel
theorem dX8_copyFrom_214 : decode cX8_copyFrom 214 = .ok (.getfield 39, 3) := by decide +kernel
theorem dX8_copyFrom_217 : decode cX8_copyFrom 217 = .ok (.putfield 39, 3) := by decide +kernel
theorem dX8_copyFrom_220 : decode cX8_copyFrom 220 = .ok (.return_, 1) := by decide +kernel
theorem dX8_hasThing_0 : decode cX8_hasThing 0 = .ok (.iload_n 1, 1) := by decide +kernel
theorem dX8_hasThing_1 : decode cX8_hasThing 1 = .ok (.iconst 0, 1) := by decide +kernel
theorem dX8_hasThing_2 : decode cX8_hasThing 2 = .ok (.aload_n 0, 1) := by decide +kernel
theorem dX8_hasThing_3 : decode cX8_hasThing 3 = .ok (.getfield 47, 3) := by decide +kernel
theorem dX8_hasThing_6 : decode cX8_hasThing 6 = .ok (.iconst 1, 1) := by decide +kernel
theorem dX8_hasThing_7 : decode cX8_hasThing 7 = .ok (.isub, 1) := by decide +kernel
theorem dX8_hasThing_8 : decode cX8_hasThing 8 = .ok (.invokestatic 75, 3) := by decide +kernel
theorem dX8_hasThing_11 : decode cX8_hasThing 11 = .ok (.ireturn, 1) := by decide +kernel
theorem dX8_hasEffect_0 : decode cX8_hasEffect 0 = .ok (.iload_n 1, 1) := by decide +kernel
theorem dX8_hasEffect_1 : decode cX8_hasEffect 1 = .ok (.iconst 0, 1) := by decide +kernel
theorem dX8_hasEffect_2 : decode cX8_hasEffect 2 = .ok (.aload_n 0, 1) := by decide +kernel
theorem dX8_hasEffect_3 : decode cX8_hasEffect 3 = .ok (.getfield 50, 3) := by decide +kernel
theorem dX8_hasEffect_6 : decode cX8_hasEffect 6 = .ok (.iconst 1, 1) := by decide +kernel
theorem dX8_hasEffect_7 : decode cX8_hasEffect 7 = .ok (.isub, 1) := by decide +kernel
theorem dX8_hasEffect_8 : decode cX8_hasEffect 8 = .ok (.invokestatic 75, 3) := by decide +kernel
theorem dX8_hasEffect_11 : decode cX8_hasEffect 11 = .ok (.ireturn, 1) := by decide +kernel
theorem dX8_hasRule_0 : decode cX8_hasRule 0 = .ok (.iload_n 1, 1) := by decide +kernel
theorem dX8_hasRule_1 : decode cX8_hasRule 1 = .ok (.iconst 0, 1) := by decide +kernel
theorem dX8_hasRule_2 : decode cX8_hasRule 2 = .ok (.aload_n 0, 1) := by decide +kernel
theorem dX8_hasRule_3 : decode cX8_hasRule 3 = .ok (.getfield 53, 3) := by decide +kernel
theorem dX8_hasRule_6 : decode cX8_hasRule 6 = .ok (.iconst 1, 1) := by decide +kernel
theorem dX8_hasRule_7 : decode cX8_hasRule 7 = .ok (.isub, 1) := by decide +kernel
theorem dX8_hasRule_8 : decode cX8_hasRule 8 = .ok (.invokestatic 75, 3) := by decide +kernel
theorem dX8_hasRule_11 : decode cX8_hasRule 11 = .ok (.ireturn, 1) := by decide +kernel
theorem dX8_hasWatcher_0 : decode cX8_hasWatcher 0 = .ok (.iload_n 1, 1) := by decide +kernel
theorem dX8_hasWatcher_1 : decode cX8_hasWatcher 1 = .ok (.iconst 0, 1) := by decide +kernel
theorem dX8_hasWatcher_2 : decode cX8_hasWatcher 2 = .ok (.aload_n 0, 1) := by decide +kernel
theorem dX8_hasWatcher_3 : decode cX8_hasWatcher 3 = .ok (.getfield 56, 3) := by decide +kernel
theorem dX8_hasWatcher_6 : decode cX8_hasWatcher 6 = .ok (.iconst 1, 1) := by decide +kernel
theorem dX8_hasWatcher_7 : decode cX8_hasWatcher 7 = .ok (.isub, 1) := by decide +kernel
theorem dX8_hasWatcher_8 : decode cX8_hasWatcher 8 = .ok (.invokestatic 75, 3) := by decide +kernel
theorem dX8_hasWatcher_11 : decode cX8_hasWatcher 11 = .ok (.ireturn, 1) := by decide +kernel
theorem dX8_isAlive_0 : decode cX8_isAlive 0 = .ok (.iload_n 1, 1) := by decide +kernel
theorem dX8_isAlive_1 : decode cX8_isAlive 1 = .ok (.ifCond .lt 27, 3) := by decide +kernel
theorem dX8_isAlive_4 : decode cX8_isAlive 4 = .ok (.iload_n 1, 1) := by decide +kernel
theorem dX8_isAlive_5 : decode cX8_isAlive 5 = .ok (.aload_n 0, 1) := by decide +kernel
theorem dX8_isAlive_6 : decode cX8_isAlive 6 = .ok (.getfield 47, 3) := by decide +kernel
theorem dX8_isAlive_9 : decode cX8_isAlive 9 = .ok (.if_icmp .ge 19, 3) := by decide +kernel
theorem dX8_isAlive_12 : decode cX8_isAlive 12 = .ok (.aload_n 0, 1) := by decide +kernel
theorem dX8_isAlive_13 : decode cX8_isAlive 13 = .ok (.getfield 11, 3) := by decide +kernel
theorem dX8_isAlive_16 : decode cX8_isAlive 16 = .ok (.iload_n 1, 1) := by decide +kernel
theorem dX8_isAlive_17 : decode cX8_isAlive 17 = .ok (.aaload, 1) := by decide +kernel
theorem dX8_isAlive_18 : decode cX8_isAlive 18 = .ok (.getfield 79, 3) := by decide +kernel
theorem dX8_isAlive_21 : decode cX8_isAlive 21 = .ok (.ifCond .eq 7, 3) := by decide +kernel
theorem dX8_isAlive_24 : decode cX8_isAlive 24 = .ok (.iconst 1, 1) := by decide +kernel
theorem dX8_isAlive_25 : decode cX8_isAlive 25 = .ok (.goto 4, 3) := by decide +kernel
theorem dX8_isAlive_28 : decode cX8_isAlive 28 = .ok (.iconst 0, 1) := by decide +kernel
theorem dX8_isAlive_29 : decode cX8_isAlive 29 = .ok (.ireturn, 1) := by decide +kernel
theorem dX8_works_0 : decode cX8_works 0 = .ok (.aload_n 1, 1) := by decide +kernel
theorem dX8_works_1 : decode cX8_works 1 = .ok (.getfield 83, 3) := by decide +kernel
theorem dX8_works_4 : decode cX8_works 4 = .ok (.iconst (-1), 1) := by decide +kernel
theorem dX8_works_5 : decode cX8_works 5 = .ok (.if_icmp .eq 14, 3) := by decide +kernel
theorem dX8_works_8 : decode cX8_works 8 = .ok (.aload_n 0, 1) := by decide +kernel
theorem dX8_works_9 : decode cX8_works 9 = .ok (.aload_n 1, 1) := by decide +kernel
theorem dX8_works_10 : decode cX8_works 10 = .ok (.getfield 83, 3) := by decide +kernel
theorem dX8_works_13 : decode cX8_works 13 = .ok (.invokevirtual 86, 3) := by decide +kernel
theorem dX8_works_16 : decode cX8_works 16 = .ok (.ifCond .eq 7, 3) := by decide +kernel
theorem dX8_works_19 : decode cX8_works 19 = .ok (.iconst 1, 1) := by decide +kernel
theorem dX8_works_20 : decode cX8_works 20 = .ok (.goto 4, 3) := by decide +kernel
theorem dX8_works_23 : decode cX8_works 23 = .ok (.iconst 0, 1) := by decide +kernel
theorem dX8_works_24 : decode cX8_works 24 = .ok (.ireturn, 1) := by decide +kernel
theorem dX8_aliveBits_0 : decode cX8_aliveBits 0 = .ok (.iconst 0, 1) := by decide +kernel
theorem dX8_aliveBits_1 : decode cX8_aliveBits 1 = .ok (.istore_n 1, 1) := by decide +kernel
theorem dX8_aliveBits_2 : decode cX8_aliveBits 2 = .ok (.iconst 0, 1) := by decide +kernel
theorem dX8_aliveBits_3 : decode cX8_aliveBits 3 = .ok (.istore_n 2, 1) := by decide +kernel
theorem dX8_aliveBits_4 : decode cX8_aliveBits 4 = .ok (.iload_n 2, 1) := by decide +kernel
theorem dX8_aliveBits_5 : decode cX8_aliveBits 5 = .ok (.aload_n 0, 1) := by decide +kernel
theorem dX8_aliveBits_6 : decode cX8_aliveBits 6 = .ok (.getfield 47, 3) := by decide +kernel
theorem dX8_aliveBits_9 : decode cX8_aliveBits 9 = .ok (.if_icmp .ge 27, 3) := by decide +kernel
theorem dX8_aliveBits_12 : decode cX8_aliveBits 12 = .ok (.aload_n 0, 1) := by decide +kernel
theorem dX8_aliveBits_13 : decode cX8_aliveBits 13 = .ok (.getfield 11, 3) := by decide +kernel
theorem dX8_aliveBits_16 : decode cX8_aliveBits 16 = .ok (.iload_n 2, 1) := by decide +kernel
theorem dX8_aliveBits_17 : decode cX8_aliveBits 17 = .ok (.aaload, 1) := by decide +kernel
theorem dX8_aliveBits_18 : decode cX8_aliveBits 18 = .ok (.getfield 79, 3) := by decide +kernel
theorem dX8_aliveBits_21 : decode cX8_aliveBits 21 = .ok (.ifCond .eq 9, 3) := by decide +kernel
theorem dX8_aliveBits_24 : decode cX8_aliveBits 24 = .ok (.iload_n 1, 1) := by decide +kernel
theorem dX8_aliveBits_25 : decode cX8_aliveBits 25 = .ok (.iconst 1, 1) := by decide +kernel
theorem dX8_aliveBits_26 : decode cX8_aliveBits 26 = .ok (.iload_n 2, 1) := by decide +kernel
theorem dX8_aliveBits_27 : decode cX8_aliveBits 27 = .ok (.ishl, 1) := by decide +kernel
theorem dX8_aliveBits_28 : decode cX8_aliveBits 28 = .ok (.ior, 1) := by decide +kernel
theorem dX8_aliveBits_29 : decode cX8_aliveBits 29 = .ok (.istore_n 1, 1) := by decide +kernel
theorem dX8_aliveBits_30 : decode cX8_aliveBits 30 = .ok (.iinc 2 1, 3) := by decide +kernel
theorem dX8_aliveBits_33 : decode cX8_aliveBits 33 = .ok (.goto (-29), 3) := by decide +kernel
theorem dX8_aliveBits_36 : decode cX8_aliveBits 36 = .ok (.iload_n 1, 1) := by decide +kernel
theorem dX8_aliveBits_37 : decode cX8_aliveBits 37 = .ok (.ireturn, 1) := by decide +kernel
theorem dX8_workingIn_0 : decode cX8_workingIn 0 = .ok (.iconst 0, 1) := by decide +kernel
theorem dX8_workingIn_1 : decode cX8_workingIn 1 = .ok (.istore_n 2, 1) := by decide +kernel
theorem dX8_workingIn_2 : decode cX8_workingIn 2 = .ok (.iconst 0, 1) := by decide +kernel
theorem dX8_workingIn_3 : decode cX8_workingIn 3 = .ok (.istore_n 3, 1) := by decide +kernel
theorem dX8_workingIn_4 : decode cX8_workingIn 4 = .ok (.iload_n 3, 1) := by decide +kernel
theorem dX8_workingIn_5 : decode cX8_workingIn 5 = .ok (.aload_n 0, 1) := by decide +kernel
theorem dX8_workingIn_6 : decode cX8_workingIn 6 = .ok (.getfield 50, 3) := by decide +kernel
theorem dX8_workingIn_9 : decode cX8_workingIn 9 = .ok (.if_icmp .ge 41, 3) := by decide +kernel
theorem dX8_workingIn_12 : decode cX8_workingIn 12 = .ok (.aload_n 0, 1) := by decide +kernel
theorem dX8_workingIn_13 : decode cX8_workingIn 13 = .ok (.getfield 19, 3) := by decide +kernel
theorem dX8_workingIn_16 : decode cX8_workingIn 16 = .ok (.iload_n 3, 1) := by decide +kernel
theorem dX8_workingIn_17 : decode cX8_workingIn 17 = .ok (.aaload, 1) := by decide +kernel
theorem dX8_workingIn_18 : decode cX8_workingIn 18 = .ok (.invokevirtual 90, 3) := by decide +kernel
theorem dX8_workingIn_21 : decode cX8_workingIn 21 = .ok (.iload_n 1, 1) := by decide +kernel
theorem dX8_workingIn_22 : decode cX8_workingIn 22 = .ok (.if_icmp .ne 22, 3) := by decide +kernel
theorem dX8_workingIn_25 : decode cX8_workingIn 25 = .ok (.aload_n 0, 1) := by decide +kernel
theorem dX8_workingIn_26 : decode cX8_workingIn 26 = .ok (.aload_n 0, 1) := by decide +kernel
theorem dX8_workingIn_27 : decode cX8_workingIn 27 = .ok (.getfield 19, 3) := by decide +kernel
theorem dX8_workingIn_30 : decode cX8_workingIn 30 = .ok (.iload_n 3, 1) := by decide +kernel
theorem dX8_workingIn_31 : decode cX8_workingIn 31 = .ok (.aaload, 1) := by decide +kernel
theorem dX8_workingIn_32 : decode cX8_workingIn 32 = .ok (.invokevirtual 94, 3) := by decide +kernel
theorem dX8_workingIn_35 : decode cX8_workingIn 35 = .ok (.ifCond .eq 9, 3) := by decide +kernel
theorem dX8_workingIn_38 : decode cX8_workingIn 38 = .ok (.iload_n 2, 1) := by decide +kernel
theorem dX8_workingIn_39 : decode cX8_workingIn 39 = .ok (.iconst 1, 1) := by decide +kernel
theorem dX8_workingIn_40 : decode cX8_workingIn 40 = .ok (.iload_n 3, 1) := by decide +kernel
theorem dX8_workingIn_41 : decode cX8_workingIn 41 = .ok (.ishl, 1) := by decide +kernel
theorem dX8_workingIn_42 : decode cX8_workingIn 42 = .ok (.ior, 1) := by decide +kernel
theorem dX8_workingIn_43 : decode cX8_workingIn 43 = .ok (.istore_n 2, 1) := by decide +kernel
theorem dX8_workingIn_44 : decode cX8_workingIn 44 = .ok (.iinc 3 1, 3) := by decide +kernel
theorem dX8_workingIn_47 : decode cX8_workingIn 47 = .ok (.goto (-43), 3) := by decide +kernel
theorem dX8_workingIn_50 : decode cX8_workingIn 50 = .ok (.iload_n 2, 1) := by decide +kernel
theorem dX8_workingIn_51 : decode cX8_workingIn 51 = .ok (.ireturn, 1) := by decide +kernel
theorem dX8_addThing_0 : decode cX8_addThing 0 = .ok (.aload_n 0, 1) := by decide +kernel
theorem dX8_addThing_1 : decode cX8_addThing 1 = .ok (.getfield 47, 3) := by decide +kernel
theorem dX8_addThing_4 : decode cX8_addThing 4 = .ok (.bipush 8, 2) := by decide +kernel
theorem dX8_addThing_6 : decode cX8_addThing 6 = .ok (.if_icmp .ge 30, 3) := by decide +kernel
theorem dX8_addThing_9 : decode cX8_addThing 9 = .ok (.aload_n 0, 1) := by decide +kernel
theorem dX8_addThing_10 : decode cX8_addThing 10 = .ok (.getfield 11, 3) := by decide +kernel
theorem dX8_addThing_13 : decode cX8_addThing 13 = .ok (.aload_n 0, 1) := by decide +kernel
theorem dX8_addThing_14 : decode cX8_addThing 14 = .ok (.getfield 47, 3) := by decide +kernel
theorem dX8_addThing_17 : decode cX8_addThing 17 = .ok (.aaload, 1) := by decide +kernel
theorem dX8_addThing_18 : decode cX8_addThing 18 = .ok (.iload_n 1, 1) := by decide +kernel
theorem dX8_addThing_19 : decode cX8_addThing 19 = .ok (.iload_n 2, 1) := by decide +kernel
theorem dX8_addThing_20 : decode cX8_addThing 20 = .ok (.iload_n 3, 1) := by decide +kernel
theorem dX8_addThing_21 : decode cX8_addThing 21 = .ok (.iload 4, 2) := by decide +kernel
theorem dX8_addThing_23 : decode cX8_addThing 23 = .ok (.invokevirtual 98, 3) := by decide +kernel
theorem dX8_addThing_26 : decode cX8_addThing 26 = .ok (.aload_n 0, 1) := by decide +kernel
theorem dX8_addThing_27 : decode cX8_addThing 27 = .ok (.dup, 1) := by decide +kernel
theorem dX8_addThing_28 : decode cX8_addThing 28 = .ok (.getfield 47, 3) := by decide +kernel
theorem dX8_addThing_31 : decode cX8_addThing 31 = .ok (.iconst 1, 1) := by decide +kernel
theorem dX8_addThing_32 : decode cX8_addThing 32 = .ok (.iadd, 1) := by decide +kernel
theorem dX8_addThing_33 : decode cX8_addThing 33 = .ok (.putfield 47, 3) := by decide +kernel
theorem dX8_addThing_36 : decode cX8_addThing 36 = .ok (.return_, 1) := by decide +kernel
theorem dX8_dropEffect_0 : decode cX8_dropEffect 0 = .ok (.aload_n 0, 1) := by decide +kernel
theorem dX8_dropEffect_1 : decode cX8_dropEffect 1 = .ok (.iload_n 1, 1) := by decide +kernel
theorem dX8_dropEffect_2 : decode cX8_dropEffect 2 = .ok (.invokevirtual 102, 3) := by decide +kernel
theorem dX8_dropEffect_5 : decode cX8_dropEffect 5 = .ok (.ifCond .ne 4, 3) := by decide +kernel
theorem dX8_dropEffect_8 : decode cX8_dropEffect 8 = .ok (.return_, 1) := by decide +kernel
theorem dX8_dropEffect_9 : decode cX8_dropEffect 9 = .ok (.aload_n 0, 1) := by decide +kernel
theorem dX8_dropEffect_10 : decode cX8_dropEffect 10 = .ok (.getfield 19, 3) := by decide +kernel
theorem dX8_dropEffect_13 : decode cX8_dropEffect 13 = .ok (.iload_n 1, 1) := by decide +kernel
theorem dX8_dropEffect_14 : decode cX8_dropEffect 14 = .ok (.aaload, 1) := by decide +kernel
theorem dX8_dropEffect_15 : decode cX8_dropEffect 15 = .ok (.astore_n 2, 1) := by decide +kernel
theorem dX8_dropEffect_16 : decode cX8_dropEffect 16 = .ok (.iload_n 1, 1) := by decide +kernel
theorem dX8_dropEffect_17 : decode cX8_dropEffect 17 = .ok (.istore_n 3, 1) := by decide +kernel
theorem dX8_dropEffect_18 : decode cX8_dropEffect 18 = .ok (.iload_n 3, 1) := by decide +kernel
theorem dX8_dropEffect_19 : decode cX8_dropEffect 19 = .ok (.aload_n 0, 1) := by decide +kernel
theorem dX8_dropEffect_20 : decode cX8_dropEffect 20 = .ok (.getfield 50, 3) := by decide +kernel
theorem dX8_dropEffect_23 : decode cX8_dropEffect 23 = .ok (.iconst 1, 1) := by decide +kernel
theorem dX8_dropEffect_24 : decode cX8_dropEffect 24 = .ok (.isub, 1) := by decide +kernel
theorem dX8_dropEffect_25 : decode cX8_dropEffect 25 = .ok (.if_icmp .ge 23, 3) := by decide +kernel
theorem dX8_dropEffect_28 : decode cX8_dropEffect 28 = .ok (.aload_n 0, 1) := by decide +kernel
theorem dX8_dropEffect_29 : decode cX8_dropEffect 29 = .ok (.getfield 19, 3) := by decide +kernel
theorem dX8_dropEffect_32 : decode cX8_dropEffect 32 = .ok (.iload_n 3, 1) := by decide +kernel
theorem dX8_dropEffect_33 : decode cX8_dropEffect 33 = .ok (.aload_n 0, 1) := by decide +kernel
theorem dX8_dropEffect_34 : decode cX8_dropEffect 34 = .ok (.getfield 19, 3) := by decide +kernel
theorem dX8_dropEffect_37 : decode cX8_dropEffect 37 = .ok (.iload_n 3, 1) := by decide +kernel
theorem dX8_dropEffect_38 : decode cX8_dropEffect 38 = .ok (.iconst 1, 1) := by decide +kernel
theorem dX8_dropEffect_39 : decode cX8_dropEffect 39 = .ok (.iadd, 1) := by decide +kernel
theorem dX8_dropEffect_40 : decode cX8_dropEffect 40 = .ok (.aaload, 1) := by decide +kernel
theorem dX8_dropEffect_41 : decode cX8_dropEffect 41 = .ok (.aastore, 1) := by decide +kernel
theorem dX8_dropEffect_42 : decode cX8_dropEffect 42 = .ok (.iinc 3 1, 3) := by decide +kernel
theorem dX8_dropEffect_45 : decode cX8_dropEffect 45 = .ok (.goto (-27), 3) := by decide +kernel
theorem dX8_dropEffect_48 : decode cX8_dropEffect 48 = .ok (.aload_n 0, 1) := by decide +kernel
theorem dX8_dropEffect_49 : decode cX8_dropEffect 49 = .ok (.dup, 1) := by decide +kernel
theorem dX8_dropEffect_50 : decode cX8_dropEffect 50 = .ok (.getfield 50, 3) := by decide +kernel
end
section
theorem dX8_dropEffect_53 : decode cX8_dropEffect 53 = .ok (.iconst 1, 1) := by decide +kernel
theorem dX8_dropEffect_54 : decode cX8_dropEffect 54 = .ok (.isub, 1) := by decide +kernel
theorem dX8_dropEffect_55 : decode cX8_dropEffect 55 = .ok (.putfield 50, 3) := by decide +kernel
theorem dX8_dropEffect_58 : decode cX8_dropEffect 58 = .ok (.aload_n 0, 1) := by decide +kernel
theorem dX8_dropEffect_59 : decode cX8_dropEffect 59 = .ok (.getfield 19, 3) := by decide +kernel
theorem dX8_dropEffect_62 : decode cX8_dropEffect 62 = .ok (.aload_n 0, 1) := by decide +kernel
theorem dX8_dropEffect_63 : decode cX8_dropEffect 63 = .ok (.getfield 50, 3) := by decide +kernel
theorem dX8_dropEffect_66 : decode cX8_dropEffect 66 = .ok (.aload_n 2, 1) := by decide +kernel
theorem dX8_dropEffect_67 : decode cX8_dropEffect 67 = .ok (.aastore, 1) := by decide +kernel
theorem dX8_dropEffect_68 : decode cX8_dropEffect 68 = .ok (.return_, 1) := by decide +kernel
theorem dX8_dropRule_0 : decode cX8_dropRule 0 = .ok (.aload_n 0, 1) := by decide +kernel
theorem dX8_dropRule_1 : decode cX8_dropRule 1 = .ok (.iload_n 1, 1) := by decide +kernel
theorem dX8_dropRule_2 : decode cX8_dropRule 2 = .ok (.invokevirtual 105, 3) := by decide +kernel
theorem dX8_dropRule_5 : decode cX8_dropRule 5 = .ok (.ifCond .ne 4, 3) := by decide +kernel
theorem dX8_dropRule_8 : decode cX8_dropRule 8 = .ok (.return_, 1) := by decide +kernel
theorem dX8_dropRule_9 : decode cX8_dropRule 9 = .ok (.aload_n 0, 1) := by decide +kernel
theorem dX8_dropRule_10 : decode cX8_dropRule 10 = .ok (.getfield 25, 3) := by decide +kernel
theorem dX8_dropRule_13 : decode cX8_dropRule 13 = .ok (.iload_n 1, 1) := by decide +kernel
theorem dX8_dropRule_14 : decode cX8_dropRule 14 = .ok (.aaload, 1) := by decide +kernel
theorem dX8_dropRule_15 : decode cX8_dropRule 15 = .ok (.astore_n 2, 1) := by decide +kernel
theorem dX8_dropRule_16 : decode cX8_dropRule 16 = .ok (.iload_n 1, 1) := by decide +kernel
theorem dX8_dropRule_17 : decode cX8_dropRule 17 = .ok (.istore_n 3, 1) := by decide +kernel
theorem dX8_dropRule_18 : decode cX8_dropRule 18 = .ok (.iload_n 3, 1) := by decide +kernel
theorem dX8_dropRule_19 : decode cX8_dropRule 19 = .ok (.aload_n 0, 1) := by decide +kernel
theorem dX8_dropRule_20 : decode cX8_dropRule 20 = .ok (.getfield 53, 3) := by decide +kernel
theorem dX8_dropRule_23 : decode cX8_dropRule 23 = .ok (.iconst 1, 1) := by decide +kernel
theorem dX8_dropRule_24 : decode cX8_dropRule 24 = .ok (.isub, 1) := by decide +kernel
theorem dX8_dropRule_25 : decode cX8_dropRule 25 = .ok (.if_icmp .ge 23, 3) := by decide +kernel
theorem dX8_dropRule_28 : decode cX8_dropRule 28 = .ok (.aload_n 0, 1) := by decide +kernel
theorem dX8_dropRule_29 : decode cX8_dropRule 29 = .ok (.getfield 25, 3) := by decide +kernel
theorem dX8_dropRule_32 : decode cX8_dropRule 32 = .ok (.iload_n 3, 1) := by decide +kernel
theorem dX8_dropRule_33 : decode cX8_dropRule 33 = .ok (.aload_n 0, 1) := by decide +kernel
theorem dX8_dropRule_34 : decode cX8_dropRule 34 = .ok (.getfield 25, 3) := by decide +kernel
theorem dX8_dropRule_37 : decode cX8_dropRule 37 = .ok (.iload_n 3, 1) := by decide +kernel
theorem dX8_dropRule_38 : decode cX8_dropRule 38 = .ok (.iconst 1, 1) := by decide +kernel
theorem dX8_dropRule_39 : decode cX8_dropRule 39 = .ok (.iadd, 1) := by decide +kernel
theorem dX8_dropRule_40 : decode cX8_dropRule 40 = .ok (.aaload, 1) := by decide +kernel
theorem dX8_dropRule_41 : decode cX8_dropRule 41 = .ok (.aastore, 1) := by decide +kernel
theorem dX8_dropRule_42 : decode cX8_dropRule 42 = .ok (.iinc 3 1, 3) := by decide +kernel
theorem dX8_dropRule_45 : decode cX8_dropRule 45 = .ok (.goto (-27), 3) := by decide +kernel
theorem dX8_dropRule_48 : decode cX8_dropRule 48 = .ok (.aload_n 0, 1) := by decide +kernel
theorem dX8_dropRule_49 : decode cX8_dropRule 49 = .ok (.dup, 1) := by decide +kernel
theorem dX8_dropRule_50 : decode cX8_dropRule 50 = .ok (.getfield 53, 3) := by decide +kernel
theorem dX8_dropRule_53 : decode cX8_dropRule 53 = .ok (.iconst 1, 1) := by decide +kernel
theorem dX8_dropRule_54 : decode cX8_dropRule 54 = .ok (.isub, 1) := by decide +kernel
theorem dX8_dropRule_55 : decode cX8_dropRule 55 = .ok (.putfield 53, 3) := by decide +kernel
theorem dX8_dropRule_58 : decode cX8_dropRule 58 = .ok (.aload_n 0, 1) := by decide +kernel
theorem dX8_dropRule_59 : decode cX8_dropRule 59 = .ok (.getfield 25, 3) := by decide +kernel
theorem dX8_dropRule_62 : decode cX8_dropRule 62 = .ok (.aload_n 0, 1) := by decide +kernel
theorem dX8_dropRule_63 : decode cX8_dropRule 63 = .ok (.getfield 53, 3) := by decide +kernel
theorem dX8_dropRule_66 : decode cX8_dropRule 66 = .ok (.aload_n 2, 1) := by decide +kernel
theorem dX8_dropRule_67 : decode cX8_dropRule 67 = .ok (.aastore, 1) := by decide +kernel
theorem dX8_dropRule_68 : decode cX8_dropRule 68 = .ok (.return_, 1) := by decide +kernel
theorem dX8_dropWatcher_0 : decode cX8_dropWatcher 0 = .ok (.aload_n 0, 1) := by decide +kernel
theorem dX8_dropWatcher_1 : decode cX8_dropWatcher 1 = .ok (.iload_n 1, 1) := by decide +kernel
theorem dX8_dropWatcher_2 : decode cX8_dropWatcher 2 = .ok (.invokevirtual 108, 3) := by decide +kernel
theorem dX8_dropWatcher_5 : decode cX8_dropWatcher 5 = .ok (.ifCond .ne 4, 3) := by decide +kernel
theorem dX8_dropWatcher_8 : decode cX8_dropWatcher 8 = .ok (.return_, 1) := by decide +kernel
theorem dX8_dropWatcher_9 : decode cX8_dropWatcher 9 = .ok (.aload_n 0, 1) := by decide +kernel
theorem dX8_dropWatcher_10 : decode cX8_dropWatcher 10 = .ok (.getfield 31, 3) := by decide +kernel
theorem dX8_dropWatcher_13 : decode cX8_dropWatcher 13 = .ok (.iload_n 1, 1) := by decide +kernel
theorem dX8_dropWatcher_14 : decode cX8_dropWatcher 14 = .ok (.aaload, 1) := by decide +kernel
theorem dX8_dropWatcher_15 : decode cX8_dropWatcher 15 = .ok (.astore_n 2, 1) := by decide +kernel
theorem dX8_dropWatcher_16 : decode cX8_dropWatcher 16 = .ok (.iload_n 1, 1) := by decide +kernel
theorem dX8_dropWatcher_17 : decode cX8_dropWatcher 17 = .ok (.istore_n 3, 1) := by decide +kernel
theorem dX8_dropWatcher_18 : decode cX8_dropWatcher 18 = .ok (.iload_n 3, 1) := by decide +kernel
theorem dX8_dropWatcher_19 : decode cX8_dropWatcher 19 = .ok (.aload_n 0, 1) := by decide +kernel
theorem dX8_dropWatcher_20 : decode cX8_dropWatcher 20 = .ok (.getfield 56, 3) := by decide +kernel
theorem dX8_dropWatcher_23 : decode cX8_dropWatcher 23 = .ok (.iconst 1, 1) := by decide +kernel
theorem dX8_dropWatcher_24 : decode cX8_dropWatcher 24 = .ok (.isub, 1) := by decide +kernel
theorem dX8_dropWatcher_25 : decode cX8_dropWatcher 25 = .ok (.if_icmp .ge 23, 3) := by decide +kernel
theorem dX8_dropWatcher_28 : decode cX8_dropWatcher 28 = .ok (.aload_n 0, 1) := by decide +kernel
theorem dX8_dropWatcher_29 : decode cX8_dropWatcher 29 = .ok (.getfield 31, 3) := by decide +kernel
theorem dX8_dropWatcher_32 : decode cX8_dropWatcher 32 = .ok (.iload_n 3, 1) := by decide +kernel
theorem dX8_dropWatcher_33 : decode cX8_dropWatcher 33 = .ok (.aload_n 0, 1) := by decide +kernel
theorem dX8_dropWatcher_34 : decode cX8_dropWatcher 34 = .ok (.getfield 31, 3) := by decide +kernel
theorem dX8_dropWatcher_37 : decode cX8_dropWatcher 37 = .ok (.iload_n 3, 1) := by decide +kernel
theorem dX8_dropWatcher_38 : decode cX8_dropWatcher 38 = .ok (.iconst 1, 1) := by decide +kernel
theorem dX8_dropWatcher_39 : decode cX8_dropWatcher 39 = .ok (.iadd, 1) := by decide +kernel
theorem dX8_dropWatcher_40 : decode cX8_dropWatcher 40 = .ok (.aaload, 1) := by decide +kernel
theorem dX8_dropWatcher_41 : decode cX8_dropWatcher 41 = .ok (.aastore, 1) := by decide +kernel
theorem dX8_dropWatcher_42 : decode cX8_dropWatcher 42 = .ok (.iinc 3 1, 3) := by decide +kernel
theorem dX8_dropWatcher_45 : decode cX8_dropWatcher 45 = .ok (.goto (-27), 3) := by decide +kernel
theorem dX8_dropWatcher_48 : decode cX8_dropWatcher 48 = .ok (.aload_n 0, 1) := by decide +kernel
theorem dX8_dropWatcher_49 : decode cX8_dropWatcher 49 = .ok (.dup, 1) := by decide +kernel
theorem dX8_dropWatcher_50 : decode cX8_dropWatcher 50 = .ok (.getfield 56, 3) := by decide +kernel
theorem dX8_dropWatcher_53 : decode cX8_dropWatcher 53 = .ok (.iconst 1, 1) := by decide +kernel
theorem dX8_dropWatcher_54 : decode cX8_dropWatcher 54 = .ok (.isub, 1) := by decide +kernel
theorem dX8_dropWatcher_55 : decode cX8_dropWatcher 55 = .ok (.putfield 56, 3) := by decide +kernel
theorem dX8_dropWatcher_58 : decode cX8_dropWatcher 58 = .ok (.aload_n 0, 1) := by decide +kernel
theorem dX8_dropWatcher_59 : decode cX8_dropWatcher 59 = .ok (.getfield 31, 3) := by decide +kernel
theorem dX8_dropWatcher_62 : decode cX8_dropWatcher 62 = .ok (.aload_n 0, 1) := by decide +kernel
theorem dX8_dropWatcher_63 : decode cX8_dropWatcher 63 = .ok (.getfield 56, 3) := by decide +kernel
theorem dX8_dropWatcher_66 : decode cX8_dropWatcher 66 = .ok (.aload_n 2, 1) := by decide +kernel
theorem dX8_dropWatcher_67 : decode cX8_dropWatcher 67 = .ok (.aastore, 1) := by decide +kernel
theorem dX8_dropWatcher_68 : decode cX8_dropWatcher 68 = .ok (.return_, 1) := by decide +kernel
theorem dX8_ageEffects_0 : decode cX8_ageEffects 0 = .ok (.aload_n 0, 1) := by decide +kernel
theorem dX8_ageEffects_1 : decode cX8_ageEffects 1 = .ok (.getfield 50, 3) := by decide +kernel
theorem dX8_ageEffects_4 : decode cX8_ageEffects 4 = .ok (.iconst 1, 1) := by decide +kernel
theorem dX8_ageEffects_5 : decode cX8_ageEffects 5 = .ok (.isub, 1) := by decide +kernel
theorem dX8_ageEffects_6 : decode cX8_ageEffects 6 = .ok (.istore_n 1, 1) := by decide +kernel
theorem dX8_ageEffects_7 : decode cX8_ageEffects 7 = .ok (.iload_n 1, 1) := by decide +kernel
theorem dX8_ageEffects_8 : decode cX8_ageEffects 8 = .ok (.ifCond .lt 53, 3) := by decide +kernel
theorem dX8_ageEffects_11 : decode cX8_ageEffects 11 = .ok (.aload_n 0, 1) := by decide +kernel
theorem dX8_ageEffects_12 : decode cX8_ageEffects 12 = .ok (.getfield 19, 3) := by decide +kernel
theorem dX8_ageEffects_15 : decode cX8_ageEffects 15 = .ok (.iload_n 1, 1) := by decide +kernel
theorem dX8_ageEffects_16 : decode cX8_ageEffects 16 = .ok (.aaload, 1) := by decide +kernel
theorem dX8_ageEffects_17 : decode cX8_ageEffects 17 = .ok (.getfield 111, 3) := by decide +kernel
theorem dX8_ageEffects_20 : decode cX8_ageEffects 20 = .ok (.ifCond .le 35, 3) := by decide +kernel
theorem dX8_ageEffects_23 : decode cX8_ageEffects 23 = .ok (.aload_n 0, 1) := by decide +kernel
theorem dX8_ageEffects_24 : decode cX8_ageEffects 24 = .ok (.getfield 19, 3) := by decide +kernel
theorem dX8_ageEffects_27 : decode cX8_ageEffects 27 = .ok (.iload_n 1, 1) := by decide +kernel
theorem dX8_ageEffects_28 : decode cX8_ageEffects 28 = .ok (.aaload, 1) := by decide +kernel
theorem dX8_ageEffects_29 : decode cX8_ageEffects 29 = .ok (.dup, 1) := by decide +kernel
theorem dX8_ageEffects_30 : decode cX8_ageEffects 30 = .ok (.getfield 111, 3) := by decide +kernel
theorem dX8_ageEffects_33 : decode cX8_ageEffects 33 = .ok (.iconst 1, 1) := by decide +kernel
theorem dX8_ageEffects_34 : decode cX8_ageEffects 34 = .ok (.isub, 1) := by decide +kernel
theorem dX8_ageEffects_35 : decode cX8_ageEffects 35 = .ok (.putfield 111, 3) := by decide +kernel
theorem dX8_ageEffects_38 : decode cX8_ageEffects 38 = .ok (.aload_n 0, 1) := by decide +kernel
theorem dX8_ageEffects_39 : decode cX8_ageEffects 39 = .ok (.getfield 19, 3) := by decide +kernel
theorem dX8_ageEffects_42 : decode cX8_ageEffects 42 = .ok (.iload_n 1, 1) := by decide +kernel
theorem dX8_ageEffects_43 : decode cX8_ageEffects 43 = .ok (.aaload, 1) := by decide +kernel
theorem dX8_ageEffects_44 : decode cX8_ageEffects 44 = .ok (.getfield 111, 3) := by decide +kernel
theorem dX8_ageEffects_47 : decode cX8_ageEffects 47 = .ok (.ifCond .ne 8, 3) := by decide +kernel
theorem dX8_ageEffects_50 : decode cX8_ageEffects 50 = .ok (.aload_n 0, 1) := by decide +kernel
theorem dX8_ageEffects_51 : decode cX8_ageEffects 51 = .ok (.iload_n 1, 1) := by decide +kernel
theorem dX8_ageEffects_52 : decode cX8_ageEffects 52 = .ok (.invokevirtual 114, 3) := by decide +kernel
theorem dX8_ageEffects_55 : decode cX8_ageEffects 55 = .ok (.iinc 1 (-1), 3) := by decide +kernel
theorem dX8_ageEffects_58 : decode cX8_ageEffects 58 = .ok (.goto (-51), 3) := by decide +kernel
theorem dX8_ageEffects_61 : decode cX8_ageEffects 61 = .ok (.return_, 1) := by decide +kernel
theorem dX8_draw_0 : decode cX8_draw 0 = .ok (.aload_n 0, 1) := by decide +kernel
theorem dX8_draw_1 : decode cX8_draw 1 = .ok (.aload_n 0, 1) := by decide +kernel
theorem dX8_draw_2 : decode cX8_draw 2 = .ok (.getfield 39, 3) := by decide +kernel
theorem dX8_draw_5 : decode cX8_draw 5 = .ok (.ldc 118, 2) := by decide +kernel
theorem dX8_draw_7 : decode cX8_draw 7 = .ok (.imul, 1) := by decide +kernel
theorem dX8_draw_8 : decode cX8_draw 8 = .ok (.sipush 12345, 3) := by decide +kernel
theorem dX8_draw_11 : decode cX8_draw 11 = .ok (.iadd, 1) := by decide +kernel
theorem dX8_draw_12 : decode cX8_draw 12 = .ok (.putfield 39, 3) := by decide +kernel
theorem dX8_draw_15 : decode cX8_draw 15 = .ok (.aload_n 0, 1) := by decide +kernel
theorem dX8_draw_16 : decode cX8_draw 16 = .ok (.getfield 39, 3) := by decide +kernel
theorem dX8_draw_19 : decode cX8_draw 19 = .ok (.bipush 16, 2) := by decide +kernel
theorem dX8_draw_21 : decode cX8_draw 21 = .ok (.iushr, 1) := by decide +kernel
theorem dX8_draw_22 : decode cX8_draw 22 = .ok (.ireturn, 1) := by decide +kernel
end
section
theorem dX9_init_0 : decode cX9_init 0 = .ok (.aload_n 0, 1) := by decide +kernel
theorem dX9_init_1 : decode cX9_init 1 = .ok (.invokespecial 3, 3) := by decide +kernel
theorem dX9_init_4 : decode cX9_init 4 = .ok (.aload_n 0, 1) := by decide +kernel
theorem dX9_init_5 : decode cX9_init 5 = .ok (.bipush 8, 2) := by decide +kernel
theorem dX9_init_7 : decode cX9_init 7 = .ok (.newarray .int, 2) := by decide +kernel
theorem dX9_init_9 : decode cX9_init 9 = .ok (.putfield 9, 3) := by decide +kernel
theorem dX9_init_12 : decode cX9_init 12 = .ok (.return_, 1) := by decide +kernel
theorem dX9_follow_0 : decode cX9_follow 0 = .ok (.aload_n 0, 1) := by decide +kernel
theorem dX9_follow_1 : decode cX9_follow 1 = .ok (.iload_n 3, 1) := by decide +kernel
theorem dX9_follow_2 : decode cX9_follow 2 = .ok (.putfield 15, 3) := by decide +kernel
theorem dX9_follow_5 : decode cX9_follow 5 = .ok (.aload_n 0, 1) := by decide +kernel
theorem dX9_follow_6 : decode cX9_follow 6 = .ok (.iload 4, 2) := by decide +kernel
theorem dX9_follow_8 : decode cX9_follow 8 = .ok (.putfield 19, 3) := by decide +kernel
theorem dX9_follow_11 : decode cX9_follow 11 = .ok (.aload_n 0, 1) := by decide +kernel
theorem dX9_follow_12 : decode cX9_follow 12 = .ok (.iconst 0, 1) := by decide +kernel
theorem dX9_follow_13 : decode cX9_follow 13 = .ok (.putfield 22, 3) := by decide +kernel
theorem dX9_follow_16 : decode cX9_follow 16 = .ok (.aload_n 0, 1) := by decide +kernel
theorem dX9_follow_17 : decode cX9_follow 17 = .ok (.iconst 0, 1) := by decide +kernel
theorem dX9_follow_18 : decode cX9_follow 18 = .ok (.putfield 26, 3) := by decide +kernel
theorem dX9_follow_21 : decode cX9_follow 21 = .ok (.iconst 0, 1) := by decide +kernel
theorem dX9_follow_22 : decode cX9_follow 22 = .ok (.istore 5, 2) := by decide +kernel
theorem dX9_follow_24 : decode cX9_follow 24 = .ok (.iload 5, 2) := by decide +kernel
theorem dX9_follow_26 : decode cX9_follow 26 = .ok (.bipush 8, 2) := by decide +kernel
theorem dX9_follow_28 : decode cX9_follow 28 = .ok (.if_icmp .ge 64, 3) := by decide +kernel
theorem dX9_follow_31 : decode cX9_follow 31 = .ok (.aload_n 0, 1) := by decide +kernel
theorem dX9_follow_32 : decode cX9_follow 32 = .ok (.getfield 19, 3) := by decide +kernel
theorem dX9_follow_35 : decode cX9_follow 35 = .ok (.ifCond .le 57, 3) := by decide +kernel
theorem dX9_follow_38 : decode cX9_follow 38 = .ok (.aload_n 0, 1) := by decide +kernel
theorem dX9_follow_39 : decode cX9_follow 39 = .ok (.getfield 22, 3) := by decide +kernel
theorem dX9_follow_42 : decode cX9_follow 42 = .ok (.ifCond .ne 50, 3) := by decide +kernel
theorem dX9_follow_45 : decode cX9_follow 45 = .ok (.aload_n 0, 1) := by decide +kernel
theorem dX9_follow_46 : decode cX9_follow 46 = .ok (.aload_n 1, 1) := by decide +kernel
theorem dX9_follow_47 : decode cX9_follow 47 = .ok (.aload_n 2, 1) := by decide +kernel
theorem dX9_follow_48 : decode cX9_follow 48 = .ok (.invokevirtual 29, 3) := by decide +kernel
theorem dX9_follow_51 : decode cX9_follow 51 = .ok (.istore 6, 2) := by decide +kernel
theorem dX9_follow_53 : decode cX9_follow 53 = .ok (.iload 6, 2) := by decide +kernel
theorem dX9_follow_55 : decode cX9_follow 55 = .ok (.iconst (-1), 1) := by decide +kernel
theorem dX9_follow_56 : decode cX9_follow 56 = .ok (.if_icmp .ne 4, 3) := by decide +kernel
theorem dX9_follow_59 : decode cX9_follow 59 = .ok (.return_, 1) := by decide +kernel
theorem dX9_follow_60 : decode cX9_follow 60 = .ok (.aload_n 0, 1) := by decide +kernel
theorem dX9_follow_61 : decode cX9_follow 61 = .ok (.dup, 1) := by decide +kernel
theorem dX9_follow_62 : decode cX9_follow 62 = .ok (.getfield 26, 3) := by decide +kernel
theorem dX9_follow_65 : decode cX9_follow 65 = .ok (.iconst 1, 1) := by decide +kernel
theorem dX9_follow_66 : decode cX9_follow 66 = .ok (.iload 6, 2) := by decide +kernel
theorem dX9_follow_68 : decode cX9_follow 68 = .ok (.ishl, 1) := by decide +kernel
theorem dX9_follow_69 : decode cX9_follow 69 = .ok (.ior, 1) := by decide +kernel
theorem dX9_follow_70 : decode cX9_follow 70 = .ok (.putfield 26, 3) := by decide +kernel
theorem dX9_follow_73 : decode cX9_follow 73 = .ok (.aload_n 0, 1) := by decide +kernel
theorem dX9_follow_74 : decode cX9_follow 74 = .ok (.aload_n 1, 1) := by decide +kernel
theorem dX9_follow_75 : decode cX9_follow 75 = .ok (.getfield 33, 3) := by decide +kernel
theorem dX9_follow_78 : decode cX9_follow 78 = .ok (.iload 6, 2) := by decide +kernel
theorem dX9_follow_80 : decode cX9_follow 80 = .ok (.aaload, 1) := by decide +kernel
theorem dX9_follow_81 : decode cX9_follow 81 = .ok (.iload 6, 2) := by decide +kernel
theorem dX9_follow_83 : decode cX9_follow 83 = .ok (.invokevirtual 39, 3) := by decide +kernel
theorem dX9_follow_86 : decode cX9_follow 86 = .ok (.iinc 5 1, 3) := by decide +kernel
theorem dX9_follow_89 : decode cX9_follow 89 = .ok (.goto (-65), 3) := by decide +kernel
theorem dX9_follow_92 : decode cX9_follow 92 = .ok (.return_, 1) := by decide +kernel
theorem dX9_pickRule_0 : decode cX9_pickRule 0 = .ok (.iconst (-1), 1) := by decide +kernel
theorem dX9_pickRule_1 : decode cX9_pickRule 1 = .ok (.istore_n 3, 1) := by decide +kernel
theorem dX9_pickRule_2 : decode cX9_pickRule 2 = .ok (.aload_n 1, 1) := by decide +kernel
theorem dX9_pickRule_3 : decode cX9_pickRule 3 = .ok (.aload_n 0, 1) := by decide +kernel
theorem dX9_pickRule_4 : decode cX9_pickRule 4 = .ok (.getfield 15, 3) := by decide +kernel
theorem dX9_pickRule_7 : decode cX9_pickRule 7 = .ok (.invokevirtual 43, 3) := by decide +kernel
theorem dX9_pickRule_10 : decode cX9_pickRule 10 = .ok (.ifCond .eq 28, 3) := by decide +kernel
theorem dX9_pickRule_13 : decode cX9_pickRule 13 = .ok (.aload_n 1, 1) := by decide +kernel
theorem dX9_pickRule_14 : decode cX9_pickRule 14 = .ok (.getfield 47, 3) := by decide +kernel
theorem dX9_pickRule_17 : decode cX9_pickRule 17 = .ok (.aload_n 1, 1) := by decide +kernel
theorem dX9_pickRule_18 : decode cX9_pickRule 18 = .ok (.getfield 50, 3) := by decide +kernel
theorem dX9_pickRule_21 : decode cX9_pickRule 21 = .ok (.aload_n 0, 1) := by decide +kernel
theorem dX9_pickRule_22 : decode cX9_pickRule 22 = .ok (.getfield 15, 3) := by decide +kernel
theorem dX9_pickRule_25 : decode cX9_pickRule 25 = .ok (.aaload, 1) := by decide +kernel
theorem dX9_pickRule_26 : decode cX9_pickRule 26 = .ok (.getfield 54, 3) := by decide +kernel
theorem dX9_pickRule_29 : decode cX9_pickRule 29 = .ok (.iaload, 1) := by decide +kernel
theorem dX9_pickRule_30 : decode cX9_pickRule 30 = .ok (.iconst 1, 1) := by decide +kernel
theorem dX9_pickRule_31 : decode cX9_pickRule 31 = .ok (.if_icmp .ne 7, 3) := by decide +kernel
theorem dX9_pickRule_34 : decode cX9_pickRule 34 = .ok (.iconst 1, 1) := by decide +kernel
theorem dX9_pickRule_35 : decode cX9_pickRule 35 = .ok (.goto 4, 3) := by decide +kernel
theorem dX9_pickRule_38 : decode cX9_pickRule 38 = .ok (.iconst 0, 1) := by decide +kernel
theorem dX9_pickRule_39 : decode cX9_pickRule 39 = .ok (.istore 4, 2) := by decide +kernel
theorem dX9_pickRule_41 : decode cX9_pickRule 41 = .ok (.iconst 0, 1) := by decide +kernel
theorem dX9_pickRule_42 : decode cX9_pickRule 42 = .ok (.istore 5, 2) := by decide +kernel
theorem dX9_pickRule_44 : decode cX9_pickRule 44 = .ok (.iload 5, 2) := by decide +kernel
theorem dX9_pickRule_46 : decode cX9_pickRule 46 = .ok (.aload_n 1, 1) := by decide +kernel
theorem dX9_pickRule_47 : decode cX9_pickRule 47 = .ok (.getfield 59, 3) := by decide +kernel
theorem dX9_pickRule_50 : decode cX9_pickRule 50 = .ok (.if_icmp .ge 108, 3) := by decide +kernel
theorem dX9_pickRule_53 : decode cX9_pickRule 53 = .ok (.aload_n 1, 1) := by decide +kernel
theorem dX9_pickRule_54 : decode cX9_pickRule 54 = .ok (.getfield 33, 3) := by decide +kernel
theorem dX9_pickRule_57 : decode cX9_pickRule 57 = .ok (.iload 5, 2) := by decide +kernel
theorem dX9_pickRule_59 : decode cX9_pickRule 59 = .ok (.aaload, 1) := by decide +kernel
theorem dX9_pickRule_60 : decode cX9_pickRule 60 = .ok (.astore 6, 2) := by decide +kernel
theorem dX9_pickRule_62 : decode cX9_pickRule 62 = .ok (.aload 6, 2) := by decide +kernel
theorem dX9_pickRule_64 : decode cX9_pickRule 64 = .ok (.getfield 62, 3) := by decide +kernel
theorem dX9_pickRule_67 : decode cX9_pickRule 67 = .ok (.iconst 3, 1) := by decide +kernel
theorem dX9_pickRule_68 : decode cX9_pickRule 68 = .ok (.if_icmp .ne 27, 3) := by decide +kernel
theorem dX9_pickRule_71 : decode cX9_pickRule 71 = .ok (.aload 6, 2) := by decide +kernel
theorem dX9_pickRule_73 : decode cX9_pickRule 73 = .ok (.getfield 67, 3) := by decide +kernel
theorem dX9_pickRule_76 : decode cX9_pickRule 76 = .ok (.aload_n 0, 1) := by decide +kernel
theorem dX9_pickRule_77 : decode cX9_pickRule 77 = .ok (.getfield 15, 3) := by decide +kernel
theorem dX9_pickRule_80 : decode cX9_pickRule 80 = .ok (.if_icmp .eq 19, 3) := by decide +kernel
theorem dX9_pickRule_83 : decode cX9_pickRule 83 = .ok (.aload_n 1, 1) := by decide +kernel
theorem dX9_pickRule_84 : decode cX9_pickRule 84 = .ok (.aload 6, 2) := by decide +kernel
theorem dX9_pickRule_86 : decode cX9_pickRule 86 = .ok (.getfield 67, 3) := by decide +kernel
theorem dX9_pickRule_89 : decode cX9_pickRule 89 = .ok (.invokevirtual 43, 3) := by decide +kernel
theorem dX9_pickRule_92 : decode cX9_pickRule 92 = .ok (.ifCond .eq 7, 3) := by decide +kernel
theorem dX9_pickRule_95 : decode cX9_pickRule 95 = .ok (.iconst 1, 1) := by decide +kernel
theorem dX9_pickRule_96 : decode cX9_pickRule 96 = .ok (.goto 4, 3) := by decide +kernel
theorem dX9_pickRule_99 : decode cX9_pickRule 99 = .ok (.iconst 0, 1) := by decide +kernel
theorem dX9_pickRule_100 : decode cX9_pickRule 100 = .ok (.istore 7, 2) := by decide +kernel
theorem dX9_pickRule_102 : decode cX9_pickRule 102 = .ok (.iload 7, 2) := by decide +kernel
theorem dX9_pickRule_104 : decode cX9_pickRule 104 = .ok (.ifCond .eq 48, 3) := by decide +kernel
theorem dX9_pickRule_107 : decode cX9_pickRule 107 = .ok (.aload_n 0, 1) := by decide +kernel
theorem dX9_pickRule_108 : decode cX9_pickRule 108 = .ok (.getfield 26, 3) := by decide +kernel
theorem dX9_pickRule_111 : decode cX9_pickRule 111 = .ok (.iload 5, 2) := by decide +kernel
theorem dX9_pickRule_113 : decode cX9_pickRule 113 = .ok (.ishr, 1) := by decide +kernel
theorem dX9_pickRule_114 : decode cX9_pickRule 114 = .ok (.iconst 1, 1) := by decide +kernel
theorem dX9_pickRule_115 : decode cX9_pickRule 115 = .ok (.iand, 1) := by decide +kernel
theorem dX9_pickRule_116 : decode cX9_pickRule 116 = .ok (.ifCond .ne 36, 3) := by decide +kernel
theorem dX9_pickRule_119 : decode cX9_pickRule 119 = .ok (.aload_n 2, 1) := by decide +kernel
theorem dX9_pickRule_120 : decode cX9_pickRule 120 = .ok (.aload_n 1, 1) := by decide +kernel
theorem dX9_pickRule_121 : decode cX9_pickRule 121 = .ok (.aload_n 0, 1) := by decide +kernel
theorem dX9_pickRule_122 : decode cX9_pickRule 122 = .ok (.getfield 15, 3) := by decide +kernel
theorem dX9_pickRule_125 : decode cX9_pickRule 125 = .ok (.aload 6, 2) := by decide +kernel
theorem dX9_pickRule_127 : decode cX9_pickRule 127 = .ok (.getfield 70, 3) := by decide +kernel
theorem dX9_pickRule_130 : decode cX9_pickRule 130 = .ok (.aload 6, 2) := by decide +kernel
theorem dX9_pickRule_132 : decode cX9_pickRule 132 = .ok (.getfield 73, 3) := by decide +kernel
theorem dX9_pickRule_135 : decode cX9_pickRule 135 = .ok (.invokevirtual 76, 3) := by decide +kernel
theorem dX9_pickRule_138 : decode cX9_pickRule 138 = .ok (.ifCond .eq 14, 3) := by decide +kernel
theorem dX9_pickRule_141 : decode cX9_pickRule 141 = .ok (.iload 4, 2) := by decide +kernel
theorem dX9_pickRule_143 : decode cX9_pickRule 143 = .ok (.ifCond .ne 6, 3) := by decide +kernel
theorem dX9_pickRule_146 : decode cX9_pickRule 146 = .ok (.iload 5, 2) := by decide +kernel
theorem dX9_pickRule_148 : decode cX9_pickRule 148 = .ok (.ireturn, 1) := by decide +kernel
theorem dX9_pickRule_149 : decode cX9_pickRule 149 = .ok (.iload 5, 2) := by decide +kernel
theorem dX9_pickRule_151 : decode cX9_pickRule 151 = .ok (.istore_n 3, 1) := by decide +kernel
theorem dX9_pickRule_152 : decode cX9_pickRule 152 = .ok (.iinc 5 1, 3) := by decide +kernel
theorem dX9_pickRule_155 : decode cX9_pickRule 155 = .ok (.goto (-111), 3) := by decide +kernel
theorem dX9_pickRule_158 : decode cX9_pickRule 158 = .ok (.iload_n 3, 1) := by decide +kernel
theorem dX9_pickRule_159 : decode cX9_pickRule 159 = .ok (.ireturn, 1) := by decide +kernel
theorem dX9_meet_0 : decode cX9_meet 0 = .ok (.aload_n 0, 1) := by decide +kernel
theorem dX9_meet_1 : decode cX9_meet 1 = .ok (.getfield 9, 3) := by decide +kernel
theorem dX9_meet_4 : decode cX9_meet 4 = .ok (.iload_n 2, 1) := by decide +kernel
theorem dX9_meet_5 : decode cX9_meet 5 = .ok (.iconst 0, 1) := by decide +kernel
theorem dX9_meet_6 : decode cX9_meet 6 = .ok (.iastore, 1) := by decide +kernel
theorem dX9_meet_7 : decode cX9_meet 7 = .ok (.aload_n 1, 1) := by decide +kernel
theorem dX9_meet_8 : decode cX9_meet 8 = .ok (.getfield 62, 3) := by decide +kernel
theorem dX9_meet_11 : decode cX9_meet 11 = .ok (.tableswitch 112 0 3 #[29, 64, 82, 101], 29) := by decide +kernel
theorem dX9_meet_40 : decode cX9_meet 40 = .ok (.aload_n 0, 1) := by decide +kernel
theorem dX9_meet_41 : decode cX9_meet 41 = .ok (.getfield 9, 3) := by decide +kernel
theorem dX9_meet_44 : decode cX9_meet 44 = .ok (.iload_n 2, 1) := by decide +kernel
theorem dX9_meet_45 : decode cX9_meet 45 = .ok (.aload_n 1, 1) := by decide +kernel
theorem dX9_meet_46 : decode cX9_meet 46 = .ok (.getfield 67, 3) := by decide +kernel
theorem dX9_meet_49 : decode cX9_meet 49 = .ok (.aload_n 0, 1) := by decide +kernel
theorem dX9_meet_50 : decode cX9_meet 50 = .ok (.getfield 19, 3) := by decide +kernel
theorem dX9_meet_53 : decode cX9_meet 53 = .ok (.invokestatic 82, 3) := by decide +kernel
theorem dX9_meet_56 : decode cX9_meet 56 = .ok (.iastore, 1) := by decide +kernel
theorem dX9_meet_57 : decode cX9_meet 57 = .ok (.aload_n 0, 1) := by decide +kernel
theorem dX9_meet_58 : decode cX9_meet 58 = .ok (.dup, 1) := by decide +kernel
theorem dX9_meet_59 : decode cX9_meet 59 = .ok (.getfield 19, 3) := by decide +kernel
theorem dX9_meet_62 : decode cX9_meet 62 = .ok (.aload_n 0, 1) := by decide +kernel
theorem dX9_meet_63 : decode cX9_meet 63 = .ok (.getfield 9, 3) := by decide +kernel
theorem dX9_meet_66 : decode cX9_meet 66 = .ok (.iload_n 2, 1) := by decide +kernel
theorem dX9_meet_67 : decode cX9_meet 67 = .ok (.iaload, 1) := by decide +kernel
theorem dX9_meet_68 : decode cX9_meet 68 = .ok (.isub, 1) := by decide +kernel
theorem dX9_meet_69 : decode cX9_meet 69 = .ok (.putfield 19, 3) := by decide +kernel
theorem dX9_meet_72 : decode cX9_meet 72 = .ok (.goto 56, 3) := by decide +kernel
theorem dX9_meet_75 : decode cX9_meet 75 = .ok (.aload_n 0, 1) := by decide +kernel
theorem dX9_meet_76 : decode cX9_meet 76 = .ok (.dup, 1) := by decide +kernel
theorem dX9_meet_77 : decode cX9_meet 77 = .ok (.getfield 19, 3) := by decide +kernel
theorem dX9_meet_80 : decode cX9_meet 80 = .ok (.aload_n 0, 1) := by decide +kernel
theorem dX9_meet_81 : decode cX9_meet 81 = .ok (.getfield 19, 3) := by decide +kernel
theorem dX9_meet_84 : decode cX9_meet 84 = .ok (.iconst 2, 1) := by decide +kernel
theorem dX9_meet_85 : decode cX9_meet 85 = .ok (.idiv, 1) := by decide +kernel
theorem dX9_meet_86 : decode cX9_meet 86 = .ok (.isub, 1) := by decide +kernel
theorem dX9_meet_87 : decode cX9_meet 87 = .ok (.putfield 19, 3) := by decide +kernel
theorem dX9_meet_90 : decode cX9_meet 90 = .ok (.goto 38, 3) := by decide +kernel
theorem dX9_meet_93 : decode cX9_meet 93 = .ok (.aload_n 0, 1) := by decide +kernel
theorem dX9_meet_94 : decode cX9_meet 94 = .ok (.sipush 999, 3) := by decide +kernel
theorem dX9_meet_97 : decode cX9_meet 97 = .ok (.aload_n 0, 1) := by decide +kernel
theorem dX9_meet_98 : decode cX9_meet 98 = .ok (.getfield 19, 3) := by decide +kernel
theorem dX9_meet_101 : decode cX9_meet 101 = .ok (.iconst 2, 1) := by decide +kernel
theorem dX9_meet_102 : decode cX9_meet 102 = .ok (.imul, 1) := by decide +kernel
theorem dX9_meet_103 : decode cX9_meet 103 = .ok (.invokestatic 82, 3) := by decide +kernel
theorem dX9_meet_106 : decode cX9_meet 106 = .ok (.putfield 19, 3) := by decide +kernel
theorem dX9_meet_109 : decode cX9_meet 109 = .ok (.goto 19, 3) := by decide +kernel
theorem dX9_meet_112 : decode cX9_meet 112 = .ok (.aload_n 0, 1) := by decide +kernel
theorem dX9_meet_113 : decode cX9_meet 113 = .ok (.aload_n 1, 1) := by decide +kernel
theorem dX9_meet_114 : decode cX9_meet 114 = .ok (.getfield 67, 3) := by decide +kernel
theorem dX9_meet_117 : decode cX9_meet 117 = .ok (.putfield 15, 3) := by decide +kernel
theorem dX9_meet_120 : decode cX9_meet 120 = .ok (.goto 8, 3) := by decide +kernel
theorem dX9_meet_123 : decode cX9_meet 123 = .ok (.aload_n 0, 1) := by decide +kernel
theorem dX9_meet_124 : decode cX9_meet 124 = .ok (.iconst 1, 1) := by decide +kernel
theorem dX9_meet_125 : decode cX9_meet 125 = .ok (.putfield 22, 3) := by decide +kernel
theorem dX9_meet_128 : decode cX9_meet 128 = .ok (.return_, 1) := by decide +kernel
end
section
theorem dX10_init_0 : decode cX10_init 0 = .ok (.aload_n 0, 1) := by decide +kernel
theorem dX10_init_1 : decode cX10_init 1 = .ok (.invokespecial 1, 3) := by decide +kernel
theorem dX10_init_4 : decode cX10_init 4 = .ok (.aload_n 0, 1) := by decide +kernel
theorem dX10_init_5 : decode cX10_init 5 = .ok (.new 7, 3) := by decide +kernel
theorem dX10_init_8 : decode cX10_init 8 = .ok (.dup, 1) := by decide +kernel
theorem dX10_init_9 : decode cX10_init 9 = .ok (.invokespecial 9, 3) := by decide +kernel
theorem dX10_init_12 : decode cX10_init 12 = .ok (.putfield 10, 3) := by decide +kernel
theorem dX10_init_15 : decode cX10_init 15 = .ok (.aload_n 0, 1) := by decide +kernel
theorem dX10_init_16 : decode cX10_init 16 = .ok (.aload_n 0, 1) := by decide +kernel
theorem dX10_init_17 : decode cX10_init 17 = .ok (.getfield 10, 3) := by decide +kernel
theorem dX10_init_20 : decode cX10_init 20 = .ok (.getfield 16, 3) := by decide +kernel
theorem dX10_init_23 : decode cX10_init 23 = .ok (.putfield 20, 3) := by decide +kernel
theorem dX10_init_26 : decode cX10_init 26 = .ok (.aload_n 0, 1) := by decide +kernel
theorem dX10_init_27 : decode cX10_init 27 = .ok (.aload_n 0, 1) := by decide +kernel
theorem dX10_init_28 : decode cX10_init 28 = .ok (.getfield 10, 3) := by decide +kernel
theorem dX10_init_31 : decode cX10_init 31 = .ok (.getfield 23, 3) := by decide +kernel
theorem dX10_init_34 : decode cX10_init 34 = .ok (.putfield 27, 3) := by decide +kernel
theorem dX10_init_37 : decode cX10_init 37 = .ok (.aload_n 0, 1) := by decide +kernel
theorem dX10_init_38 : decode cX10_init 38 = .ok (.new 28, 3) := by decide +kernel
theorem dX10_init_41 : decode cX10_init 41 = .ok (.dup, 1) := by decide +kernel
theorem dX10_init_42 : decode cX10_init 42 = .ok (.invokespecial 30, 3) := by decide +kernel
theorem dX10_init_45 : decode cX10_init 45 = .ok (.putfield 31, 3) := by decide +kernel
theorem dX10_init_48 : decode cX10_init 48 = .ok (.aload_n 0, 1) := by decide +kernel
theorem dX10_init_49 : decode cX10_init 49 = .ok (.new 28, 3) := by decide +kernel
theorem dX10_init_52 : decode cX10_init 52 = .ok (.dup, 1) := by decide +kernel
theorem dX10_init_53 : decode cX10_init 53 = .ok (.invokespecial 30, 3) := by decide +kernel
theorem dX10_init_56 : decode cX10_init 56 = .ok (.putfield 34, 3) := by decide +kernel
theorem dX10_init_59 : decode cX10_init 59 = .ok (.aload_n 0, 1) := by decide +kernel
theorem dX10_init_60 : decode cX10_init 60 = .ok (.new 37, 3) := by decide +kernel
theorem dX10_init_63 : decode cX10_init 63 = .ok (.dup, 1) := by decide +kernel
theorem dX10_init_64 : decode cX10_init 64 = .ok (.invokespecial 39, 3) := by decide +kernel
theorem dX10_init_67 : decode cX10_init 67 = .ok (.putfield 40, 3) := by decide +kernel
theorem dX10_init_70 : decode cX10_init 70 = .ok (.aload_n 0, 1) := by decide +kernel
theorem dX10_init_71 : decode cX10_init 71 = .ok (.new 43, 3) := by decide +kernel
theorem dX10_init_74 : decode cX10_init 74 = .ok (.dup, 1) := by decide +kernel
theorem dX10_init_75 : decode cX10_init 75 = .ok (.invokespecial 45, 3) := by decide +kernel
theorem dX10_init_78 : decode cX10_init 78 = .ok (.putfield 46, 3) := by decide +kernel
theorem dX10_init_81 : decode cX10_init 81 = .ok (.aload_n 0, 1) := by decide +kernel
theorem dX10_init_82 : decode cX10_init 82 = .ok (.new 50, 3) := by decide +kernel
theorem dX10_init_85 : decode cX10_init 85 = .ok (.dup, 1) := by decide +kernel
theorem dX10_init_86 : decode cX10_init 86 = .ok (.invokespecial 52, 3) := by decide +kernel
theorem dX10_init_89 : decode cX10_init 89 = .ok (.putfield 53, 3) := by decide +kernel
theorem dX10_init_92 : decode cX10_init 92 = .ok (.aload_n 0, 1) := by decide +kernel
theorem dX10_init_93 : decode cX10_init 93 = .ok (.iconst 4, 1) := by decide +kernel
theorem dX10_init_94 : decode cX10_init 94 = .ok (.anewarray 57, 3) := by decide +kernel
theorem dX10_init_97 : decode cX10_init 97 = .ok (.putfield 59, 3) := by decide +kernel
theorem dX10_init_100 : decode cX10_init 100 = .ok (.aload_n 0, 1) := by decide +kernel
theorem dX10_init_101 : decode cX10_init 101 = .ok (.bipush 40, 2) := by decide +kernel
theorem dX10_init_103 : decode cX10_init 103 = .ok (.newarray .int, 2) := by decide +kernel
theorem dX10_init_105 : decode cX10_init 105 = .ok (.putfield 63, 3) := by decide +kernel
theorem dX10_init_108 : decode cX10_init 108 = .ok (.iconst 0, 1) := by decide +kernel
theorem dX10_init_109 : decode cX10_init 109 = .ok (.istore_n 1, 1) := by decide +kernel
theorem dX10_init_110 : decode cX10_init 110 = .ok (.iload_n 1, 1) := by decide +kernel
theorem dX10_init_111 : decode cX10_init 111 = .ok (.iconst 4, 1) := by decide +kernel
theorem dX10_init_112 : decode cX10_init 112 = .ok (.if_icmp .ge 22, 3) := by decide +kernel
theorem dX10_init_115 : decode cX10_init 115 = .ok (.aload_n 0, 1) := by decide +kernel
theorem dX10_init_116 : decode cX10_init 116 = .ok (.getfield 59, 3) := by decide +kernel
theorem dX10_init_119 : decode cX10_init 119 = .ok (.iload_n 1, 1) := by decide +kernel
theorem dX10_init_120 : decode cX10_init 120 = .ok (.new 57, 3) := by decide +kernel
theorem dX10_init_123 : decode cX10_init 123 = .ok (.dup, 1) := by decide +kernel
theorem dX10_init_124 : decode cX10_init 124 = .ok (.invokespecial 67, 3) := by decide +kernel
theorem dX10_init_127 : decode cX10_init 127 = .ok (.aastore, 1) := by decide +kernel
theorem dX10_init_128 : decode cX10_init 128 = .ok (.iinc 1 1, 3) := by decide +kernel
theorem dX10_init_131 : decode cX10_init 131 = .ok (.goto (-21), 3) := by decide +kernel
theorem dX10_init_134 : decode cX10_init 134 = .ok (.return_, 1) := by decide +kernel
theorem dX10_clear_0 : decode cX10_clear 0 = .ok (.aload_n 0, 1) := by decide +kernel
theorem dX10_clear_1 : decode cX10_clear 1 = .ok (.getfield 20, 3) := by decide +kernel
theorem dX10_clear_4 : decode cX10_clear 4 = .ok (.getfield 68, 3) := by decide +kernel
theorem dX10_clear_7 : decode cX10_clear 7 = .ok (.istore_n 1, 1) := by decide +kernel
theorem dX10_clear_8 : decode cX10_clear 8 = .ok (.aload_n 0, 1) := by decide +kernel
theorem dX10_clear_9 : decode cX10_clear 9 = .ok (.getfield 20, 3) := by decide +kernel
theorem dX10_clear_12 : decode cX10_clear 12 = .ok (.invokevirtual 72, 3) := by decide +kernel
theorem dX10_clear_15 : decode cX10_clear 15 = .ok (.aload_n 0, 1) := by decide +kernel
theorem dX10_clear_16 : decode cX10_clear 16 = .ok (.iconst 0, 1) := by decide +kernel
theorem dX10_clear_17 : decode cX10_clear 17 = .ok (.putfield 75, 3) := by decide +kernel
theorem dX10_clear_20 : decode cX10_clear 20 = .ok (.aload_n 0, 1) := by decide +kernel
theorem dX10_clear_21 : decode cX10_clear 21 = .ok (.getfield 27, 3) := by decide +kernel
theorem dX10_clear_24 : decode cX10_clear 24 = .ok (.aload_n 0, 1) := by decide +kernel
theorem dX10_clear_25 : decode cX10_clear 25 = .ok (.getfield 20, 3) := by decide +kernel
theorem dX10_clear_28 : decode cX10_clear 28 = .ok (.iconst 5, 1) := by decide +kernel
theorem dX10_clear_29 : decode cX10_clear 29 = .ok (.invokevirtual 78, 3) := by decide +kernel
theorem dX10_clear_32 : decode cX10_clear 32 = .ok (.iload_n 1, 1) := by decide +kernel
theorem dX10_clear_33 : decode cX10_clear 33 = .ok (.ireturn, 1) := by decide +kernel
theorem dX10_thing_0 : decode cX10_thing 0 = .ok (.iload_n 1, 1) := by decide +kernel
theorem dX10_thing_1 : decode cX10_thing 1 = .ok (.iconst 0, 1) := by decide +kernel
theorem dX10_thing_2 : decode cX10_thing 2 = .ok (.iconst 1, 1) := by decide +kernel
theorem dX10_thing_3 : decode cX10_thing 3 = .ok (.invokestatic 82, 3) := by decide +kernel
theorem dX10_thing_6 : decode cX10_thing 6 = .ok (.ifCond .eq 12, 3) := by decide +kernel
theorem dX10_thing_9 : decode cX10_thing 9 = .ok (.iload_n 2, 1) := by decide +kernel
theorem dX10_thing_10 : decode cX10_thing 10 = .ok (.iconst 0, 1) := by decide +kernel
theorem dX10_thing_11 : decode cX10_thing 11 = .ok (.iconst 5, 1) := by decide +kernel
theorem dX10_thing_12 : decode cX10_thing 12 = .ok (.invokestatic 82, 3) := by decide +kernel
theorem dX10_thing_15 : decode cX10_thing 15 = .ok (.ifCond .ne 6, 3) := by decide +kernel
theorem dX10_thing_18 : decode cX10_thing 18 = .ok (.bipush (-2), 2) := by decide +kernel
theorem dX10_thing_20 : decode cX10_thing 20 = .ok (.ireturn, 1) := by decide +kernel
theorem dX10_thing_21 : decode cX10_thing 21 = .ok (.iload_n 3, 1) := by decide +kernel
theorem dX10_thing_22 : decode cX10_thing 22 = .ok (.iconst 0, 1) := by decide +kernel
theorem dX10_thing_23 : decode cX10_thing 23 = .ok (.bipush 99, 2) := by decide +kernel
theorem dX10_thing_25 : decode cX10_thing 25 = .ok (.invokestatic 82, 3) := by decide +kernel
theorem dX10_thing_28 : decode cX10_thing 28 = .ok (.ifCond .eq 14, 3) := by decide +kernel
theorem dX10_thing_31 : decode cX10_thing 31 = .ok (.iload 4, 2) := by decide +kernel
theorem dX10_thing_33 : decode cX10_thing 33 = .ok (.iconst 0, 1) := by decide +kernel
theorem dX10_thing_34 : decode cX10_thing 34 = .ok (.bipush 99, 2) := by decide +kernel
theorem dX10_thing_36 : decode cX10_thing 36 = .ok (.invokestatic 82, 3) := by decide +kernel
theorem dX10_thing_39 : decode cX10_thing 39 = .ok (.ifCond .ne 6, 3) := by decide +kernel
theorem dX10_thing_42 : decode cX10_thing 42 = .ok (.bipush (-2), 2) := by decide +kernel
theorem dX10_thing_44 : decode cX10_thing 44 = .ok (.ireturn, 1) := by decide +kernel
theorem dX10_thing_45 : decode cX10_thing 45 = .ok (.aload_n 0, 1) := by decide +kernel
theorem dX10_thing_46 : decode cX10_thing 46 = .ok (.getfield 20, 3) := by decide +kernel
theorem dX10_thing_49 : decode cX10_thing 49 = .ok (.getfield 68, 3) := by decide +kernel
theorem dX10_thing_52 : decode cX10_thing 52 = .ok (.bipush 8, 2) := by decide +kernel
theorem dX10_thing_54 : decode cX10_thing 54 = .ok (.if_icmp .lt 6, 3) := by decide +kernel
theorem dX10_thing_57 : decode cX10_thing 57 = .ok (.bipush (-4), 2) := by decide +kernel
theorem dX10_thing_59 : decode cX10_thing 59 = .ok (.ireturn, 1) := by decide +kernel
theorem dX10_thing_60 : decode cX10_thing 60 = .ok (.aload_n 0, 1) := by decide +kernel
theorem dX10_thing_61 : decode cX10_thing 61 = .ok (.getfield 20, 3) := by decide +kernel
theorem dX10_thing_64 : decode cX10_thing 64 = .ok (.getfield 68, 3) := by decide +kernel
theorem dX10_thing_67 : decode cX10_thing 67 = .ok (.istore 5, 2) := by decide +kernel
theorem dX10_thing_69 : decode cX10_thing 69 = .ok (.aload_n 0, 1) := by decide +kernel
theorem dX10_thing_70 : decode cX10_thing 70 = .ok (.getfield 20, 3) := by decide +kernel
theorem dX10_thing_73 : decode cX10_thing 73 = .ok (.iload_n 1, 1) := by decide +kernel
theorem dX10_thing_74 : decode cX10_thing 74 = .ok (.iload_n 2, 1) := by decide +kernel
theorem dX10_thing_75 : decode cX10_thing 75 = .ok (.iload_n 3, 1) := by decide +kernel
theorem dX10_thing_76 : decode cX10_thing 76 = .ok (.iload 4, 2) := by decide +kernel
theorem dX10_thing_78 : decode cX10_thing 78 = .ok (.invokevirtual 86, 3) := by decide +kernel
theorem dX10_thing_81 : decode cX10_thing 81 = .ok (.aload_n 0, 1) := by decide +kernel
theorem dX10_thing_82 : decode cX10_thing 82 = .ok (.getfield 10, 3) := by decide +kernel
theorem dX10_thing_85 : decode cX10_thing 85 = .ok (.iconst 0, 1) := by decide +kernel
theorem dX10_thing_86 : decode cX10_thing 86 = .ok (.invokevirtual 90, 3) := by decide +kernel
theorem dX10_thing_89 : decode cX10_thing 89 = .ok (.iload 5, 2) := by decide +kernel
theorem dX10_thing_91 : decode cX10_thing 91 = .ok (.ireturn, 1) := by decide +kernel
theorem dX10_of_0 : decode cX10_of 0 = .ok (.aload_n 0, 1) := by decide +kernel
theorem dX10_of_1 : decode cX10_of 1 = .ok (.getfield 20, 3) := by decide +kernel
theorem dX10_of_4 : decode cX10_of 4 = .ok (.iload_n 1, 1) := by decide +kernel
theorem dX10_of_5 : decode cX10_of 5 = .ok (.invokevirtual 94, 3) := by decide +kernel
theorem dX10_of_8 : decode cX10_of 8 = .ok (.ifCond .ne 6, 3) := by decide +kernel
theorem dX10_of_11 : decode cX10_of 11 = .ok (.bipush (-2), 2) := by decide +kernel
theorem dX10_of_13 : decode cX10_of 13 = .ok (.ireturn, 1) := by decide +kernel
theorem dX10_of_14 : decode cX10_of 14 = .ok (.aload_n 0, 1) := by decide +kernel
theorem dX10_of_15 : decode cX10_of 15 = .ok (.getfield 20, 3) := by decide +kernel
theorem dX10_of_18 : decode cX10_of 18 = .ok (.getfield 98, 3) := by decide +kernel
theorem dX10_of_21 : decode cX10_of 21 = .ok (.iload_n 1, 1) := by decide +kernel
theorem dX10_of_22 : decode cX10_of 22 = .ok (.aaload, 1) := by decide +kernel
theorem dX10_of_23 : decode cX10_of 23 = .ok (.astore_n 3, 1) := by decide +kernel
theorem dX10_of_24 : decode cX10_of 24 = .ok (.iload_n 2, 1) := by decide +kernel
theorem dX10_of_25 : decode cX10_of 25 = .ok (.tableswitch 77 0 5 #[39, 44, 49, 54, 59, 64], 39) := by decide +kernel
theorem dX10_of_64 : decode cX10_of 64 = .ok (.aload_n 3, 1) := by decide +kernel
theorem dX10_of_65 : decode cX10_of 65 = .ok (.getfield 102, 3) := by decide +kernel
theorem dX10_of_68 : decode cX10_of 68 = .ok (.ireturn, 1) := by decide +kernel
theorem dX10_of_69 : decode cX10_of 69 = .ok (.aload_n 3, 1) := by decide +kernel
theorem dX10_of_70 : decode cX10_of 70 = .ok (.getfield 107, 3) := by decide +kernel
theorem dX10_of_73 : decode cX10_of 73 = .ok (.ireturn, 1) := by decide +kernel
theorem dX10_of_74 : decode cX10_of 74 = .ok (.aload_n 3, 1) := by decide +kernel
theorem dX10_of_75 : decode cX10_of 75 = .ok (.getfield 110, 3) := by decide +kernel
theorem dX10_of_78 : decode cX10_of 78 = .ok (.ireturn, 1) := by decide +kernel
theorem dX10_of_79 : decode cX10_of 79 = .ok (.aload_n 3, 1) := by decide +kernel
theorem dX10_of_80 : decode cX10_of 80 = .ok (.getfield 113, 3) := by decide +kernel
theorem dX10_of_83 : decode cX10_of 83 = .ok (.ireturn, 1) := by decide +kernel
theorem dX10_of_84 : decode cX10_of 84 = .ok (.aload_n 3, 1) := by decide +kernel
theorem dX10_of_85 : decode cX10_of 85 = .ok (.getfield 116, 3) := by decide +kernel
theorem dX10_of_88 : decode cX10_of 88 = .ok (.ireturn, 1) := by decide +kernel
theorem dX10_of_89 : decode cX10_of 89 = .ok (.aload_n 3, 1) := by decide +kernel
theorem dX10_of_90 : decode cX10_of 90 = .ok (.getfield 119, 3) := by decide +kernel
theorem dX10_of_93 : decode cX10_of 93 = .ok (.ifCond .eq 7, 3) := by decide +kernel
theorem dX10_of_96 : decode cX10_of 96 = .ok (.iconst 1, 1) := by decide +kernel
theorem dX10_of_97 : decode cX10_of 97 = .ok (.goto 4, 3) := by decide +kernel
theorem dX10_of_100 : decode cX10_of 100 = .ok (.iconst 0, 1) := by decide +kernel
theorem dX10_of_101 : decode cX10_of 101 = .ok (.ireturn, 1) := by decide +kernel
theorem dX10_of_102 : decode cX10_of 102 = .ok (.bipush (-2), 2) := by decide +kernel
theorem dX10_of_104 : decode cX10_of 104 = .ok (.ireturn, 1) := by decide +kernel
theorem dX10_now_0 : decode cX10_now 0 = .ok (.aload_n 0, 1) := by decide +kernel
theorem dX10_now_1 : decode cX10_now 1 = .ok (.getfield 20, 3) := by decide +kernel
theorem dX10_now_4 : decode cX10_now 4 = .ok (.iload_n 1, 1) := by decide +kernel
theorem dX10_now_5 : decode cX10_now 5 = .ok (.invokevirtual 94, 3) := by decide +kernel
theorem dX10_now_8 : decode cX10_now 8 = .ok (.ifCond .ne 6, 3) := by decide +kernel
theorem dX10_now_11 : decode cX10_now 11 = .ok (.bipush (-2), 2) := by decide +kernel
theorem dX10_now_13 : decode cX10_now 13 = .ok (.ireturn, 1) := by decide +kernel
theorem dX10_now_14 : decode cX10_now 14 = .ok (.aload_n 0, 1) := by decide +kernel
theorem dX10_now_15 : decode cX10_now 15 = .ok (.getfield 20, 3) := by decide +kernel
theorem dX10_now_18 : decode cX10_now 18 = .ok (.getfield 98, 3) := by decide +kernel
theorem dX10_now_21 : decode cX10_now 21 = .ok (.iload_n 1, 1) := by decide +kernel
theorem dX10_now_22 : decode cX10_now 22 = .ok (.aaload, 1) := by decide +kernel
theorem dX10_now_23 : decode cX10_now 23 = .ok (.astore_n 3, 1) := by decide +kernel
theorem dX10_now_24 : decode cX10_now 24 = .ok (.iload_n 2, 1) := by decide +kernel
theorem dX10_now_25 : decode cX10_now 25 = .ok (.tableswitch 116 0 3 #[31, 55, 79, 92], 31) := by decide +kernel
theorem dX10_now_56 : decode cX10_now 56 = .ok (.aload_n 3, 1) := by decide +kernel
theorem dX10_now_57 : decode cX10_now 57 = .ok (.getfield 119, 3) := by decide +kernel
theorem dX10_now_60 : decode cX10_now 60 = .ok (.ifCond .eq 15, 3) := by decide +kernel
theorem dX10_now_63 : decode cX10_now 63 = .ok (.aload_n 0, 1) := by decide +kernel
theorem dX10_now_64 : decode cX10_now 64 = .ok (.getfield 27, 3) := by decide +kernel
theorem dX10_now_67 : decode cX10_now 67 = .ok (.getfield 123, 3) := by decide +kernel
theorem dX10_now_70 : decode cX10_now 70 = .ok (.iload_n 1, 1) := by decide +kernel
theorem dX10_now_71 : decode cX10_now 71 = .ok (.iaload, 1) := by decide +kernel
theorem dX10_now_72 : decode cX10_now 72 = .ok (.goto 7, 3) := by decide +kernel
theorem dX10_now_75 : decode cX10_now 75 = .ok (.aload_n 3, 1) := by decide +kernel
theorem dX10_now_76 : decode cX10_now 76 = .ok (.getfield 125, 3) := by decide +kernel
theorem dX10_now_79 : decode cX10_now 79 = .ok (.ireturn, 1) := by decide +kernel
theorem dX10_now_80 : decode cX10_now 80 = .ok (.aload_n 3, 1) := by decide +kernel
theorem dX10_now_81 : decode cX10_now 81 = .ok (.getfield 119, 3) := by decide +kernel
theorem dX10_now_84 : decode cX10_now 84 = .ok (.ifCond .eq 15, 3) := by decide +kernel
theorem dX10_now_87 : decode cX10_now 87 = .ok (.aload_n 0, 1) := by decide +kernel
theorem dX10_now_88 : decode cX10_now 88 = .ok (.getfield 27, 3) := by decide +kernel
theorem dX10_now_91 : decode cX10_now 91 = .ok (.getfield 128, 3) := by decide +kernel
theorem dX10_now_94 : decode cX10_now 94 = .ok (.iload_n 1, 1) := by decide +kernel
theorem dX10_now_95 : decode cX10_now 95 = .ok (.iaload, 1) := by decide +kernel
theorem dX10_now_96 : decode cX10_now 96 = .ok (.goto 7, 3) := by decide +kernel
theorem dX10_now_99 : decode cX10_now 99 = .ok (.aload_n 3, 1) := by decide +kernel
theorem dX10_now_100 : decode cX10_now 100 = .ok (.getfield 131, 3) := by decide +kernel
theorem dX10_now_103 : decode cX10_now 103 = .ok (.ireturn, 1) := by decide +kernel
theorem dX10_now_104 : decode cX10_now 104 = .ok (.aload_n 0, 1) := by decide +kernel
theorem dX10_now_105 : decode cX10_now 105 = .ok (.getfield 27, 3) := by decide +kernel
theorem dX10_now_108 : decode cX10_now 108 = .ok (.aload_n 0, 1) := by decide +kernel
theorem dX10_now_109 : decode cX10_now 109 = .ok (.getfield 20, 3) := by decide +kernel
theorem dX10_now_112 : decode cX10_now 112 = .ok (.iload_n 1, 1) := by decide +kernel
theorem dX10_now_113 : decode cX10_now 113 = .ok (.invokevirtual 134, 3) := by decide +kernel
theorem dX10_now_116 : decode cX10_now 116 = .ok (.ireturn, 1) := by decide +kernel
theorem dX10_now_117 : decode cX10_now 117 = .ok (.aload_n 3, 1) := by decide +kernel
theorem dX10_now_118 : decode cX10_now 118 = .ok (.getfield 119, 3) := by decide +kernel
theorem dX10_now_121 : decode cX10_now 121 = .ok (.ifCond .eq 15, 3) := by decide +kernel
theorem dX10_now_124 : decode cX10_now 124 = .ok (.aload_n 0, 1) := by decide +kernel
theorem dX10_now_125 : decode cX10_now 125 = .ok (.getfield 27, 3) := by decide +kernel
theorem dX10_now_128 : decode cX10_now 128 = .ok (.getfield 138, 3) := by decide +kernel
theorem dX10_now_131 : decode cX10_now 131 = .ok (.iload_n 1, 1) := by decide +kernel
theorem dX10_now_132 : decode cX10_now 132 = .ok (.iaload, 1) := by decide +kernel
theorem dX10_now_133 : decode cX10_now 133 = .ok (.goto 7, 3) := by decide +kernel
theorem dX10_now_136 : decode cX10_now 136 = .ok (.aload_n 3, 1) := by decide +kernel
theorem dX10_now_137 : decode cX10_now 137 = .ok (.getfield 140, 3) := by decide +kernel
theorem dX10_now_140 : decode cX10_now 140 = .ok (.ireturn, 1) := by decide +kernel
theorem dX10_now_141 : decode cX10_now 141 = .ok (.bipush (-2), 2) := by decide +kernel
theorem dX10_now_143 : decode cX10_now 143 = .ok (.ireturn, 1) := by decide +kernel
theorem dX10_set_0 : decode cX10_set 0 = .ok (.aload_n 0, 1) := by decide +kernel
theorem dX10_set_1 : decode cX10_set 1 = .ok (.getfield 20, 3) := by decide +kernel
theorem dX10_set_4 : decode cX10_set 4 = .ok (.iload_n 1, 1) := by decide +kernel
theorem dX10_set_5 : decode cX10_set 5 = .ok (.invokevirtual 94, 3) := by decide +kernel
theorem dX10_set_8 : decode cX10_set 8 = .ok (.ifCond .eq 11, 3) := by decide +kernel
theorem dX10_set_11 : decode cX10_set 11 = .ok (.iload_n 2, 1) := by decide +kernel
theorem dX10_set_12 : decode cX10_set 12 = .ok (.iload_n 3, 1) := by decide +kernel
theorem dX10_set_13 : decode cX10_set 13 = .ok (.invokestatic 143, 3) := by decide +kernel
theorem dX10_set_16 : decode cX10_set 16 = .ok (.ifCond .ne 6, 3) := by decide +kernel
theorem dX10_set_19 : decode cX10_set 19 = .ok (.bipush (-2), 2) := by decide +kernel
theorem dX10_set_21 : decode cX10_set 21 = .ok (.ireturn, 1) := by decide +kernel
theorem dX10_set_22 : decode cX10_set 22 = .ok (.aload_n 0, 1) := by decide +kernel
theorem dX10_set_23 : decode cX10_set 23 = .ok (.getfield 20, 3) := by decide +kernel
theorem dX10_set_26 : decode cX10_set 26 = .ok (.getfield 98, 3) := by decide +kernel
theorem dX10_set_29 : decode cX10_set 29 = .ok (.iload_n 1, 1) := by decide +kernel
theorem dX10_set_30 : decode cX10_set 30 = .ok (.aaload, 1) := by decide +kernel
theorem dX10_set_31 : decode cX10_set 31 = .ok (.astore 4, 2) := by decide +kernel
theorem dX10_set_33 : decode cX10_set 33 = .ok (.aload 4, 2) := by decide +kernel
theorem dX10_set_35 : decode cX10_set 35 = .ok (.getfield 119, 3) := by decide +kernel
theorem dX10_set_38 : decode cX10_set 38 = .ok (.ifCond .ne 6, 3) := by decide +kernel
theorem dX10_set_41 : decode cX10_set 41 = .ok (.bipush (-3), 2) := by decide +kernel
theorem dX10_set_43 : decode cX10_set 43 = .ok (.ireturn, 1) := by decide +kernel
theorem dX10_set_44 : decode cX10_set 44 = .ok (.aload 4, 2) := by decide +kernel
theorem dX10_set_46 : decode cX10_set 46 = .ok (.iload_n 2, 1) := by decide +kernel
theorem dX10_set_47 : decode cX10_set 47 = .ok (.iload_n 3, 1) := by decide +kernel
theorem dX10_set_48 : decode cX10_set 48 = .ok (.invokevirtual 147, 3) := by decide +kernel
theorem dX10_set_51 : decode cX10_set 51 = .ok (.istore 5, 2) := by decide +kernel
theorem dX10_set_53 : decode cX10_set 53 = .ok (.aload_n 0, 1) := by decide +kernel
theorem dX10_set_54 : decode cX10_set 54 = .ok (.getfield 10, 3) := by decide +kernel
theorem dX10_set_57 : decode cX10_set 57 = .ok (.iconst 0, 1) := by decide +kernel
theorem dX10_set_58 : decode cX10_set 58 = .ok (.invokevirtual 90, 3) := by decide +kernel
theorem dX10_set_61 : decode cX10_set 61 = .ok (.iload 5, 2) := by decide +kernel
theorem dX10_set_63 : decode cX10_set 63 = .ok (.ireturn, 1) := by decide +kernel
theorem dX10_scope_0 : decode cX10_scope 0 = .ok (.iload_n 1, 1) := by decide +kernel
theorem dX10_scope_1 : decode cX10_scope 1 = .ok (.iload_n 2, 1) := by decide +kernel
theorem dX10_scope_2 : decode cX10_scope 2 = .ok (.invokestatic 151, 3) := by decide +kernel
theorem dX10_scope_5 : decode cX10_scope 5 = .ok (.ifCond .ne 6, 3) := by decide +kernel
theorem dX10_scope_8 : decode cX10_scope 8 = .ok (.bipush (-2), 2) := by decide +kernel
theorem dX10_scope_10 : decode cX10_scope 10 = .ok (.ireturn, 1) := by decide +kernel
theorem dX10_scope_11 : decode cX10_scope 11 = .ok (.iconst 0, 1) := by decide +kernel
theorem dX10_scope_12 : decode cX10_scope 12 = .ok (.istore_n 3, 1) := by decide +kernel
theorem dX10_scope_13 : decode cX10_scope 13 = .ok (.iconst 0, 1) := by decide +kernel
theorem dX10_scope_14 : decode cX10_scope 14 = .ok (.istore 4, 2) := by decide +kernel
theorem dX10_scope_16 : decode cX10_scope 16 = .ok (.iload 4, 2) := by decide +kernel
theorem dX10_scope_18 : decode cX10_scope 18 = .ok (.aload_n 0, 1) := by decide +kernel
theorem dX10_scope_19 : decode cX10_scope 19 = .ok (.getfield 20, 3) := by decide +kernel
theorem dX10_scope_22 : decode cX10_scope 22 = .ok (.getfield 68, 3) := by decide +kernel
theorem dX10_scope_25 : decode cX10_scope 25 = .ok (.if_icmp .ge 34, 3) := by decide +kernel
theorem dX10_scope_28 : decode cX10_scope 28 = .ok (.aload_n 0, 1) := by decide +kernel
theorem dX10_scope_29 : decode cX10_scope 29 = .ok (.getfield 27, 3) := by decide +kernel
theorem dX10_scope_32 : decode cX10_scope 32 = .ok (.aload_n 0, 1) := by decide +kernel
theorem dX10_scope_33 : decode cX10_scope 33 = .ok (.getfield 20, 3) := by decide +kernel
theorem dX10_scope_36 : decode cX10_scope 36 = .ok (.iload 4, 2) := by decide +kernel
theorem dX10_scope_38 : decode cX10_scope 38 = .ok (.iload_n 1, 1) := by decide +kernel
theorem dX10_scope_39 : decode cX10_scope 39 = .ok (.iload_n 2, 1) := by decide +kernel
theorem dX10_scope_40 : decode cX10_scope 40 = .ok (.invokevirtual 154, 3) := by decide +kernel
theorem dX10_scope_43 : decode cX10_scope 43 = .ok (.ifCond .eq 10, 3) := by decide +kernel
theorem dX10_scope_46 : decode cX10_scope 46 = .ok (.iload_n 3, 1) := by decide +kernel
theorem dX10_scope_47 : decode cX10_scope 47 = .ok (.iconst 1, 1) := by decide +kernel
theorem dX10_scope_48 : decode cX10_scope 48 = .ok (.iload 4, 2) := by decide +kernel
theorem dX10_scope_50 : decode cX10_scope 50 = .ok (.ishl, 1) := by decide +kernel
theorem dX10_scope_51 : decode cX10_scope 51 = .ok (.ior, 1) := by decide +kernel
theorem dX10_scope_52 : decode cX10_scope 52 = .ok (.istore_n 3, 1) := by decide +kernel
theorem dX10_scope_53 : decode cX10_scope 53 = .ok (.iinc 4 1, 3) := by decide +kernel
theorem dX10_scope_56 : decode cX10_scope 56 = .ok (.goto (-40), 3) := by decide +kernel
theorem dX10_scope_59 : decode cX10_scope 59 = .ok (.iload_n 3, 1) := by decide +kernel
theorem dX10_scope_60 : decode cX10_scope 60 = .ok (.ireturn, 1) := by decide +kernel
theorem dX10_effect_0 : decode cX10_effect 0 = .ok (.iload_n 1, 1) := by decide +kernel
theorem dX10_effect_1 : decode cX10_effect 1 = .ok (.iconst 0, 1) := by decide +kernel
theorem dX10_effect_2 : decode cX10_effect 2 = .ok (.iconst 5, 1) := by decide +kernel
theorem dX10_effect_3 : decode cX10_effect 3 = .ok (.invokestatic 82, 3) := by decide +kernel
theorem dX10_effect_6 : decode cX10_effect 6 = .ok (.ifCond .eq 11, 3) := by decide +kernel
theorem dX10_effect_9 : decode cX10_effect 9 = .ok (.iload_n 2, 1) := by decide +kernel
theorem dX10_effect_10 : decode cX10_effect 10 = .ok (.iload_n 3, 1) := by decide +kernel
theorem dX10_effect_11 : decode cX10_effect 11 = .ok (.invokestatic 151, 3) := by decide +kernel
theorem dX10_effect_14 : decode cX10_effect 14 = .ok (.ifCond .ne 6, 3) := by decide +kernel
theorem dX10_effect_17 : decode cX10_effect 17 = .ok (.bipush (-2), 2) := by decide +kernel
theorem dX10_effect_19 : decode cX10_effect 19 = .ok (.ireturn, 1) := by decide +kernel
theorem dX10_effect_20 : decode cX10_effect 20 = .ok (.iload_n 1, 1) := by decide +kernel
theorem dX10_effect_21 : decode cX10_effect 21 = .ok (.iload 4, 2) := by decide +kernel
theorem dX10_effect_23 : decode cX10_effect 23 = .ok (.invokestatic 158, 3) := by decide +kernel
theorem dX10_effect_26 : decode cX10_effect 26 = .ok (.ifCond .eq 15, 3) := by decide +kernel
theorem dX10_effect_29 : decode cX10_effect 29 = .ok (.iload 5, 2) := by decide +kernel
theorem dX10_effect_31 : decode cX10_effect 31 = .ok (.bipush (-9), 2) := by decide +kernel
theorem dX10_effect_33 : decode cX10_effect 33 = .ok (.bipush 9, 2) := by decide +kernel
theorem dX10_effect_35 : decode cX10_effect 35 = .ok (.invokestatic 82, 3) := by decide +kernel
theorem dX10_effect_38 : decode cX10_effect 38 = .ok (.ifCond .ne 6, 3) := by decide +kernel
theorem dX10_effect_41 : decode cX10_effect 41 = .ok (.bipush (-2), 2) := by decide +kernel
theorem dX10_effect_43 : decode cX10_effect 43 = .ok (.ireturn, 1) := by decide +kernel
theorem dX10_effect_44 : decode cX10_effect 44 = .ok (.aload_n 0, 1) := by decide +kernel
theorem dX10_effect_45 : decode cX10_effect 45 = .ok (.getfield 20, 3) := by decide +kernel
theorem dX10_effect_48 : decode cX10_effect 48 = .ok (.getfield 161, 3) := by decide +kernel
theorem dX10_effect_51 : decode cX10_effect 51 = .ok (.bipush 10, 2) := by decide +kernel
theorem dX10_effect_53 : decode cX10_effect 53 = .ok (.if_icmp .lt 6, 3) := by decide +kernel
theorem dX10_effect_56 : decode cX10_effect 56 = .ok (.bipush (-4), 2) := by decide +kernel
theorem dX10_effect_58 : decode cX10_effect 58 = .ok (.ireturn, 1) := by decide +kernel
theorem dX10_effect_59 : decode cX10_effect 59 = .ok (.aload_n 0, 1) := by decide +kernel
theorem dX10_effect_60 : decode cX10_effect 60 = .ok (.getfield 20, 3) := by decide +kernel
theorem dX10_effect_63 : decode cX10_effect 63 = .ok (.getfield 161, 3) := by decide +kernel
theorem dX10_effect_66 : decode cX10_effect 66 = .ok (.istore 6, 2) := by decide +kernel
theorem dX10_effect_68 : decode cX10_effect 68 = .ok (.aload_n 0, 1) := by decide +kernel
theorem dX10_effect_69 : decode cX10_effect 69 = .ok (.getfield 20, 3) := by decide +kernel
theorem dX10_effect_72 : decode cX10_effect 72 = .ok (.getfield 164, 3) := by decide +kernel
theorem dX10_effect_75 : decode cX10_effect 75 = .ok (.iload 6, 2) := by decide +kernel
theorem dX10_effect_77 : decode cX10_effect 77 = .ok (.aaload, 1) := by decide +kernel
theorem dX10_effect_78 : decode cX10_effect 78 = .ok (.iload_n 1, 1) := by decide +kernel
theorem dX10_effect_79 : decode cX10_effect 79 = .ok (.iload_n 2, 1) := by decide +kernel
theorem dX10_effect_80 : decode cX10_effect 80 = .ok (.iload_n 3, 1) := by decide +kernel
theorem dX10_effect_81 : decode cX10_effect 81 = .ok (.iload 4, 2) := by decide +kernel
theorem dX10_effect_83 : decode cX10_effect 83 = .ok (.iload 5, 2) := by decide +kernel
theorem dX10_effect_85 : decode cX10_effect 85 = .ok (.invokevirtual 168, 3) := by decide +kernel
theorem dX10_effect_88 : decode cX10_effect 88 = .ok (.aload_n 0, 1) := by decide +kernel
theorem dX10_effect_89 : decode cX10_effect 89 = .ok (.getfield 20, 3) := by decide +kernel
theorem dX10_effect_92 : decode cX10_effect 92 = .ok (.dup, 1) := by decide +kernel
theorem dX10_effect_93 : decode cX10_effect 93 = .ok (.getfield 161, 3) := by decide +kernel
theorem dX10_effect_96 : decode cX10_effect 96 = .ok (.iconst 1, 1) := by decide +kernel
theorem dX10_effect_97 : decode cX10_effect 97 = .ok (.iadd, 1) := by decide +kernel
theorem dX10_effect_98 : decode cX10_effect 98 = .ok (.putfield 161, 3) := by decide +kernel
theorem dX10_effect_101 : decode cX10_effect 101 = .ok (.aload_n 0, 1) := by decide +kernel
theorem dX10_effect_102 : decode cX10_effect 102 = .ok (.getfield 10, 3) := by decide +kernel
theorem dX10_effect_105 : decode cX10_effect 105 = .ok (.iconst 0, 1) := by decide +kernel
theorem dX10_effect_106 : decode cX10_effect 106 = .ok (.invokevirtual 90, 3) := by decide +kernel
theorem dX10_effect_109 : decode cX10_effect 109 = .ok (.iload 6, 2) := by decide +kernel
theorem dX10_effect_111 : decode cX10_effect 111 = .ok (.ireturn, 1) := by decide +kernel
theorem dX10_source_0 : decode cX10_source 0 = .ok (.aload_n 0, 1) := by decide +kernel
theorem dX10_source_1 : decode cX10_source 1 = .ok (.getfield 20, 3) := by decide +kernel
theorem dX10_source_4 : decode cX10_source 4 = .ok (.iload_n 1, 1) := by decide +kernel
theorem dX10_source_5 : decode cX10_source 5 = .ok (.invokevirtual 174, 3) := by decide +kernel
theorem dX10_source_8 : decode cX10_source 8 = .ok (.ifCond .eq 19, 3) := by decide +kernel
theorem dX10_source_11 : decode cX10_source 11 = .ok (.iload_n 2, 1) := by decide +kernel
theorem dX10_source_12 : decode cX10_source 12 = .ok (.iconst (-1), 1) := by decide +kernel
theorem dX10_source_13 : decode cX10_source 13 = .ok (.if_icmp .eq 17, 3) := by decide +kernel
theorem dX10_source_16 : decode cX10_source 16 = .ok (.aload_n 0, 1) := by decide +kernel
theorem dX10_source_17 : decode cX10_source 17 = .ok (.getfield 20, 3) := by decide +kernel
theorem dX10_source_20 : decode cX10_source 20 = .ok (.iload_n 2, 1) := by decide +kernel
theorem dX10_source_21 : decode cX10_source 21 = .ok (.invokevirtual 94, 3) := by decide +kernel
theorem dX10_source_24 : decode cX10_source 24 = .ok (.ifCond .ne 6, 3) := by decide +kernel
theorem dX10_source_27 : decode cX10_source 27 = .ok (.bipush (-2), 2) := by decide +kernel
theorem dX10_source_29 : decode cX10_source 29 = .ok (.ireturn, 1) := by decide +kernel
theorem dX10_source_30 : decode cX10_source 30 = .ok (.aload_n 0, 1) := by decide +kernel
theorem dX10_source_31 : decode cX10_source 31 = .ok (.getfield 20, 3) := by decide +kernel
theorem dX10_source_34 : decode cX10_source 34 = .ok (.getfield 164, 3) := by decide +kernel
theorem dX10_source_37 : decode cX10_source 37 = .ok (.iload_n 1, 1) := by decide +kernel
theorem dX10_source_38 : decode cX10_source 38 = .ok (.aaload, 1) := by decide +kernel
theorem dX10_source_39 : decode cX10_source 39 = .ok (.getfield 177, 3) := by decide +kernel
theorem dX10_source_42 : decode cX10_source 42 = .ok (.istore_n 3, 1) := by decide +kernel
theorem dX10_source_43 : decode cX10_source 43 = .ok (.aload_n 0, 1) := by decide +kernel
theorem dX10_source_44 : decode cX10_source 44 = .ok (.getfield 20, 3) := by decide +kernel
theorem dX10_source_47 : decode cX10_source 47 = .ok (.getfield 164, 3) := by decide +kernel
theorem dX10_source_50 : decode cX10_source 50 = .ok (.iload_n 1, 1) := by decide +kernel
theorem dX10_source_51 : decode cX10_source 51 = .ok (.aaload, 1) := by decide +kernel
theorem dX10_source_52 : decode cX10_source 52 = .ok (.iload_n 2, 1) := by decide +kernel
theorem dX10_source_53 : decode cX10_source 53 = .ok (.putfield 177, 3) := by decide +kernel
theorem dX10_source_56 : decode cX10_source 56 = .ok (.aload_n 0, 1) := by decide +kernel
theorem dX10_source_57 : decode cX10_source 57 = .ok (.getfield 10, 3) := by decide +kernel
theorem dX10_source_60 : decode cX10_source 60 = .ok (.iconst 0, 1) := by decide +kernel
theorem dX10_source_61 : decode cX10_source 61 = .ok (.invokevirtual 90, 3) := by decide +kernel
theorem dX10_source_64 : decode cX10_source 64 = .ok (.iload_n 3, 1) := by decide +kernel
theorem dX10_source_65 : decode cX10_source 65 = .ok (.ireturn, 1) := by decide +kernel
theorem dX10_lasts_0 : decode cX10_lasts 0 = .ok (.aload_n 0, 1) := by decide +kernel
theorem dX10_lasts_1 : decode cX10_lasts 1 = .ok (.getfield 20, 3) := by decide +kernel
theorem dX10_lasts_4 : decode cX10_lasts 4 = .ok (.iload_n 1, 1) := by decide +kernel
theorem dX10_lasts_5 : decode cX10_lasts 5 = .ok (.invokevirtual 174, 3) := by decide +kernel
theorem dX10_lasts_8 : decode cX10_lasts 8 = .ok (.ifCond .eq 13, 3) := by decide +kernel
theorem dX10_lasts_11 : decode cX10_lasts 11 = .ok (.iload_n 2, 1) := by decide +kernel
theorem dX10_lasts_12 : decode cX10_lasts 12 = .ok (.iconst 0, 1) := by decide +kernel
theorem dX10_lasts_13 : decode cX10_lasts 13 = .ok (.bipush 9, 2) := by decide +kernel
theorem dX10_lasts_15 : decode cX10_lasts 15 = .ok (.invokestatic 82, 3) := by decide +kernel
theorem dX10_lasts_18 : decode cX10_lasts 18 = .ok (.ifCond .ne 6, 3) := by decide +kernel
theorem dX10_lasts_21 : decode cX10_lasts 21 = .ok (.bipush (-2), 2) := by decide +kernel
end
section
theorem dX10_lasts_23 : decode cX10_lasts 23 = .ok (.ireturn, 1) := by decide +kernel
theorem dX10_lasts_24 : decode cX10_lasts 24 = .ok (.aload_n 0, 1) := by decide +kernel
theorem dX10_lasts_25 : decode cX10_lasts 25 = .ok (.getfield 20, 3) := by decide +kernel
theorem dX10_lasts_28 : decode cX10_lasts 28 = .ok (.getfield 164, 3) := by decide +kernel
theorem dX10_lasts_31 : decode cX10_lasts 31 = .ok (.iload_n 1, 1) := by decide +kernel
theorem dX10_lasts_32 : decode cX10_lasts 32 = .ok (.aaload, 1) := by decide +kernel
theorem dX10_lasts_33 : decode cX10_lasts 33 = .ok (.getfield 180, 3) := by decide +kernel
theorem dX10_lasts_36 : decode cX10_lasts 36 = .ok (.istore_n 3, 1) := by decide +kernel
theorem dX10_lasts_37 : decode cX10_lasts 37 = .ok (.aload_n 0, 1) := by decide +kernel
theorem dX10_lasts_38 : decode cX10_lasts 38 = .ok (.getfield 20, 3) := by decide +kernel
theorem dX10_lasts_41 : decode cX10_lasts 41 = .ok (.getfield 164, 3) := by decide +kernel
theorem dX10_lasts_44 : decode cX10_lasts 44 = .ok (.iload_n 1, 1) := by decide +kernel
theorem dX10_lasts_45 : decode cX10_lasts 45 = .ok (.aaload, 1) := by decide +kernel
theorem dX10_lasts_46 : decode cX10_lasts 46 = .ok (.iload_n 2, 1) := by decide +kernel
theorem dX10_lasts_47 : decode cX10_lasts 47 = .ok (.putfield 180, 3) := by decide +kernel
theorem dX10_lasts_50 : decode cX10_lasts 50 = .ok (.iload_n 3, 1) := by decide +kernel
theorem dX10_lasts_51 : decode cX10_lasts 51 = .ok (.ireturn, 1) := by decide +kernel
theorem dX10_ends_0 : decode cX10_ends 0 = .ok (.aload_n 0, 1) := by decide +kernel
theorem dX10_ends_1 : decode cX10_ends 1 = .ok (.getfield 20, 3) := by decide +kernel
theorem dX10_ends_4 : decode cX10_ends 4 = .ok (.iload_n 1, 1) := by decide +kernel
theorem dX10_ends_5 : decode cX10_ends 5 = .ok (.invokevirtual 174, 3) := by decide +kernel
theorem dX10_ends_8 : decode cX10_ends 8 = .ok (.ifCond .ne 6, 3) := by decide +kernel
theorem dX10_ends_11 : decode cX10_ends 11 = .ok (.bipush (-2), 2) := by decide +kernel
theorem dX10_ends_13 : decode cX10_ends 13 = .ok (.ireturn, 1) := by decide +kernel
theorem dX10_ends_14 : decode cX10_ends 14 = .ok (.aload_n 0, 1) := by decide +kernel
theorem dX10_ends_15 : decode cX10_ends 15 = .ok (.getfield 20, 3) := by decide +kernel
theorem dX10_ends_18 : decode cX10_ends 18 = .ok (.iload_n 1, 1) := by decide +kernel
theorem dX10_ends_19 : decode cX10_ends 19 = .ok (.invokevirtual 183, 3) := by decide +kernel
theorem dX10_ends_22 : decode cX10_ends 22 = .ok (.aload_n 0, 1) := by decide +kernel
theorem dX10_ends_23 : decode cX10_ends 23 = .ok (.getfield 10, 3) := by decide +kernel
theorem dX10_ends_26 : decode cX10_ends 26 = .ok (.iconst 0, 1) := by decide +kernel
theorem dX10_ends_27 : decode cX10_ends 27 = .ok (.invokevirtual 90, 3) := by decide +kernel
theorem dX10_ends_30 : decode cX10_ends 30 = .ok (.aload_n 0, 1) := by decide +kernel
theorem dX10_ends_31 : decode cX10_ends 31 = .ok (.getfield 20, 3) := by decide +kernel
theorem dX10_ends_34 : decode cX10_ends 34 = .ok (.getfield 161, 3) := by decide +kernel
theorem dX10_ends_37 : decode cX10_ends 37 = .ok (.ireturn, 1) := by decide +kernel
theorem dX10_order_0 : decode cX10_order 0 = .ok (.iload_n 1, 1) := by decide +kernel
theorem dX10_order_1 : decode cX10_order 1 = .ok (.iconst (-1), 1) := by decide +kernel
theorem dX10_order_2 : decode cX10_order 2 = .ok (.if_icmp .ge 6, 3) := by decide +kernel
theorem dX10_order_5 : decode cX10_order 5 = .ok (.bipush (-2), 2) := by decide +kernel
theorem dX10_order_7 : decode cX10_order 7 = .ok (.ireturn, 1) := by decide +kernel
theorem dX10_order_8 : decode cX10_order 8 = .ok (.iload_n 1, 1) := by decide +kernel
theorem dX10_order_9 : decode cX10_order 9 = .ok (.iconst (-1), 1) := by decide +kernel
theorem dX10_order_10 : decode cX10_order 10 = .ok (.if_icmp .ne 11, 3) := by decide +kernel
theorem dX10_order_13 : decode cX10_order 13 = .ok (.aload_n 0, 1) := by decide +kernel
theorem dX10_order_14 : decode cX10_order 14 = .ok (.getfield 27, 3) := by decide +kernel
theorem dX10_order_17 : decode cX10_order 17 = .ok (.getfield 187, 3) := by decide +kernel
theorem dX10_order_20 : decode cX10_order 20 = .ok (.ireturn, 1) := by decide +kernel
theorem dX10_order_21 : decode cX10_order 21 = .ok (.iload_n 1, 1) := by decide +kernel
theorem dX10_order_22 : decode cX10_order 22 = .ok (.aload_n 0, 1) := by decide +kernel
theorem dX10_order_23 : decode cX10_order 23 = .ok (.getfield 27, 3) := by decide +kernel
theorem dX10_order_26 : decode cX10_order 26 = .ok (.getfield 187, 3) := by decide +kernel
theorem dX10_order_29 : decode cX10_order 29 = .ok (.if_icmp .lt 5, 3) := by decide +kernel
theorem dX10_order_32 : decode cX10_order 32 = .ok (.iconst (-1), 1) := by decide +kernel
theorem dX10_order_33 : decode cX10_order 33 = .ok (.ireturn, 1) := by decide +kernel
theorem dX10_order_34 : decode cX10_order 34 = .ok (.aload_n 0, 1) := by decide +kernel
theorem dX10_order_35 : decode cX10_order 35 = .ok (.getfield 27, 3) := by decide +kernel
theorem dX10_order_38 : decode cX10_order 38 = .ok (.getfield 190, 3) := by decide +kernel
theorem dX10_order_41 : decode cX10_order 41 = .ok (.iload_n 1, 1) := by decide +kernel
theorem dX10_order_42 : decode cX10_order 42 = .ok (.iaload, 1) := by decide +kernel
theorem dX10_order_43 : decode cX10_order 43 = .ok (.ireturn, 1) := by decide +kernel
theorem dX10_depends_0 : decode cX10_depends 0 = .ok (.aload_n 0, 1) := by decide +kernel
theorem dX10_depends_1 : decode cX10_depends 1 = .ok (.getfield 20, 3) := by decide +kernel
theorem dX10_depends_4 : decode cX10_depends 4 = .ok (.iload_n 1, 1) := by decide +kernel
theorem dX10_depends_5 : decode cX10_depends 5 = .ok (.invokevirtual 174, 3) := by decide +kernel
theorem dX10_depends_8 : decode cX10_depends 8 = .ok (.ifCond .eq 19, 3) := by decide +kernel
theorem dX10_depends_11 : decode cX10_depends 11 = .ok (.aload_n 0, 1) := by decide +kernel
theorem dX10_depends_12 : decode cX10_depends 12 = .ok (.getfield 20, 3) := by decide +kernel
theorem dX10_depends_15 : decode cX10_depends 15 = .ok (.iload_n 2, 1) := by decide +kernel
theorem dX10_depends_16 : decode cX10_depends 16 = .ok (.invokevirtual 174, 3) := by decide +kernel
theorem dX10_depends_19 : decode cX10_depends 19 = .ok (.ifCond .eq 8, 3) := by decide +kernel
theorem dX10_depends_22 : decode cX10_depends 22 = .ok (.iload_n 1, 1) := by decide +kernel
theorem dX10_depends_23 : decode cX10_depends 23 = .ok (.iload_n 2, 1) := by decide +kernel
theorem dX10_depends_24 : decode cX10_depends 24 = .ok (.if_icmp .ne 6, 3) := by decide +kernel
theorem dX10_depends_27 : decode cX10_depends 27 = .ok (.bipush (-2), 2) := by decide +kernel
theorem dX10_depends_29 : decode cX10_depends 29 = .ok (.ireturn, 1) := by decide +kernel
theorem dX10_depends_30 : decode cX10_depends 30 = .ok (.aload_n 0, 1) := by decide +kernel
theorem dX10_depends_31 : decode cX10_depends 31 = .ok (.getfield 20, 3) := by decide +kernel
theorem dX10_depends_34 : decode cX10_depends 34 = .ok (.getfield 164, 3) := by decide +kernel
theorem dX10_depends_37 : decode cX10_depends 37 = .ok (.iload_n 1, 1) := by decide +kernel
theorem dX10_depends_38 : decode cX10_depends 38 = .ok (.aaload, 1) := by decide +kernel
theorem dX10_depends_39 : decode cX10_depends 39 = .ok (.astore_n 3, 1) := by decide +kernel
theorem dX10_depends_40 : decode cX10_depends 40 = .ok (.aload_n 0, 1) := by decide +kernel
theorem dX10_depends_41 : decode cX10_depends 41 = .ok (.getfield 20, 3) := by decide +kernel
theorem dX10_depends_44 : decode cX10_depends 44 = .ok (.getfield 164, 3) := by decide +kernel
theorem dX10_depends_47 : decode cX10_depends 47 = .ok (.iload_n 2, 1) := by decide +kernel
theorem dX10_depends_48 : decode cX10_depends 48 = .ok (.aaload, 1) := by decide +kernel
theorem dX10_depends_49 : decode cX10_depends 49 = .ok (.astore 4, 2) := by decide +kernel
theorem dX10_depends_51 : decode cX10_depends 51 = .ok (.aload_n 3, 1) := by decide +kernel
theorem dX10_depends_52 : decode cX10_depends 52 = .ok (.invokevirtual 193, 3) := by decide +kernel
theorem dX10_depends_55 : decode cX10_depends 55 = .ok (.aload 4, 2) := by decide +kernel
theorem dX10_depends_57 : decode cX10_depends 57 = .ok (.invokevirtual 193, 3) := by decide +kernel
theorem dX10_depends_60 : decode cX10_depends 60 = .ok (.if_icmp .ne 26, 3) := by decide +kernel
theorem dX10_depends_63 : decode cX10_depends 63 = .ok (.aload_n 0, 1) := by decide +kernel
theorem dX10_depends_64 : decode cX10_depends 64 = .ok (.getfield 20, 3) := by decide +kernel
theorem dX10_depends_67 : decode cX10_depends 67 = .ok (.aload_n 3, 1) := by decide +kernel
theorem dX10_depends_68 : decode cX10_depends 68 = .ok (.invokevirtual 197, 3) := by decide +kernel
theorem dX10_depends_71 : decode cX10_depends 71 = .ok (.ifCond .eq 15, 3) := by decide +kernel
theorem dX10_depends_74 : decode cX10_depends 74 = .ok (.aload_n 0, 1) := by decide +kernel
theorem dX10_depends_75 : decode cX10_depends 75 = .ok (.getfield 20, 3) := by decide +kernel
theorem dX10_depends_78 : decode cX10_depends 78 = .ok (.aload 4, 2) := by decide +kernel
theorem dX10_depends_80 : decode cX10_depends 80 = .ok (.invokevirtual 197, 3) := by decide +kernel
theorem dX10_depends_83 : decode cX10_depends 83 = .ok (.ifCond .ne 6, 3) := by decide +kernel
theorem dX10_depends_86 : decode cX10_depends 86 = .ok (.bipush (-3), 2) := by decide +kernel
theorem dX10_depends_88 : decode cX10_depends 88 = .ok (.ireturn, 1) := by decide +kernel
theorem dX10_depends_89 : decode cX10_depends 89 = .ok (.aload_n 0, 1) := by decide +kernel
theorem dX10_depends_90 : decode cX10_depends 90 = .ok (.getfield 40, 3) := by decide +kernel
theorem dX10_depends_93 : decode cX10_depends 93 = .ok (.aload_n 0, 1) := by decide +kernel
theorem dX10_depends_94 : decode cX10_depends 94 = .ok (.getfield 20, 3) := by decide +kernel
theorem dX10_depends_97 : decode cX10_depends 97 = .ok (.aload_n 3, 1) := by decide +kernel
theorem dX10_depends_98 : decode cX10_depends 98 = .ok (.invokevirtual 193, 3) := by decide +kernel
theorem dX10_depends_101 : decode cX10_depends 101 = .ok (.invokevirtual 78, 3) := by decide +kernel
theorem dX10_depends_104 : decode cX10_depends 104 = .ok (.aload_n 0, 1) := by decide +kernel
theorem dX10_depends_105 : decode cX10_depends 105 = .ok (.getfield 40, 3) := by decide +kernel
theorem dX10_depends_108 : decode cX10_depends 108 = .ok (.aload_n 0, 1) := by decide +kernel
theorem dX10_depends_109 : decode cX10_depends 109 = .ok (.getfield 20, 3) := by decide +kernel
theorem dX10_depends_112 : decode cX10_depends 112 = .ok (.aload_n 3, 1) := by decide +kernel
theorem dX10_depends_113 : decode cX10_depends 113 = .ok (.aload 4, 2) := by decide +kernel
theorem dX10_depends_115 : decode cX10_depends 115 = .ok (.invokevirtual 201, 3) := by decide +kernel
theorem dX10_depends_118 : decode cX10_depends 118 = .ok (.ifCond .eq 7, 3) := by decide +kernel
theorem dX10_depends_121 : decode cX10_depends 121 = .ok (.iconst 1, 1) := by decide +kernel
theorem dX10_depends_122 : decode cX10_depends 122 = .ok (.goto 4, 3) := by decide +kernel
theorem dX10_depends_125 : decode cX10_depends 125 = .ok (.iconst 0, 1) := by decide +kernel
theorem dX10_depends_126 : decode cX10_depends 126 = .ok (.ireturn, 1) := by decide +kernel
theorem dX10_rule_0 : decode cX10_rule 0 = .ok (.iload_n 1, 1) := by decide +kernel
theorem dX10_rule_1 : decode cX10_rule 1 = .ok (.iconst 0, 1) := by decide +kernel
theorem dX10_rule_2 : decode cX10_rule 2 = .ok (.iconst 4, 1) := by decide +kernel
theorem dX10_rule_3 : decode cX10_rule 3 = .ok (.invokestatic 82, 3) := by decide +kernel
theorem dX10_rule_6 : decode cX10_rule 6 = .ok (.ifCond .eq 11, 3) := by decide +kernel
theorem dX10_rule_9 : decode cX10_rule 9 = .ok (.iload_n 2, 1) := by decide +kernel
theorem dX10_rule_10 : decode cX10_rule 10 = .ok (.iload_n 3, 1) := by decide +kernel
theorem dX10_rule_11 : decode cX10_rule 11 = .ok (.invokestatic 151, 3) := by decide +kernel
theorem dX10_rule_14 : decode cX10_rule 14 = .ok (.ifCond .ne 6, 3) := by decide +kernel
theorem dX10_rule_17 : decode cX10_rule 17 = .ok (.bipush (-2), 2) := by decide +kernel
theorem dX10_rule_19 : decode cX10_rule 19 = .ok (.ireturn, 1) := by decide +kernel
theorem dX10_rule_20 : decode cX10_rule 20 = .ok (.iload_n 1, 1) := by decide +kernel
theorem dX10_rule_21 : decode cX10_rule 21 = .ok (.ifCond .ne 17, 3) := by decide +kernel
theorem dX10_rule_24 : decode cX10_rule 24 = .ok (.iload 4, 2) := by decide +kernel
theorem dX10_rule_26 : decode cX10_rule 26 = .ok (.iconst 1, 1) := by decide +kernel
theorem dX10_rule_27 : decode cX10_rule 27 = .ok (.bipush 99, 2) := by decide +kernel
theorem dX10_rule_29 : decode cX10_rule 29 = .ok (.invokestatic 82, 3) := by decide +kernel
theorem dX10_rule_32 : decode cX10_rule 32 = .ok (.ifCond .ne 6, 3) := by decide +kernel
theorem dX10_rule_35 : decode cX10_rule 35 = .ok (.bipush (-2), 2) := by decide +kernel
theorem dX10_rule_37 : decode cX10_rule 37 = .ok (.ireturn, 1) := by decide +kernel
theorem dX10_rule_38 : decode cX10_rule 38 = .ok (.iload_n 1, 1) := by decide +kernel
theorem dX10_rule_39 : decode cX10_rule 39 = .ok (.iconst 3, 1) := by decide +kernel
theorem dX10_rule_40 : decode cX10_rule 40 = .ok (.if_icmp .ne 17, 3) := by decide +kernel
theorem dX10_rule_43 : decode cX10_rule 43 = .ok (.iload 4, 2) := by decide +kernel
theorem dX10_rule_45 : decode cX10_rule 45 = .ok (.iconst 0, 1) := by decide +kernel
theorem dX10_rule_46 : decode cX10_rule 46 = .ok (.bipush 7, 2) := by decide +kernel
theorem dX10_rule_48 : decode cX10_rule 48 = .ok (.invokestatic 82, 3) := by decide +kernel
theorem dX10_rule_51 : decode cX10_rule 51 = .ok (.ifCond .ne 6, 3) := by decide +kernel
theorem dX10_rule_54 : decode cX10_rule 54 = .ok (.bipush (-2), 2) := by decide +kernel
theorem dX10_rule_56 : decode cX10_rule 56 = .ok (.ireturn, 1) := by decide +kernel
theorem dX10_rule_57 : decode cX10_rule 57 = .ok (.aload_n 0, 1) := by decide +kernel
theorem dX10_rule_58 : decode cX10_rule 58 = .ok (.getfield 20, 3) := by decide +kernel
theorem dX10_rule_61 : decode cX10_rule 61 = .ok (.getfield 205, 3) := by decide +kernel
theorem dX10_rule_64 : decode cX10_rule 64 = .ok (.bipush 8, 2) := by decide +kernel
theorem dX10_rule_66 : decode cX10_rule 66 = .ok (.if_icmp .lt 6, 3) := by decide +kernel
theorem dX10_rule_69 : decode cX10_rule 69 = .ok (.bipush (-4), 2) := by decide +kernel
theorem dX10_rule_71 : decode cX10_rule 71 = .ok (.ireturn, 1) := by decide +kernel
theorem dX10_rule_72 : decode cX10_rule 72 = .ok (.aload_n 0, 1) := by decide +kernel
theorem dX10_rule_73 : decode cX10_rule 73 = .ok (.getfield 20, 3) := by decide +kernel
theorem dX10_rule_76 : decode cX10_rule 76 = .ok (.getfield 205, 3) := by decide +kernel
theorem dX10_rule_79 : decode cX10_rule 79 = .ok (.istore 5, 2) := by decide +kernel
theorem dX10_rule_81 : decode cX10_rule 81 = .ok (.aload_n 0, 1) := by decide +kernel
theorem dX10_rule_82 : decode cX10_rule 82 = .ok (.getfield 20, 3) := by decide +kernel
theorem dX10_rule_85 : decode cX10_rule 85 = .ok (.getfield 208, 3) := by decide +kernel
theorem dX10_rule_88 : decode cX10_rule 88 = .ok (.iload 5, 2) := by decide +kernel
theorem dX10_rule_90 : decode cX10_rule 90 = .ok (.aaload, 1) := by decide +kernel
theorem dX10_rule_91 : decode cX10_rule 91 = .ok (.iload_n 1, 1) := by decide +kernel
theorem dX10_rule_92 : decode cX10_rule 92 = .ok (.iload_n 2, 1) := by decide +kernel
theorem dX10_rule_93 : decode cX10_rule 93 = .ok (.iload_n 3, 1) := by decide +kernel
theorem dX10_rule_94 : decode cX10_rule 94 = .ok (.iload 4, 2) := by decide +kernel
theorem dX10_rule_96 : decode cX10_rule 96 = .ok (.invokevirtual 212, 3) := by decide +kernel
theorem dX10_rule_99 : decode cX10_rule 99 = .ok (.aload_n 0, 1) := by decide +kernel
theorem dX10_rule_100 : decode cX10_rule 100 = .ok (.getfield 20, 3) := by decide +kernel
theorem dX10_rule_103 : decode cX10_rule 103 = .ok (.dup, 1) := by decide +kernel
theorem dX10_rule_104 : decode cX10_rule 104 = .ok (.getfield 205, 3) := by decide +kernel
theorem dX10_rule_107 : decode cX10_rule 107 = .ok (.iconst 1, 1) := by decide +kernel
theorem dX10_rule_108 : decode cX10_rule 108 = .ok (.iadd, 1) := by decide +kernel
theorem dX10_rule_109 : decode cX10_rule 109 = .ok (.putfield 205, 3) := by decide +kernel
theorem dX10_rule_112 : decode cX10_rule 112 = .ok (.iload 5, 2) := by decide +kernel
theorem dX10_rule_114 : decode cX10_rule 114 = .ok (.ireturn, 1) := by decide +kernel
theorem dX10_ruleOf_0 : decode cX10_ruleOf 0 = .ok (.aload_n 0, 1) := by decide +kernel
theorem dX10_ruleOf_1 : decode cX10_ruleOf 1 = .ok (.getfield 20, 3) := by decide +kernel
theorem dX10_ruleOf_4 : decode cX10_ruleOf 4 = .ok (.iload_n 1, 1) := by decide +kernel
theorem dX10_ruleOf_5 : decode cX10_ruleOf 5 = .ok (.invokevirtual 216, 3) := by decide +kernel
theorem dX10_ruleOf_8 : decode cX10_ruleOf 8 = .ok (.ifCond .eq 12, 3) := by decide +kernel
theorem dX10_ruleOf_11 : decode cX10_ruleOf 11 = .ok (.iload_n 2, 1) := by decide +kernel
theorem dX10_ruleOf_12 : decode cX10_ruleOf 12 = .ok (.iconst 0, 1) := by decide +kernel
theorem dX10_ruleOf_13 : decode cX10_ruleOf 13 = .ok (.iconst 1, 1) := by decide +kernel
theorem dX10_ruleOf_14 : decode cX10_ruleOf 14 = .ok (.invokestatic 82, 3) := by decide +kernel
theorem dX10_ruleOf_17 : decode cX10_ruleOf 17 = .ok (.ifCond .ne 6, 3) := by decide +kernel
theorem dX10_ruleOf_20 : decode cX10_ruleOf 20 = .ok (.bipush (-2), 2) := by decide +kernel
theorem dX10_ruleOf_22 : decode cX10_ruleOf 22 = .ok (.ireturn, 1) := by decide +kernel
theorem dX10_ruleOf_23 : decode cX10_ruleOf 23 = .ok (.iload_n 2, 1) := by decide +kernel
theorem dX10_ruleOf_24 : decode cX10_ruleOf 24 = .ok (.ifCond .ne 18, 3) := by decide +kernel
theorem dX10_ruleOf_27 : decode cX10_ruleOf 27 = .ok (.aload_n 0, 1) := by decide +kernel
theorem dX10_ruleOf_28 : decode cX10_ruleOf 28 = .ok (.getfield 20, 3) := by decide +kernel
theorem dX10_ruleOf_31 : decode cX10_ruleOf 31 = .ok (.getfield 208, 3) := by decide +kernel
theorem dX10_ruleOf_34 : decode cX10_ruleOf 34 = .ok (.iload_n 1, 1) := by decide +kernel
theorem dX10_ruleOf_35 : decode cX10_ruleOf 35 = .ok (.aaload, 1) := by decide +kernel
theorem dX10_ruleOf_36 : decode cX10_ruleOf 36 = .ok (.getfield 219, 3) := by decide +kernel
theorem dX10_ruleOf_39 : decode cX10_ruleOf 39 = .ok (.goto 15, 3) := by decide +kernel
theorem dX10_ruleOf_42 : decode cX10_ruleOf 42 = .ok (.aload_n 0, 1) := by decide +kernel
theorem dX10_ruleOf_43 : decode cX10_ruleOf 43 = .ok (.getfield 20, 3) := by decide +kernel
theorem dX10_ruleOf_46 : decode cX10_ruleOf 46 = .ok (.getfield 208, 3) := by decide +kernel
theorem dX10_ruleOf_49 : decode cX10_ruleOf 49 = .ok (.iload_n 1, 1) := by decide +kernel
theorem dX10_ruleOf_50 : decode cX10_ruleOf 50 = .ok (.aaload, 1) := by decide +kernel
theorem dX10_ruleOf_51 : decode cX10_ruleOf 51 = .ok (.getfield 222, 3) := by decide +kernel
theorem dX10_ruleOf_54 : decode cX10_ruleOf 54 = .ok (.ireturn, 1) := by decide +kernel
theorem dX10_unrule_0 : decode cX10_unrule 0 = .ok (.aload_n 0, 1) := by decide +kernel
theorem dX10_unrule_1 : decode cX10_unrule 1 = .ok (.getfield 20, 3) := by decide +kernel
theorem dX10_unrule_4 : decode cX10_unrule 4 = .ok (.iload_n 1, 1) := by decide +kernel
theorem dX10_unrule_5 : decode cX10_unrule 5 = .ok (.invokevirtual 216, 3) := by decide +kernel
theorem dX10_unrule_8 : decode cX10_unrule 8 = .ok (.ifCond .ne 6, 3) := by decide +kernel
theorem dX10_unrule_11 : decode cX10_unrule 11 = .ok (.bipush (-2), 2) := by decide +kernel
theorem dX10_unrule_13 : decode cX10_unrule 13 = .ok (.ireturn, 1) := by decide +kernel
theorem dX10_unrule_14 : decode cX10_unrule 14 = .ok (.aload_n 0, 1) := by decide +kernel
theorem dX10_unrule_15 : decode cX10_unrule 15 = .ok (.getfield 20, 3) := by decide +kernel
theorem dX10_unrule_18 : decode cX10_unrule 18 = .ok (.iload_n 1, 1) := by decide +kernel
theorem dX10_unrule_19 : decode cX10_unrule 19 = .ok (.invokevirtual 225, 3) := by decide +kernel
theorem dX10_unrule_22 : decode cX10_unrule 22 = .ok (.aload_n 0, 1) := by decide +kernel
theorem dX10_unrule_23 : decode cX10_unrule 23 = .ok (.getfield 20, 3) := by decide +kernel
theorem dX10_unrule_26 : decode cX10_unrule 26 = .ok (.getfield 205, 3) := by decide +kernel
theorem dX10_unrule_29 : decode cX10_unrule 29 = .ok (.ireturn, 1) := by decide +kernel
theorem dX10_choice_0 : decode cX10_choice 0 = .ok (.iload_n 1, 1) := by decide +kernel
theorem dX10_choice_1 : decode cX10_choice 1 = .ok (.iconst 0, 1) := by decide +kernel
theorem dX10_choice_2 : decode cX10_choice 2 = .ok (.iconst 1, 1) := by decide +kernel
theorem dX10_choice_3 : decode cX10_choice 3 = .ok (.invokestatic 82, 3) := by decide +kernel
theorem dX10_choice_6 : decode cX10_choice 6 = .ok (.ifCond .eq 12, 3) := by decide +kernel
theorem dX10_choice_9 : decode cX10_choice 9 = .ok (.iload_n 2, 1) := by decide +kernel
theorem dX10_choice_10 : decode cX10_choice 10 = .ok (.iconst 0, 1) := by decide +kernel
theorem dX10_choice_11 : decode cX10_choice 11 = .ok (.iconst 1, 1) := by decide +kernel
theorem dX10_choice_12 : decode cX10_choice 12 = .ok (.invokestatic 82, 3) := by decide +kernel
theorem dX10_choice_15 : decode cX10_choice 15 = .ok (.ifCond .ne 6, 3) := by decide +kernel
theorem dX10_choice_18 : decode cX10_choice 18 = .ok (.bipush (-2), 2) := by decide +kernel
theorem dX10_choice_20 : decode cX10_choice 20 = .ok (.ireturn, 1) := by decide +kernel
theorem dX10_choice_21 : decode cX10_choice 21 = .ok (.aload_n 0, 1) := by decide +kernel
theorem dX10_choice_22 : decode cX10_choice 22 = .ok (.getfield 20, 3) := by decide +kernel
theorem dX10_choice_25 : decode cX10_choice 25 = .ok (.getfield 228, 3) := by decide +kernel
theorem dX10_choice_28 : decode cX10_choice 28 = .ok (.iload_n 1, 1) := by decide +kernel
theorem dX10_choice_29 : decode cX10_choice 29 = .ok (.iaload, 1) := by decide +kernel
theorem dX10_choice_30 : decode cX10_choice 30 = .ok (.istore_n 3, 1) := by decide +kernel
theorem dX10_choice_31 : decode cX10_choice 31 = .ok (.aload_n 0, 1) := by decide +kernel
theorem dX10_choice_32 : decode cX10_choice 32 = .ok (.getfield 20, 3) := by decide +kernel
theorem dX10_choice_35 : decode cX10_choice 35 = .ok (.getfield 228, 3) := by decide +kernel
theorem dX10_choice_38 : decode cX10_choice 38 = .ok (.iload_n 1, 1) := by decide +kernel
theorem dX10_choice_39 : decode cX10_choice 39 = .ok (.iload_n 2, 1) := by decide +kernel
theorem dX10_choice_40 : decode cX10_choice 40 = .ok (.iastore, 1) := by decide +kernel
theorem dX10_choice_41 : decode cX10_choice 41 = .ok (.iload_n 3, 1) := by decide +kernel
theorem dX10_choice_42 : decode cX10_choice 42 = .ok (.ireturn, 1) := by decide +kernel
theorem dX10_watch_0 : decode cX10_watch 0 = .ok (.iload_n 1, 1) := by decide +kernel
theorem dX10_watch_1 : decode cX10_watch 1 = .ok (.iconst 0, 1) := by decide +kernel
theorem dX10_watch_2 : decode cX10_watch 2 = .ok (.iconst 1, 1) := by decide +kernel
theorem dX10_watch_3 : decode cX10_watch 3 = .ok (.invokestatic 82, 3) := by decide +kernel
theorem dX10_watch_6 : decode cX10_watch 6 = .ok (.ifCond .eq 21, 3) := by decide +kernel
theorem dX10_watch_9 : decode cX10_watch 9 = .ok (.iload_n 2, 1) := by decide +kernel
theorem dX10_watch_10 : decode cX10_watch 10 = .ok (.iconst 0, 1) := by decide +kernel
theorem dX10_watch_11 : decode cX10_watch 11 = .ok (.iconst 2, 1) := by decide +kernel
theorem dX10_watch_12 : decode cX10_watch 12 = .ok (.invokestatic 82, 3) := by decide +kernel
theorem dX10_watch_15 : decode cX10_watch 15 = .ok (.ifCond .eq 12, 3) := by decide +kernel
theorem dX10_watch_18 : decode cX10_watch 18 = .ok (.iload_n 3, 1) := by decide +kernel
theorem dX10_watch_19 : decode cX10_watch 19 = .ok (.iconst 0, 1) := by decide +kernel
theorem dX10_watch_20 : decode cX10_watch 20 = .ok (.iconst 2, 1) := by decide +kernel
theorem dX10_watch_21 : decode cX10_watch 21 = .ok (.invokestatic 82, 3) := by decide +kernel
theorem dX10_watch_24 : decode cX10_watch 24 = .ok (.ifCond .ne 6, 3) := by decide +kernel
theorem dX10_watch_27 : decode cX10_watch 27 = .ok (.bipush (-2), 2) := by decide +kernel
theorem dX10_watch_29 : decode cX10_watch 29 = .ok (.ireturn, 1) := by decide +kernel
theorem dX10_watch_30 : decode cX10_watch 30 = .ok (.iload 4, 2) := by decide +kernel
theorem dX10_watch_32 : decode cX10_watch 32 = .ok (.iconst (-1), 1) := by decide +kernel
theorem dX10_watch_33 : decode cX10_watch 33 = .ok (.bipush 7, 2) := by decide +kernel
theorem dX10_watch_35 : decode cX10_watch 35 = .ok (.invokestatic 82, 3) := by decide +kernel
theorem dX10_watch_38 : decode cX10_watch 38 = .ok (.ifCond .eq 14, 3) := by decide +kernel
theorem dX10_watch_41 : decode cX10_watch 41 = .ok (.iload 5, 2) := by decide +kernel
theorem dX10_watch_43 : decode cX10_watch 43 = .ok (.iconst 0, 1) := by decide +kernel
theorem dX10_watch_44 : decode cX10_watch 44 = .ok (.bipush 9, 2) := by decide +kernel
theorem dX10_watch_46 : decode cX10_watch 46 = .ok (.invokestatic 82, 3) := by decide +kernel
theorem dX10_watch_49 : decode cX10_watch 49 = .ok (.ifCond .ne 6, 3) := by decide +kernel
theorem dX10_watch_52 : decode cX10_watch 52 = .ok (.bipush (-2), 2) := by decide +kernel
theorem dX10_watch_54 : decode cX10_watch 54 = .ok (.ireturn, 1) := by decide +kernel
theorem dX10_watch_55 : decode cX10_watch 55 = .ok (.aload_n 0, 1) := by decide +kernel
theorem dX10_watch_56 : decode cX10_watch 56 = .ok (.getfield 20, 3) := by decide +kernel
theorem dX10_watch_59 : decode cX10_watch 59 = .ok (.getfield 231, 3) := by decide +kernel
theorem dX10_watch_62 : decode cX10_watch 62 = .ok (.bipush 8, 2) := by decide +kernel
theorem dX10_watch_64 : decode cX10_watch 64 = .ok (.if_icmp .lt 6, 3) := by decide +kernel
theorem dX10_watch_67 : decode cX10_watch 67 = .ok (.bipush (-4), 2) := by decide +kernel
theorem dX10_watch_69 : decode cX10_watch 69 = .ok (.ireturn, 1) := by decide +kernel
theorem dX10_watch_70 : decode cX10_watch 70 = .ok (.aload_n 0, 1) := by decide +kernel
theorem dX10_watch_71 : decode cX10_watch 71 = .ok (.getfield 20, 3) := by decide +kernel
theorem dX10_watch_74 : decode cX10_watch 74 = .ok (.getfield 231, 3) := by decide +kernel
theorem dX10_watch_77 : decode cX10_watch 77 = .ok (.istore 6, 2) := by decide +kernel
theorem dX10_watch_79 : decode cX10_watch 79 = .ok (.aload_n 0, 1) := by decide +kernel
theorem dX10_watch_80 : decode cX10_watch 80 = .ok (.getfield 20, 3) := by decide +kernel
theorem dX10_watch_83 : decode cX10_watch 83 = .ok (.getfield 234, 3) := by decide +kernel
theorem dX10_watch_86 : decode cX10_watch 86 = .ok (.iload 6, 2) := by decide +kernel
theorem dX10_watch_88 : decode cX10_watch 88 = .ok (.aaload, 1) := by decide +kernel
theorem dX10_watch_89 : decode cX10_watch 89 = .ok (.iload_n 1, 1) := by decide +kernel
theorem dX10_watch_90 : decode cX10_watch 90 = .ok (.iload_n 2, 1) := by decide +kernel
theorem dX10_watch_91 : decode cX10_watch 91 = .ok (.iload_n 3, 1) := by decide +kernel
theorem dX10_watch_92 : decode cX10_watch 92 = .ok (.iload 4, 2) := by decide +kernel
theorem dX10_watch_94 : decode cX10_watch 94 = .ok (.iload 5, 2) := by decide +kernel
theorem dX10_watch_96 : decode cX10_watch 96 = .ok (.invokevirtual 238, 3) := by decide +kernel
theorem dX10_watch_99 : decode cX10_watch 99 = .ok (.aload_n 0, 1) := by decide +kernel
theorem dX10_watch_100 : decode cX10_watch 100 = .ok (.getfield 20, 3) := by decide +kernel
theorem dX10_watch_103 : decode cX10_watch 103 = .ok (.dup, 1) := by decide +kernel
theorem dX10_watch_104 : decode cX10_watch 104 = .ok (.getfield 231, 3) := by decide +kernel
theorem dX10_watch_107 : decode cX10_watch 107 = .ok (.iconst 1, 1) := by decide +kernel
theorem dX10_watch_108 : decode cX10_watch 108 = .ok (.iadd, 1) := by decide +kernel
theorem dX10_watch_109 : decode cX10_watch 109 = .ok (.putfield 231, 3) := by decide +kernel
theorem dX10_watch_112 : decode cX10_watch 112 = .ok (.iload 6, 2) := by decide +kernel
theorem dX10_watch_114 : decode cX10_watch 114 = .ok (.ireturn, 1) := by decide +kernel
theorem dX10_watches_0 : decode cX10_watches 0 = .ok (.aload_n 0, 1) := by decide +kernel
theorem dX10_watches_1 : decode cX10_watches 1 = .ok (.getfield 20, 3) := by decide +kernel
theorem dX10_watches_4 : decode cX10_watches 4 = .ok (.iload_n 1, 1) := by decide +kernel
theorem dX10_watches_5 : decode cX10_watches 5 = .ok (.invokevirtual 241, 3) := by decide +kernel
theorem dX10_watches_8 : decode cX10_watches 8 = .ok (.ifCond .eq 11, 3) := by decide +kernel
theorem dX10_watches_11 : decode cX10_watches 11 = .ok (.iload_n 2, 1) := by decide +kernel
theorem dX10_watches_12 : decode cX10_watches 12 = .ok (.iload_n 3, 1) := by decide +kernel
theorem dX10_watches_13 : decode cX10_watches 13 = .ok (.invokestatic 151, 3) := by decide +kernel
theorem dX10_watches_16 : decode cX10_watches 16 = .ok (.ifCond .ne 6, 3) := by decide +kernel
theorem dX10_watches_19 : decode cX10_watches 19 = .ok (.bipush (-2), 2) := by decide +kernel
theorem dX10_watches_21 : decode cX10_watches 21 = .ok (.ireturn, 1) := by decide +kernel
theorem dX10_watches_22 : decode cX10_watches 22 = .ok (.aload_n 0, 1) := by decide +kernel
theorem dX10_watches_23 : decode cX10_watches 23 = .ok (.getfield 20, 3) := by decide +kernel
theorem dX10_watches_26 : decode cX10_watches 26 = .ok (.getfield 234, 3) := by decide +kernel
theorem dX10_watches_29 : decode cX10_watches 29 = .ok (.iload_n 1, 1) := by decide +kernel
theorem dX10_watches_30 : decode cX10_watches 30 = .ok (.aaload, 1) := by decide +kernel
theorem dX10_watches_31 : decode cX10_watches 31 = .ok (.astore 4, 2) := by decide +kernel
theorem dX10_watches_33 : decode cX10_watches 33 = .ok (.aload 4, 2) := by decide +kernel
theorem dX10_watches_35 : decode cX10_watches 35 = .ok (.getfield 244, 3) := by decide +kernel
theorem dX10_watches_38 : decode cX10_watches 38 = .ok (.istore 5, 2) := by decide +kernel
theorem dX10_watches_40 : decode cX10_watches 40 = .ok (.aload 4, 2) := by decide +kernel
theorem dX10_watches_42 : decode cX10_watches 42 = .ok (.iload_n 2, 1) := by decide +kernel
theorem dX10_watches_43 : decode cX10_watches 43 = .ok (.putfield 244, 3) := by decide +kernel
theorem dX10_watches_46 : decode cX10_watches 46 = .ok (.aload 4, 2) := by decide +kernel
theorem dX10_watches_48 : decode cX10_watches 48 = .ok (.iload_n 3, 1) := by decide +kernel
theorem dX10_watches_49 : decode cX10_watches 49 = .ok (.putfield 247, 3) := by decide +kernel
theorem dX10_watches_52 : decode cX10_watches 52 = .ok (.iload 5, 2) := by decide +kernel
theorem dX10_watches_54 : decode cX10_watches 54 = .ok (.ireturn, 1) := by decide +kernel
theorem dX10_unwatch_0 : decode cX10_unwatch 0 = .ok (.aload_n 0, 1) := by decide +kernel
theorem dX10_unwatch_1 : decode cX10_unwatch 1 = .ok (.getfield 20, 3) := by decide +kernel
theorem dX10_unwatch_4 : decode cX10_unwatch 4 = .ok (.iload_n 1, 1) := by decide +kernel
theorem dX10_unwatch_5 : decode cX10_unwatch 5 = .ok (.invokevirtual 241, 3) := by decide +kernel
theorem dX10_unwatch_8 : decode cX10_unwatch 8 = .ok (.ifCond .ne 6, 3) := by decide +kernel
theorem dX10_unwatch_11 : decode cX10_unwatch 11 = .ok (.bipush (-2), 2) := by decide +kernel
theorem dX10_unwatch_13 : decode cX10_unwatch 13 = .ok (.ireturn, 1) := by decide +kernel
theorem dX10_unwatch_14 : decode cX10_unwatch 14 = .ok (.aload_n 0, 1) := by decide +kernel
theorem dX10_unwatch_15 : decode cX10_unwatch 15 = .ok (.getfield 20, 3) := by decide +kernel
theorem dX10_unwatch_18 : decode cX10_unwatch 18 = .ok (.iload_n 1, 1) := by decide +kernel
theorem dX10_unwatch_19 : decode cX10_unwatch 19 = .ok (.invokevirtual 250, 3) := by decide +kernel
theorem dX10_unwatch_22 : decode cX10_unwatch 22 = .ok (.aload_n 0, 1) := by decide +kernel
theorem dX10_unwatch_23 : decode cX10_unwatch 23 = .ok (.getfield 20, 3) := by decide +kernel
theorem dX10_unwatch_26 : decode cX10_unwatch 26 = .ok (.getfield 231, 3) := by decide +kernel
theorem dX10_unwatch_29 : decode cX10_unwatch 29 = .ok (.ireturn, 1) := by decide +kernel
theorem dX10_hurt_0 : decode cX10_hurt 0 = .ok (.aload_n 0, 1) := by decide +kernel
theorem dX10_hurt_1 : decode cX10_hurt 1 = .ok (.getfield 20, 3) := by decide +kernel
theorem dX10_hurt_4 : decode cX10_hurt 4 = .ok (.iload_n 1, 1) := by decide +kernel
theorem dX10_hurt_5 : decode cX10_hurt 5 = .ok (.invokevirtual 94, 3) := by decide +kernel
theorem dX10_hurt_8 : decode cX10_hurt 8 = .ok (.ifCond .eq 13, 3) := by decide +kernel
theorem dX10_hurt_11 : decode cX10_hurt 11 = .ok (.iload_n 2, 1) := by decide +kernel
theorem dX10_hurt_12 : decode cX10_hurt 12 = .ok (.iconst 1, 1) := by decide +kernel
theorem dX10_hurt_13 : decode cX10_hurt 13 = .ok (.bipush 99, 2) := by decide +kernel
theorem dX10_hurt_15 : decode cX10_hurt 15 = .ok (.invokestatic 82, 3) := by decide +kernel
theorem dX10_hurt_18 : decode cX10_hurt 18 = .ok (.ifCond .ne 6, 3) := by decide +kernel
theorem dX10_hurt_21 : decode cX10_hurt 21 = .ok (.bipush (-2), 2) := by decide +kernel
theorem dX10_hurt_23 : decode cX10_hurt 23 = .ok (.ireturn, 1) := by decide +kernel
theorem dX10_hurt_24 : decode cX10_hurt 24 = .ok (.aload_n 0, 1) := by decide +kernel
theorem dX10_hurt_25 : decode cX10_hurt 25 = .ok (.getfield 20, 3) := by decide +kernel
theorem dX10_hurt_28 : decode cX10_hurt 28 = .ok (.getfield 98, 3) := by decide +kernel
theorem dX10_hurt_31 : decode cX10_hurt 31 = .ok (.iload_n 1, 1) := by decide +kernel
theorem dX10_hurt_32 : decode cX10_hurt 32 = .ok (.aaload, 1) := by decide +kernel
theorem dX10_hurt_33 : decode cX10_hurt 33 = .ok (.getfield 119, 3) := by decide +kernel
theorem dX10_hurt_36 : decode cX10_hurt 36 = .ok (.ifCond .ne 6, 3) := by decide +kernel
theorem dX10_hurt_39 : decode cX10_hurt 39 = .ok (.bipush (-3), 2) := by decide +kernel
theorem dX10_hurt_41 : decode cX10_hurt 41 = .ok (.ireturn, 1) := by decide +kernel
theorem dX10_hurt_42 : decode cX10_hurt 42 = .ok (.aload_n 0, 1) := by decide +kernel
theorem dX10_hurt_43 : decode cX10_hurt 43 = .ok (.getfield 31, 3) := by decide +kernel
theorem dX10_hurt_46 : decode cX10_hurt 46 = .ok (.aload_n 0, 1) := by decide +kernel
theorem dX10_hurt_47 : decode cX10_hurt 47 = .ok (.getfield 20, 3) := by decide +kernel
theorem dX10_hurt_50 : decode cX10_hurt 50 = .ok (.invokevirtual 253, 3) := by decide +kernel
theorem dX10_hurt_53 : decode cX10_hurt 53 = .ok (.aload_n 0, 1) := by decide +kernel
theorem dX10_hurt_54 : decode cX10_hurt 54 = .ok (.getfield 10, 3) := by decide +kernel
theorem dX10_hurt_57 : decode cX10_hurt 57 = .ok (.invokevirtual 257, 3) := by decide +kernel
theorem dX10_hurt_60 : decode cX10_hurt 60 = .ok (.aload_n 0, 1) := by decide +kernel
theorem dX10_hurt_61 : decode cX10_hurt 61 = .ok (.getfield 10, 3) := by decide +kernel
theorem dX10_hurt_64 : decode cX10_hurt 64 = .ok (.iload_n 1, 1) := by decide +kernel
theorem dX10_hurt_65 : decode cX10_hurt 65 = .ok (.iload_n 2, 1) := by decide +kernel
theorem dX10_hurt_66 : decode cX10_hurt 66 = .ok (.invokevirtual 260, 3) := by decide +kernel
theorem dX10_hurt_69 : decode cX10_hurt 69 = .ok (.aload_n 0, 1) := by decide +kernel
theorem dX10_hurt_70 : decode cX10_hurt 70 = .ok (.aload_n 0, 1) := by decide +kernel
theorem dX10_hurt_71 : decode cX10_hurt 71 = .ok (.getfield 10, 3) := by decide +kernel
theorem dX10_hurt_74 : decode cX10_hurt 74 = .ok (.invokevirtual 264, 3) := by decide +kernel
theorem dX10_hurt_77 : decode cX10_hurt 77 = .ok (.invokevirtual 267, 3) := by decide +kernel
theorem dX10_hurt_80 : decode cX10_hurt 80 = .ok (.ireturn, 1) := by decide +kernel
theorem dX10_aim_0 : decode cX10_aim 0 = .ok (.aload_n 0, 1) := by decide +kernel
theorem dX10_aim_1 : decode cX10_aim 1 = .ok (.getfield 20, 3) := by decide +kernel
theorem dX10_aim_4 : decode cX10_aim 4 = .ok (.iload_n 1, 1) := by decide +kernel
theorem dX10_aim_5 : decode cX10_aim 5 = .ok (.invokevirtual 94, 3) := by decide +kernel
end
section
theorem dX10_aim_8 : decode cX10_aim 8 = .ok (.ifCond .eq 22, 3) := by decide +kernel
theorem dX10_aim_11 : decode cX10_aim 11 = .ok (.iload_n 2, 1) := by decide +kernel
theorem dX10_aim_12 : decode cX10_aim 12 = .ok (.iconst 1, 1) := by decide +kernel
theorem dX10_aim_13 : decode cX10_aim 13 = .ok (.bipush 99, 2) := by decide +kernel
theorem dX10_aim_15 : decode cX10_aim 15 = .ok (.invokestatic 82, 3) := by decide +kernel
theorem dX10_aim_18 : decode cX10_aim 18 = .ok (.ifCond .eq 12, 3) := by decide +kernel
theorem dX10_aim_21 : decode cX10_aim 21 = .ok (.iload_n 3, 1) := by decide +kernel
theorem dX10_aim_22 : decode cX10_aim 22 = .ok (.iconst 0, 1) := by decide +kernel
theorem dX10_aim_23 : decode cX10_aim 23 = .ok (.iconst 2, 1) := by decide +kernel
theorem dX10_aim_24 : decode cX10_aim 24 = .ok (.invokestatic 82, 3) := by decide +kernel
theorem dX10_aim_27 : decode cX10_aim 27 = .ok (.ifCond .ne 6, 3) := by decide +kernel
theorem dX10_aim_30 : decode cX10_aim 30 = .ok (.bipush (-2), 2) := by decide +kernel
theorem dX10_aim_32 : decode cX10_aim 32 = .ok (.ireturn, 1) := by decide +kernel
theorem dX10_aim_33 : decode cX10_aim 33 = .ok (.aload_n 0, 1) := by decide +kernel
theorem dX10_aim_34 : decode cX10_aim 34 = .ok (.getfield 20, 3) := by decide +kernel
theorem dX10_aim_37 : decode cX10_aim 37 = .ok (.getfield 98, 3) := by decide +kernel
theorem dX10_aim_40 : decode cX10_aim 40 = .ok (.iload_n 1, 1) := by decide +kernel
theorem dX10_aim_41 : decode cX10_aim 41 = .ok (.aaload, 1) := by decide +kernel
theorem dX10_aim_42 : decode cX10_aim 42 = .ok (.getfield 119, 3) := by decide +kernel
theorem dX10_aim_45 : decode cX10_aim 45 = .ok (.ifCond .ne 6, 3) := by decide +kernel
theorem dX10_aim_48 : decode cX10_aim 48 = .ok (.bipush (-3), 2) := by decide +kernel
theorem dX10_aim_50 : decode cX10_aim 50 = .ok (.ireturn, 1) := by decide +kernel
theorem dX10_aim_51 : decode cX10_aim 51 = .ok (.aload_n 0, 1) := by decide +kernel
theorem dX10_aim_52 : decode cX10_aim 52 = .ok (.getfield 46, 3) := by decide +kernel
theorem dX10_aim_55 : decode cX10_aim 55 = .ok (.aload_n 0, 1) := by decide +kernel
theorem dX10_aim_56 : decode cX10_aim 56 = .ok (.getfield 20, 3) := by decide +kernel
theorem dX10_aim_59 : decode cX10_aim 59 = .ok (.aload_n 0, 1) := by decide +kernel
theorem dX10_aim_60 : decode cX10_aim 60 = .ok (.getfield 27, 3) := by decide +kernel
theorem dX10_aim_63 : decode cX10_aim 63 = .ok (.iload_n 1, 1) := by decide +kernel
theorem dX10_aim_64 : decode cX10_aim 64 = .ok (.iload_n 2, 1) := by decide +kernel
theorem dX10_aim_65 : decode cX10_aim 65 = .ok (.invokevirtual 271, 3) := by decide +kernel
theorem dX10_aim_68 : decode cX10_aim 68 = .ok (.iload_n 3, 1) := by decide +kernel
theorem dX10_aim_69 : decode cX10_aim 69 = .ok (.ifCond .ne 11, 3) := by decide +kernel
theorem dX10_aim_72 : decode cX10_aim 72 = .ok (.aload_n 0, 1) := by decide +kernel
theorem dX10_aim_73 : decode cX10_aim 73 = .ok (.getfield 46, 3) := by decide +kernel
theorem dX10_aim_76 : decode cX10_aim 76 = .ok (.getfield 275, 3) := by decide +kernel
theorem dX10_aim_79 : decode cX10_aim 79 = .ok (.ireturn, 1) := by decide +kernel
theorem dX10_aim_80 : decode cX10_aim 80 = .ok (.iload_n 3, 1) := by decide +kernel
theorem dX10_aim_81 : decode cX10_aim 81 = .ok (.iconst 1, 1) := by decide +kernel
theorem dX10_aim_82 : decode cX10_aim 82 = .ok (.if_icmp .ne 25, 3) := by decide +kernel
theorem dX10_aim_85 : decode cX10_aim 85 = .ok (.aload_n 0, 1) := by decide +kernel
theorem dX10_aim_86 : decode cX10_aim 86 = .ok (.getfield 46, 3) := by decide +kernel
theorem dX10_aim_89 : decode cX10_aim 89 = .ok (.getfield 278, 3) := by decide +kernel
theorem dX10_aim_92 : decode cX10_aim 92 = .ok (.ifCond .eq 7, 3) := by decide +kernel
theorem dX10_aim_95 : decode cX10_aim 95 = .ok (.iconst 0, 1) := by decide +kernel
theorem dX10_aim_96 : decode cX10_aim 96 = .ok (.goto 10, 3) := by decide +kernel
theorem dX10_aim_99 : decode cX10_aim 99 = .ok (.aload_n 0, 1) := by decide +kernel
theorem dX10_aim_100 : decode cX10_aim 100 = .ok (.getfield 46, 3) := by decide +kernel
theorem dX10_aim_103 : decode cX10_aim 103 = .ok (.getfield 281, 3) := by decide +kernel
theorem dX10_aim_106 : decode cX10_aim 106 = .ok (.ireturn, 1) := by decide +kernel
theorem dX10_aim_107 : decode cX10_aim 107 = .ok (.aload_n 0, 1) := by decide +kernel
theorem dX10_aim_108 : decode cX10_aim 108 = .ok (.getfield 46, 3) := by decide +kernel
theorem dX10_aim_111 : decode cX10_aim 111 = .ok (.getfield 284, 3) := by decide +kernel
theorem dX10_aim_114 : decode cX10_aim 114 = .ok (.invokestatic 287, 3) := by decide +kernel
theorem dX10_aim_117 : decode cX10_aim 117 = .ok (.ireturn, 1) := by decide +kernel
theorem dX10_next_0 : decode cX10_next 0 = .ok (.aload_n 0, 1) := by decide +kernel
theorem dX10_next_1 : decode cX10_next 1 = .ok (.getfield 31, 3) := by decide +kernel
theorem dX10_next_4 : decode cX10_next 4 = .ok (.aload_n 0, 1) := by decide +kernel
theorem dX10_next_5 : decode cX10_next 5 = .ok (.getfield 20, 3) := by decide +kernel
theorem dX10_next_8 : decode cX10_next 8 = .ok (.invokevirtual 253, 3) := by decide +kernel
theorem dX10_next_11 : decode cX10_next 11 = .ok (.aload_n 0, 1) := by decide +kernel
theorem dX10_next_12 : decode cX10_next 12 = .ok (.getfield 10, 3) := by decide +kernel
theorem dX10_next_15 : decode cX10_next 15 = .ok (.invokevirtual 257, 3) := by decide +kernel
theorem dX10_next_18 : decode cX10_next 18 = .ok (.aload_n 0, 1) := by decide +kernel
theorem dX10_next_19 : decode cX10_next 19 = .ok (.getfield 20, 3) := by decide +kernel
theorem dX10_next_22 : decode cX10_next 22 = .ok (.iconst 1, 1) := by decide +kernel
theorem dX10_next_23 : decode cX10_next 23 = .ok (.aload_n 0, 1) := by decide +kernel
theorem dX10_next_24 : decode cX10_next 24 = .ok (.getfield 20, 3) := by decide +kernel
theorem dX10_next_27 : decode cX10_next 27 = .ok (.getfield 292, 3) := by decide +kernel
theorem dX10_next_30 : decode cX10_next 30 = .ok (.isub, 1) := by decide +kernel
theorem dX10_next_31 : decode cX10_next 31 = .ok (.putfield 292, 3) := by decide +kernel
theorem dX10_next_34 : decode cX10_next 34 = .ok (.aload_n 0, 1) := by decide +kernel
theorem dX10_next_35 : decode cX10_next 35 = .ok (.getfield 20, 3) := by decide +kernel
theorem dX10_next_38 : decode cX10_next 38 = .ok (.invokevirtual 295, 3) := by decide +kernel
theorem dX10_next_41 : decode cX10_next 41 = .ok (.aload_n 0, 1) := by decide +kernel
theorem dX10_next_42 : decode cX10_next 42 = .ok (.getfield 10, 3) := by decide +kernel
theorem dX10_next_45 : decode cX10_next 45 = .ok (.invokevirtual 298, 3) := by decide +kernel
theorem dX10_next_48 : decode cX10_next 48 = .ok (.aload_n 0, 1) := by decide +kernel
theorem dX10_next_49 : decode cX10_next 49 = .ok (.aload_n 0, 1) := by decide +kernel
theorem dX10_next_50 : decode cX10_next 50 = .ok (.getfield 10, 3) := by decide +kernel
theorem dX10_next_53 : decode cX10_next 53 = .ok (.invokevirtual 264, 3) := by decide +kernel
theorem dX10_next_56 : decode cX10_next 56 = .ok (.invokevirtual 267, 3) := by decide +kernel
theorem dX10_next_59 : decode cX10_next 59 = .ok (.ireturn, 1) := by decide +kernel
theorem dX10_shown_0 : decode cX10_shown 0 = .ok (.iload_n 1, 1) := by decide +kernel
theorem dX10_shown_1 : decode cX10_shown 1 = .ok (.iconst (-1), 1) := by decide +kernel
theorem dX10_shown_2 : decode cX10_shown 2 = .ok (.if_icmp .ge 6, 3) := by decide +kernel
theorem dX10_shown_5 : decode cX10_shown 5 = .ok (.bipush (-2), 2) := by decide +kernel
theorem dX10_shown_7 : decode cX10_shown 7 = .ok (.ireturn, 1) := by decide +kernel
theorem dX10_shown_8 : decode cX10_shown 8 = .ok (.iload_n 1, 1) := by decide +kernel
theorem dX10_shown_9 : decode cX10_shown 9 = .ok (.iconst (-1), 1) := by decide +kernel
theorem dX10_shown_10 : decode cX10_shown 10 = .ok (.if_icmp .ne 8, 3) := by decide +kernel
theorem dX10_shown_13 : decode cX10_shown 13 = .ok (.aload_n 0, 1) := by decide +kernel
theorem dX10_shown_14 : decode cX10_shown 14 = .ok (.getfield 75, 3) := by decide +kernel
theorem dX10_shown_17 : decode cX10_shown 17 = .ok (.ireturn, 1) := by decide +kernel
theorem dX10_shown_18 : decode cX10_shown 18 = .ok (.iload_n 1, 1) := by decide +kernel
theorem dX10_shown_19 : decode cX10_shown 19 = .ok (.aload_n 0, 1) := by decide +kernel
theorem dX10_shown_20 : decode cX10_shown 20 = .ok (.getfield 75, 3) := by decide +kernel
theorem dX10_shown_23 : decode cX10_shown 23 = .ok (.if_icmp .ge 9, 3) := by decide +kernel
theorem dX10_shown_26 : decode cX10_shown 26 = .ok (.iload_n 1, 1) := by decide +kernel
theorem dX10_shown_27 : decode cX10_shown 27 = .ok (.bipush 40, 2) := by decide +kernel
theorem dX10_shown_29 : decode cX10_shown 29 = .ok (.if_icmp .lt 5, 3) := by decide +kernel
theorem dX10_shown_32 : decode cX10_shown 32 = .ok (.iconst (-1), 1) := by decide +kernel
theorem dX10_shown_33 : decode cX10_shown 33 = .ok (.ireturn, 1) := by decide +kernel
theorem dX10_shown_34 : decode cX10_shown 34 = .ok (.aload_n 0, 1) := by decide +kernel
theorem dX10_shown_35 : decode cX10_shown 35 = .ok (.getfield 63, 3) := by decide +kernel
theorem dX10_shown_38 : decode cX10_shown 38 = .ok (.iload_n 1, 1) := by decide +kernel
theorem dX10_shown_39 : decode cX10_shown 39 = .ok (.iaload, 1) := by decide +kernel
theorem dX10_shown_40 : decode cX10_shown 40 = .ok (.ireturn, 1) := by decide +kernel
theorem dX10_feed_0 : decode cX10_feed 0 = .ok (.iload_n 2, 1) := by decide +kernel
theorem dX10_feed_1 : decode cX10_feed 1 = .ok (.iconst 1, 1) := by decide +kernel
theorem dX10_feed_2 : decode cX10_feed 2 = .ok (.iconst 4, 1) := by decide +kernel
theorem dX10_feed_3 : decode cX10_feed 3 = .ok (.invokestatic 82, 3) := by decide +kernel
theorem dX10_feed_6 : decode cX10_feed 6 = .ok (.ifCond .ne 6, 3) := by decide +kernel
theorem dX10_feed_9 : decode cX10_feed 9 = .ok (.bipush (-2), 2) := by decide +kernel
theorem dX10_feed_11 : decode cX10_feed 11 = .ok (.ireturn, 1) := by decide +kernel
theorem dX10_feed_12 : decode cX10_feed 12 = .ok (.aload_n 0, 1) := by decide +kernel
theorem dX10_feed_13 : decode cX10_feed 13 = .ok (.getfield 53, 3) := by decide +kernel
theorem dX10_feed_16 : decode cX10_feed 16 = .ok (.getfield 301, 3) := by decide +kernel
theorem dX10_feed_19 : decode cX10_feed 19 = .ok (.bipush 120, 2) := by decide +kernel
theorem dX10_feed_21 : decode cX10_feed 21 = .ok (.iload_n 2, 1) := by decide +kernel
theorem dX10_feed_22 : decode cX10_feed 22 = .ok (.isub, 1) := by decide +kernel
theorem dX10_feed_23 : decode cX10_feed 23 = .ok (.if_icmp .le 6, 3) := by decide +kernel
theorem dX10_feed_26 : decode cX10_feed 26 = .ok (.bipush (-4), 2) := by decide +kernel
theorem dX10_feed_28 : decode cX10_feed 28 = .ok (.ireturn, 1) := by decide +kernel
theorem dX10_feed_29 : decode cX10_feed 29 = .ok (.iload_n 2, 1) := by decide +kernel
theorem dX10_feed_30 : decode cX10_feed 30 = .ok (.iconst 1, 1) := by decide +kernel
theorem dX10_feed_31 : decode cX10_feed 31 = .ok (.isub, 1) := by decide +kernel
theorem dX10_feed_32 : decode cX10_feed 32 = .ok (.istore_n 3, 1) := by decide +kernel
theorem dX10_feed_33 : decode cX10_feed 33 = .ok (.iload_n 3, 1) := by decide +kernel
theorem dX10_feed_34 : decode cX10_feed 34 = .ok (.ifCond .lt 23, 3) := by decide +kernel
theorem dX10_feed_37 : decode cX10_feed 37 = .ok (.aload_n 0, 1) := by decide +kernel
theorem dX10_feed_38 : decode cX10_feed 38 = .ok (.getfield 53, 3) := by decide +kernel
theorem dX10_feed_41 : decode cX10_feed 41 = .ok (.iload_n 1, 1) := by decide +kernel
theorem dX10_feed_42 : decode cX10_feed 42 = .ok (.bipush 8, 2) := by decide +kernel
theorem dX10_feed_44 : decode cX10_feed 44 = .ok (.iload_n 3, 1) := by decide +kernel
theorem dX10_feed_45 : decode cX10_feed 45 = .ok (.imul, 1) := by decide +kernel
theorem dX10_feed_46 : decode cX10_feed 46 = .ok (.ishr, 1) := by decide +kernel
theorem dX10_feed_47 : decode cX10_feed 47 = .ok (.i2b, 1) := by decide +kernel
theorem dX10_feed_48 : decode cX10_feed 48 = .ok (.invokevirtual 304, 3) := by decide +kernel
theorem dX10_feed_51 : decode cX10_feed 51 = .ok (.iinc 3 (-1), 3) := by decide +kernel
theorem dX10_feed_54 : decode cX10_feed 54 = .ok (.goto (-21), 3) := by decide +kernel
theorem dX10_feed_57 : decode cX10_feed 57 = .ok (.aload_n 0, 1) := by decide +kernel
theorem dX10_feed_58 : decode cX10_feed 58 = .ok (.getfield 53, 3) := by decide +kernel
theorem dX10_feed_61 : decode cX10_feed 61 = .ok (.getfield 301, 3) := by decide +kernel
theorem dX10_feed_64 : decode cX10_feed 64 = .ok (.ireturn, 1) := by decide +kernel
theorem dX10_wipe_0 : decode cX10_wipe 0 = .ok (.aload_n 0, 1) := by decide +kernel
theorem dX10_wipe_1 : decode cX10_wipe 1 = .ok (.getfield 53, 3) := by decide +kernel
theorem dX10_wipe_4 : decode cX10_wipe 4 = .ok (.getfield 301, 3) := by decide +kernel
theorem dX10_wipe_7 : decode cX10_wipe 7 = .ok (.istore_n 1, 1) := by decide +kernel
theorem dX10_wipe_8 : decode cX10_wipe 8 = .ok (.aload_n 0, 1) := by decide +kernel
theorem dX10_wipe_9 : decode cX10_wipe 9 = .ok (.getfield 53, 3) := by decide +kernel
theorem dX10_wipe_12 : decode cX10_wipe 12 = .ok (.iconst 0, 1) := by decide +kernel
theorem dX10_wipe_13 : decode cX10_wipe 13 = .ok (.putfield 301, 3) := by decide +kernel
theorem dX10_wipe_16 : decode cX10_wipe 16 = .ok (.iload_n 1, 1) := by decide +kernel
theorem dX10_wipe_17 : decode cX10_wipe 17 = .ok (.ireturn, 1) := by decide +kernel
theorem dX10_text_0 : decode cX10_text 0 = .ok (.aload_n 0, 1) := by decide +kernel
theorem dX10_text_1 : decode cX10_text 1 = .ok (.getfield 53, 3) := by decide +kernel
theorem dX10_text_4 : decode cX10_text 4 = .ok (.bipush 10, 2) := by decide +kernel
theorem dX10_text_6 : decode cX10_text 6 = .ok (.aload_n 0, 1) := by decide +kernel
theorem dX10_text_7 : decode cX10_text 7 = .ok (.getfield 20, 3) := by decide +kernel
theorem dX10_text_10 : decode cX10_text 10 = .ok (.getfield 161, 3) := by decide +kernel
theorem dX10_text_13 : decode cX10_text 13 = .ok (.isub, 1) := by decide +kernel
theorem dX10_text_14 : decode cX10_text 14 = .ok (.invokevirtual 308, 3) := by decide +kernel
theorem dX10_text_17 : decode cX10_text 17 = .ok (.aload_n 0, 1) := by decide +kernel
theorem dX10_text_18 : decode cX10_text 18 = .ok (.getfield 53, 3) := by decide +kernel
theorem dX10_text_21 : decode cX10_text 21 = .ok (.iconst 0, 1) := by decide +kernel
theorem dX10_text_22 : decode cX10_text 22 = .ok (.putfield 301, 3) := by decide +kernel
theorem dX10_text_25 : decode cX10_text 25 = .ok (.aload_n 0, 1) := by decide +kernel
theorem dX10_text_26 : decode cX10_text 26 = .ok (.getfield 53, 3) := by decide +kernel
theorem dX10_text_29 : decode cX10_text 29 = .ok (.getfield 311, 3) := by decide +kernel
theorem dX10_text_32 : decode cX10_text 32 = .ok (.ifCond .lt 14, 3) := by decide +kernel
theorem dX10_text_35 : decode cX10_text 35 = .ok (.bipush (-100), 2) := by decide +kernel
theorem dX10_text_37 : decode cX10_text 37 = .ok (.aload_n 0, 1) := by decide +kernel
theorem dX10_text_38 : decode cX10_text 38 = .ok (.getfield 53, 3) := by decide +kernel
theorem dX10_text_41 : decode cX10_text 41 = .ok (.getfield 311, 3) := by decide +kernel
theorem dX10_text_44 : decode cX10_text 44 = .ok (.isub, 1) := by decide +kernel
theorem dX10_text_45 : decode cX10_text 45 = .ok (.ireturn, 1) := by decide +kernel
theorem dX10_text_46 : decode cX10_text 46 = .ok (.iconst 0, 1) := by decide +kernel
theorem dX10_text_47 : decode cX10_text 47 = .ok (.istore_n 1, 1) := by decide +kernel
theorem dX10_text_48 : decode cX10_text 48 = .ok (.iload_n 1, 1) := by decide +kernel
theorem dX10_text_49 : decode cX10_text 49 = .ok (.aload_n 0, 1) := by decide +kernel
theorem dX10_text_50 : decode cX10_text 50 = .ok (.getfield 53, 3) := by decide +kernel
theorem dX10_text_53 : decode cX10_text 53 = .ok (.getfield 314, 3) := by decide +kernel
theorem dX10_text_56 : decode cX10_text 56 = .ok (.if_icmp .ge 61, 3) := by decide +kernel
theorem dX10_text_59 : decode cX10_text 59 = .ok (.aload_n 0, 1) := by decide +kernel
theorem dX10_text_60 : decode cX10_text 60 = .ok (.getfield 20, 3) := by decide +kernel
theorem dX10_text_63 : decode cX10_text 63 = .ok (.getfield 161, 3) := by decide +kernel
theorem dX10_text_66 : decode cX10_text 66 = .ok (.bipush 10, 2) := by decide +kernel
theorem dX10_text_68 : decode cX10_text 68 = .ok (.if_icmp .ge 49, 3) := by decide +kernel
theorem dX10_text_71 : decode cX10_text 71 = .ok (.aload_n 0, 1) := by decide +kernel
theorem dX10_text_72 : decode cX10_text 72 = .ok (.getfield 20, 3) := by decide +kernel
theorem dX10_text_75 : decode cX10_text 75 = .ok (.getfield 164, 3) := by decide +kernel
theorem dX10_text_78 : decode cX10_text 78 = .ok (.aload_n 0, 1) := by decide +kernel
theorem dX10_text_79 : decode cX10_text 79 = .ok (.getfield 20, 3) := by decide +kernel
theorem dX10_text_82 : decode cX10_text 82 = .ok (.getfield 161, 3) := by decide +kernel
theorem dX10_text_85 : decode cX10_text 85 = .ok (.aaload, 1) := by decide +kernel
theorem dX10_text_86 : decode cX10_text 86 = .ok (.aload_n 0, 1) := by decide +kernel
theorem dX10_text_87 : decode cX10_text 87 = .ok (.getfield 53, 3) := by decide +kernel
theorem dX10_text_90 : decode cX10_text 90 = .ok (.getfield 317, 3) := by decide +kernel
theorem dX10_text_93 : decode cX10_text 93 = .ok (.iload_n 1, 1) := by decide +kernel
theorem dX10_text_94 : decode cX10_text 94 = .ok (.aaload, 1) := by decide +kernel
theorem dX10_text_95 : decode cX10_text 95 = .ok (.invokevirtual 320, 3) := by decide +kernel
theorem dX10_text_98 : decode cX10_text 98 = .ok (.aload_n 0, 1) := by decide +kernel
theorem dX10_text_99 : decode cX10_text 99 = .ok (.getfield 20, 3) := by decide +kernel
theorem dX10_text_102 : decode cX10_text 102 = .ok (.dup, 1) := by decide +kernel
theorem dX10_text_103 : decode cX10_text 103 = .ok (.getfield 161, 3) := by decide +kernel
theorem dX10_text_106 : decode cX10_text 106 = .ok (.iconst 1, 1) := by decide +kernel
theorem dX10_text_107 : decode cX10_text 107 = .ok (.iadd, 1) := by decide +kernel
theorem dX10_text_108 : decode cX10_text 108 = .ok (.putfield 161, 3) := by decide +kernel
theorem dX10_text_111 : decode cX10_text 111 = .ok (.iinc 1 1, 3) := by decide +kernel
theorem dX10_text_114 : decode cX10_text 114 = .ok (.goto (-66), 3) := by decide +kernel
theorem dX10_text_117 : decode cX10_text 117 = .ok (.aload_n 0, 1) := by decide +kernel
theorem dX10_text_118 : decode cX10_text 118 = .ok (.getfield 10, 3) := by decide +kernel
theorem dX10_text_121 : decode cX10_text 121 = .ok (.iconst 0, 1) := by decide +kernel
theorem dX10_text_122 : decode cX10_text 122 = .ok (.invokevirtual 90, 3) := by decide +kernel
theorem dX10_text_125 : decode cX10_text 125 = .ok (.aload_n 0, 1) := by decide +kernel
theorem dX10_text_126 : decode cX10_text 126 = .ok (.getfield 53, 3) := by decide +kernel
theorem dX10_text_129 : decode cX10_text 129 = .ok (.getfield 314, 3) := by decide +kernel
theorem dX10_text_132 : decode cX10_text 132 = .ok (.ireturn, 1) := by decide +kernel
theorem dX10_tell_0 : decode cX10_tell 0 = .ok (.aload_n 0, 1) := by decide +kernel
theorem dX10_tell_1 : decode cX10_tell 1 = .ok (.getfield 20, 3) := by decide +kernel
theorem dX10_tell_4 : decode cX10_tell 4 = .ok (.iload_n 1, 1) := by decide +kernel
theorem dX10_tell_5 : decode cX10_tell 5 = .ok (.invokevirtual 174, 3) := by decide +kernel
theorem dX10_tell_8 : decode cX10_tell 8 = .ok (.ifCond .eq 12, 3) := by decide +kernel
theorem dX10_tell_11 : decode cX10_tell 11 = .ok (.iload_n 2, 1) := by decide +kernel
theorem dX10_tell_12 : decode cX10_tell 12 = .ok (.iconst 0, 1) := by decide +kernel
theorem dX10_tell_13 : decode cX10_tell 13 = .ok (.iconst 3, 1) := by decide +kernel
theorem dX10_tell_14 : decode cX10_tell 14 = .ok (.invokestatic 82, 3) := by decide +kernel
theorem dX10_tell_17 : decode cX10_tell 17 = .ok (.ifCond .ne 6, 3) := by decide +kernel
theorem dX10_tell_20 : decode cX10_tell 20 = .ok (.bipush (-2), 2) := by decide +kernel
theorem dX10_tell_22 : decode cX10_tell 22 = .ok (.ireturn, 1) := by decide +kernel
theorem dX10_tell_23 : decode cX10_tell 23 = .ok (.aload_n 0, 1) := by decide +kernel
theorem dX10_tell_24 : decode cX10_tell 24 = .ok (.getfield 20, 3) := by decide +kernel
theorem dX10_tell_27 : decode cX10_tell 27 = .ok (.getfield 164, 3) := by decide +kernel
theorem dX10_tell_30 : decode cX10_tell 30 = .ok (.iload_n 1, 1) := by decide +kernel
theorem dX10_tell_31 : decode cX10_tell 31 = .ok (.aaload, 1) := by decide +kernel
theorem dX10_tell_32 : decode cX10_tell 32 = .ok (.astore_n 3, 1) := by decide +kernel
theorem dX10_tell_33 : decode cX10_tell 33 = .ok (.aload_n 0, 1) := by decide +kernel
theorem dX10_tell_34 : decode cX10_tell 34 = .ok (.getfield 59, 3) := by decide +kernel
theorem dX10_tell_37 : decode cX10_tell 37 = .ok (.iload_n 2, 1) := by decide +kernel
theorem dX10_tell_38 : decode cX10_tell 38 = .ok (.aaload, 1) := by decide +kernel
theorem dX10_tell_39 : decode cX10_tell 39 = .ok (.astore 4, 2) := by decide +kernel
theorem dX10_tell_41 : decode cX10_tell 41 = .ok (.aload 4, 2) := by decide +kernel
theorem dX10_tell_43 : decode cX10_tell 43 = .ok (.iconst 0, 1) := by decide +kernel
theorem dX10_tell_44 : decode cX10_tell 44 = .ok (.iconst 0, 1) := by decide +kernel
theorem dX10_tell_45 : decode cX10_tell 45 = .ok (.invokevirtual 323, 3) := by decide +kernel
theorem dX10_tell_48 : decode cX10_tell 48 = .ok (.aload 4, 2) := by decide +kernel
theorem dX10_tell_50 : decode cX10_tell 50 = .ok (.aload_n 3, 1) := by decide +kernel
theorem dX10_tell_51 : decode cX10_tell 51 = .ok (.getfield 325, 3) := by decide +kernel
theorem dX10_tell_54 : decode cX10_tell 54 = .ok (.invokestatic 326, 3) := by decide +kernel
theorem dX10_tell_57 : decode cX10_tell 57 = .ok (.invokevirtual 330, 3) := by decide +kernel
theorem dX10_tell_60 : decode cX10_tell 60 = .ok (.aload_n 3, 1) := by decide +kernel
theorem dX10_tell_61 : decode cX10_tell 61 = .ok (.getfield 325, 3) := by decide +kernel
theorem dX10_tell_64 : decode cX10_tell 64 = .ok (.ifCond .eq 12, 3) := by decide +kernel
theorem dX10_tell_67 : decode cX10_tell 67 = .ok (.aload 4, 2) := by decide +kernel
theorem dX10_tell_69 : decode cX10_tell 69 = .ok (.aload_n 3, 1) := by decide +kernel
theorem dX10_tell_70 : decode cX10_tell 70 = .ok (.getfield 334, 3) := by decide +kernel
theorem dX10_tell_73 : decode cX10_tell 73 = .ok (.invokevirtual 335, 3) := by decide +kernel
theorem dX10_tell_76 : decode cX10_tell 76 = .ok (.aload 4, 2) := by decide +kernel
theorem dX10_tell_78 : decode cX10_tell 78 = .ok (.ldc_w 338, 3) := by decide +kernel
theorem dX10_tell_81 : decode cX10_tell 81 = .ok (.invokevirtual 330, 3) := by decide +kernel
theorem dX10_tell_84 : decode cX10_tell 84 = .ok (.aload 4, 2) := by decide +kernel
theorem dX10_tell_86 : decode cX10_tell 86 = .ok (.aload_n 3, 1) := by decide +kernel
theorem dX10_tell_87 : decode cX10_tell 87 = .ok (.getfield 340, 3) := by decide +kernel
theorem dX10_tell_90 : decode cX10_tell 90 = .ok (.invokestatic 341, 3) := by decide +kernel
theorem dX10_tell_93 : decode cX10_tell 93 = .ok (.invokevirtual 330, 3) := by decide +kernel
theorem dX10_tell_96 : decode cX10_tell 96 = .ok (.aload_n 3, 1) := by decide +kernel
theorem dX10_tell_97 : decode cX10_tell 97 = .ok (.getfield 340, 3) := by decide +kernel
theorem dX10_tell_100 : decode cX10_tell 100 = .ok (.iconst 5, 1) := by decide +kernel
theorem dX10_tell_101 : decode cX10_tell 101 = .ok (.if_icmp .eq 12, 3) := by decide +kernel
theorem dX10_tell_104 : decode cX10_tell 104 = .ok (.aload 4, 2) := by decide +kernel
theorem dX10_tell_106 : decode cX10_tell 106 = .ok (.aload_n 3, 1) := by decide +kernel
theorem dX10_tell_107 : decode cX10_tell 107 = .ok (.getfield 344, 3) := by decide +kernel
theorem dX10_tell_110 : decode cX10_tell 110 = .ok (.invokevirtual 335, 3) := by decide +kernel
theorem dX10_tell_113 : decode cX10_tell 113 = .ok (.aload_n 3, 1) := by decide +kernel
theorem dX10_tell_114 : decode cX10_tell 114 = .ok (.getfield 340, 3) := by decide +kernel
theorem dX10_tell_117 : decode cX10_tell 117 = .ok (.iconst 3, 1) := by decide +kernel
theorem dX10_tell_118 : decode cX10_tell 118 = .ok (.if_icmp .eq 11, 3) := by decide +kernel
theorem dX10_tell_121 : decode cX10_tell 121 = .ok (.aload_n 3, 1) := by decide +kernel
theorem dX10_tell_122 : decode cX10_tell 122 = .ok (.getfield 340, 3) := by decide +kernel
theorem dX10_tell_125 : decode cX10_tell 125 = .ok (.iconst 4, 1) := by decide +kernel
theorem dX10_tell_126 : decode cX10_tell 126 = .ok (.if_icmp .ne 12, 3) := by decide +kernel
theorem dX10_tell_129 : decode cX10_tell 129 = .ok (.aload 4, 2) := by decide +kernel
theorem dX10_tell_131 : decode cX10_tell 131 = .ok (.aload_n 3, 1) := by decide +kernel
theorem dX10_tell_132 : decode cX10_tell 132 = .ok (.getfield 345, 3) := by decide +kernel
theorem dX10_tell_135 : decode cX10_tell 135 = .ok (.invokevirtual 335, 3) := by decide +kernel
theorem dX10_tell_138 : decode cX10_tell 138 = .ok (.aload 4, 2) := by decide +kernel
theorem dX10_tell_140 : decode cX10_tell 140 = .ok (.getfield 348, 3) := by decide +kernel
theorem dX10_tell_143 : decode cX10_tell 143 = .ok (.ireturn, 1) := by decide +kernel
theorem dX10_seed_0 : decode cX10_seed 0 = .ok (.aload_n 0, 1) := by decide +kernel
theorem dX10_seed_1 : decode cX10_seed 1 = .ok (.getfield 20, 3) := by decide +kernel
theorem dX10_seed_4 : decode cX10_seed 4 = .ok (.getfield 349, 3) := by decide +kernel
theorem dX10_seed_7 : decode cX10_seed 7 = .ok (.istore_n 2, 1) := by decide +kernel
theorem dX10_seed_8 : decode cX10_seed 8 = .ok (.aload_n 0, 1) := by decide +kernel
theorem dX10_seed_9 : decode cX10_seed 9 = .ok (.getfield 20, 3) := by decide +kernel
theorem dX10_seed_12 : decode cX10_seed 12 = .ok (.iload_n 1, 1) := by decide +kernel
theorem dX10_seed_13 : decode cX10_seed 13 = .ok (.putfield 349, 3) := by decide +kernel
theorem dX10_seed_16 : decode cX10_seed 16 = .ok (.iload_n 2, 1) := by decide +kernel
theorem dX10_seed_17 : decode cX10_seed 17 = .ok (.ireturn, 1) := by decide +kernel
theorem dX10_deal_0 : decode cX10_deal 0 = .ok (.iload_n 1, 1) := by decide +kernel
theorem dX10_deal_1 : decode cX10_deal 1 = .ok (.iconst 0, 1) := by decide +kernel
theorem dX10_deal_2 : decode cX10_deal 2 = .ok (.bipush 8, 2) := by decide +kernel
theorem dX10_deal_4 : decode cX10_deal 4 = .ok (.invokestatic 82, 3) := by decide +kernel
theorem dX10_deal_7 : decode cX10_deal 7 = .ok (.ifCond .ne 6, 3) := by decide +kernel
theorem dX10_deal_10 : decode cX10_deal 10 = .ok (.bipush (-2), 2) := by decide +kernel
theorem dX10_deal_12 : decode cX10_deal 12 = .ok (.ireturn, 1) := by decide +kernel
theorem dX10_deal_13 : decode cX10_deal 13 = .ok (.iconst 0, 1) := by decide +kernel
theorem dX10_deal_14 : decode cX10_deal 14 = .ok (.istore_n 2, 1) := by decide +kernel
theorem dX10_deal_15 : decode cX10_deal 15 = .ok (.iload_n 2, 1) := by decide +kernel
theorem dX10_deal_16 : decode cX10_deal 16 = .ok (.iload_n 1, 1) := by decide +kernel
theorem dX10_deal_17 : decode cX10_deal 17 = .ok (.if_icmp .ge 85, 3) := by decide +kernel
theorem dX10_deal_20 : decode cX10_deal 20 = .ok (.aload_n 0, 1) := by decide +kernel
theorem dX10_deal_21 : decode cX10_deal 21 = .ok (.getfield 20, 3) := by decide +kernel
theorem dX10_deal_24 : decode cX10_deal 24 = .ok (.getfield 68, 3) := by decide +kernel
theorem dX10_deal_27 : decode cX10_deal 27 = .ok (.bipush 8, 2) := by decide +kernel
theorem dX10_deal_29 : decode cX10_deal 29 = .ok (.if_icmp .ge 73, 3) := by decide +kernel
theorem dX10_deal_32 : decode cX10_deal 32 = .ok (.aload_n 0, 1) := by decide +kernel
theorem dX10_deal_33 : decode cX10_deal 33 = .ok (.getfield 20, 3) := by decide +kernel
theorem dX10_deal_36 : decode cX10_deal 36 = .ok (.invokevirtual 352, 3) := by decide +kernel
theorem dX10_deal_39 : decode cX10_deal 39 = .ok (.iconst 2, 1) := by decide +kernel
theorem dX10_deal_40 : decode cX10_deal 40 = .ok (.irem, 1) := by decide +kernel
theorem dX10_deal_41 : decode cX10_deal 41 = .ok (.istore_n 3, 1) := by decide +kernel
theorem dX10_deal_42 : decode cX10_deal 42 = .ok (.aload_n 0, 1) := by decide +kernel
theorem dX10_deal_43 : decode cX10_deal 43 = .ok (.getfield 20, 3) := by decide +kernel
theorem dX10_deal_46 : decode cX10_deal 46 = .ok (.invokevirtual 352, 3) := by decide +kernel
theorem dX10_deal_49 : decode cX10_deal 49 = .ok (.bipush 6, 2) := by decide +kernel
theorem dX10_deal_51 : decode cX10_deal 51 = .ok (.irem, 1) := by decide +kernel
theorem dX10_deal_52 : decode cX10_deal 52 = .ok (.istore 4, 2) := by decide +kernel
theorem dX10_deal_54 : decode cX10_deal 54 = .ok (.aload_n 0, 1) := by decide +kernel
theorem dX10_deal_55 : decode cX10_deal 55 = .ok (.getfield 20, 3) := by decide +kernel
theorem dX10_deal_58 : decode cX10_deal 58 = .ok (.invokevirtual 352, 3) := by decide +kernel
theorem dX10_deal_61 : decode cX10_deal 61 = .ok (.bipush 9, 2) := by decide +kernel
theorem dX10_deal_63 : decode cX10_deal 63 = .ok (.irem, 1) := by decide +kernel
theorem dX10_deal_64 : decode cX10_deal 64 = .ok (.iconst 1, 1) := by decide +kernel
theorem dX10_deal_65 : decode cX10_deal 65 = .ok (.iadd, 1) := by decide +kernel
theorem dX10_deal_66 : decode cX10_deal 66 = .ok (.istore 5, 2) := by decide +kernel
theorem dX10_deal_68 : decode cX10_deal 68 = .ok (.aload_n 0, 1) := by decide +kernel
theorem dX10_deal_69 : decode cX10_deal 69 = .ok (.getfield 20, 3) := by decide +kernel
theorem dX10_deal_72 : decode cX10_deal 72 = .ok (.invokevirtual 352, 3) := by decide +kernel
theorem dX10_deal_75 : decode cX10_deal 75 = .ok (.bipush 9, 2) := by decide +kernel
theorem dX10_deal_77 : decode cX10_deal 77 = .ok (.irem, 1) := by decide +kernel
theorem dX10_deal_78 : decode cX10_deal 78 = .ok (.iconst 1, 1) := by decide +kernel
theorem dX10_deal_79 : decode cX10_deal 79 = .ok (.iadd, 1) := by decide +kernel
theorem dX10_deal_80 : decode cX10_deal 80 = .ok (.istore 6, 2) := by decide +kernel
theorem dX10_deal_82 : decode cX10_deal 82 = .ok (.aload_n 0, 1) := by decide +kernel
theorem dX10_deal_83 : decode cX10_deal 83 = .ok (.getfield 20, 3) := by decide +kernel
theorem dX10_deal_86 : decode cX10_deal 86 = .ok (.iload_n 3, 1) := by decide +kernel
theorem dX10_deal_87 : decode cX10_deal 87 = .ok (.iload 4, 2) := by decide +kernel
theorem dX10_deal_89 : decode cX10_deal 89 = .ok (.iload 5, 2) := by decide +kernel
theorem dX10_deal_91 : decode cX10_deal 91 = .ok (.iload 6, 2) := by decide +kernel
theorem dX10_deal_93 : decode cX10_deal 93 = .ok (.invokevirtual 86, 3) := by decide +kernel
theorem dX10_deal_96 : decode cX10_deal 96 = .ok (.iinc 2 1, 3) := by decide +kernel
theorem dX10_deal_99 : decode cX10_deal 99 = .ok (.goto (-84), 3) := by decide +kernel
theorem dX10_deal_102 : decode cX10_deal 102 = .ok (.aload_n 0, 1) := by decide +kernel
theorem dX10_deal_103 : decode cX10_deal 103 = .ok (.getfield 10, 3) := by decide +kernel
theorem dX10_deal_106 : decode cX10_deal 106 = .ok (.iconst 0, 1) := by decide +kernel
theorem dX10_deal_107 : decode cX10_deal 107 = .ok (.invokevirtual 90, 3) := by decide +kernel
theorem dX10_deal_110 : decode cX10_deal 110 = .ok (.aload_n 0, 1) := by decide +kernel
theorem dX10_deal_111 : decode cX10_deal 111 = .ok (.getfield 20, 3) := by decide +kernel
theorem dX10_deal_114 : decode cX10_deal 114 = .ok (.getfield 68, 3) := by decide +kernel
theorem dX10_deal_117 : decode cX10_deal 117 = .ok (.ireturn, 1) := by decide +kernel
theorem dX10_sheet_0 : decode cX10_sheet 0 = .ok (.iload_n 1, 1) := by decide +kernel
theorem dX10_sheet_1 : decode cX10_sheet 1 = .ok (.iconst 0, 1) := by decide +kernel
theorem dX10_sheet_2 : decode cX10_sheet 2 = .ok (.iconst 3, 1) := by decide +kernel
theorem dX10_sheet_3 : decode cX10_sheet 3 = .ok (.invokestatic 82, 3) := by decide +kernel
theorem dX10_sheet_6 : decode cX10_sheet 6 = .ok (.ifCond .eq 12, 3) := by decide +kernel
theorem dX10_sheet_9 : decode cX10_sheet 9 = .ok (.iload_n 2, 1) := by decide +kernel
theorem dX10_sheet_10 : decode cX10_sheet 10 = .ok (.iconst (-1), 1) := by decide +kernel
theorem dX10_sheet_11 : decode cX10_sheet 11 = .ok (.iconst 1, 1) := by decide +kernel
theorem dX10_sheet_12 : decode cX10_sheet 12 = .ok (.invokestatic 82, 3) := by decide +kernel
theorem dX10_sheet_15 : decode cX10_sheet 15 = .ok (.ifCond .ne 6, 3) := by decide +kernel
theorem dX10_sheet_18 : decode cX10_sheet 18 = .ok (.bipush (-2), 2) := by decide +kernel
theorem dX10_sheet_20 : decode cX10_sheet 20 = .ok (.ireturn, 1) := by decide +kernel
theorem dX10_sheet_21 : decode cX10_sheet 21 = .ok (.iload_n 2, 1) := by decide +kernel
theorem dX10_sheet_22 : decode cX10_sheet 22 = .ok (.iconst (-1), 1) := by decide +kernel
theorem dX10_sheet_23 : decode cX10_sheet 23 = .ok (.if_icmp .ne 16, 3) := by decide +kernel
theorem dX10_sheet_26 : decode cX10_sheet 26 = .ok (.aload_n 0, 1) := by decide +kernel
theorem dX10_sheet_27 : decode cX10_sheet 27 = .ok (.getfield 59, 3) := by decide +kernel
theorem dX10_sheet_30 : decode cX10_sheet 30 = .ok (.iload_n 1, 1) := by decide +kernel
theorem dX10_sheet_31 : decode cX10_sheet 31 = .ok (.aaload, 1) := by decide +kernel
theorem dX10_sheet_32 : decode cX10_sheet 32 = .ok (.iconst (-1), 1) := by decide +kernel
theorem dX10_sheet_33 : decode cX10_sheet 33 = .ok (.iconst 0, 1) := by decide +kernel
theorem dX10_sheet_34 : decode cX10_sheet 34 = .ok (.invokevirtual 323, 3) := by decide +kernel
theorem dX10_sheet_37 : decode cX10_sheet 37 = .ok (.iconst 1, 1) := by decide +kernel
theorem dX10_sheet_38 : decode cX10_sheet 38 = .ok (.ireturn, 1) := by decide +kernel
theorem dX10_sheet_39 : decode cX10_sheet 39 = .ok (.iload_n 3, 1) := by decide +kernel
theorem dX10_sheet_40 : decode cX10_sheet 40 = .ok (.bipush 40, 2) := by decide +kernel
theorem dX10_sheet_42 : decode cX10_sheet 42 = .ok (.if_icmp .le 6, 3) := by decide +kernel
theorem dX10_sheet_45 : decode cX10_sheet 45 = .ok (.bipush (-2), 2) := by decide +kernel
theorem dX10_sheet_47 : decode cX10_sheet 47 = .ok (.ireturn, 1) := by decide +kernel
theorem dX10_sheet_48 : decode cX10_sheet 48 = .ok (.iload_n 3, 1) := by decide +kernel
theorem dX10_sheet_49 : decode cX10_sheet 49 = .ok (.ifCond .ge 6, 3) := by decide +kernel
theorem dX10_sheet_52 : decode cX10_sheet 52 = .ok (.bipush (-14), 2) := by decide +kernel
theorem dX10_sheet_54 : decode cX10_sheet 54 = .ok (.ireturn, 1) := by decide +kernel
theorem dX10_sheet_55 : decode cX10_sheet 55 = .ok (.aload_n 0, 1) := by decide +kernel
theorem dX10_sheet_56 : decode cX10_sheet 56 = .ok (.getfield 59, 3) := by decide +kernel
theorem dX10_sheet_59 : decode cX10_sheet 59 = .ok (.iload_n 1, 1) := by decide +kernel
theorem dX10_sheet_60 : decode cX10_sheet 60 = .ok (.aaload, 1) := by decide +kernel
theorem dX10_sheet_61 : decode cX10_sheet 61 = .ok (.iload_n 2, 1) := by decide +kernel
theorem dX10_sheet_62 : decode cX10_sheet 62 = .ok (.iload_n 3, 1) := by decide +kernel
end
section
theorem dX10_sheet_63 : decode cX10_sheet 63 = .ok (.invokevirtual 323, 3) := by decide +kernel
theorem dX10_sheet_66 : decode cX10_sheet 66 = .ok (.iconst 1, 1) := by decide +kernel
theorem dX10_sheet_67 : decode cX10_sheet 67 = .ok (.ireturn, 1) := by decide +kernel
theorem dX10_write_0 : decode cX10_write 0 = .ok (.aload_n 0, 1) := by decide +kernel
theorem dX10_write_1 : decode cX10_write 1 = .ok (.iload_n 1, 1) := by decide +kernel
theorem dX10_write_2 : decode cX10_write 2 = .ok (.iload_n 2, 1) := by decide +kernel
theorem dX10_write_3 : decode cX10_write 3 = .ok (.invokevirtual 355, 3) := by decide +kernel
theorem dX10_write_6 : decode cX10_write 6 = .ok (.istore 4, 2) := by decide +kernel
theorem dX10_write_8 : decode cX10_write 8 = .ok (.iload 4, 2) := by decide +kernel
theorem dX10_write_10 : decode cX10_write 10 = .ok (.ifCond .eq 6, 3) := by decide +kernel
theorem dX10_write_13 : decode cX10_write 13 = .ok (.iload 4, 2) := by decide +kernel
theorem dX10_write_15 : decode cX10_write 15 = .ok (.ireturn, 1) := by decide +kernel
theorem dX10_write_16 : decode cX10_write 16 = .ok (.aload_n 0, 1) := by decide +kernel
theorem dX10_write_17 : decode cX10_write 17 = .ok (.getfield 59, 3) := by decide +kernel
theorem dX10_write_20 : decode cX10_write 20 = .ok (.iload_n 1, 1) := by decide +kernel
theorem dX10_write_21 : decode cX10_write 21 = .ok (.aaload, 1) := by decide +kernel
theorem dX10_write_22 : decode cX10_write 22 = .ok (.getfield 358, 3) := by decide +kernel
theorem dX10_write_25 : decode cX10_write 25 = .ok (.iload_n 2, 1) := by decide +kernel
theorem dX10_write_26 : decode cX10_write 26 = .ok (.aload_n 0, 1) := by decide +kernel
theorem dX10_write_27 : decode cX10_write 27 = .ok (.getfield 59, 3) := by decide +kernel
theorem dX10_write_30 : decode cX10_write 30 = .ok (.iload_n 1, 1) := by decide +kernel
theorem dX10_write_31 : decode cX10_write 31 = .ok (.aaload, 1) := by decide +kernel
theorem dX10_write_32 : decode cX10_write 32 = .ok (.getfield 361, 3) := by decide +kernel
theorem dX10_write_35 : decode cX10_write 35 = .ok (.ifCond .ne 8, 3) := by decide +kernel
theorem dX10_write_38 : decode cX10_write 38 = .ok (.iload_n 3, 1) := by decide +kernel
theorem dX10_write_39 : decode cX10_write 39 = .ok (.i2b, 1) := by decide +kernel
theorem dX10_write_40 : decode cX10_write 40 = .ok (.goto 4, 3) := by decide +kernel
theorem dX10_write_43 : decode cX10_write 43 = .ok (.iload_n 3, 1) := by decide +kernel
theorem dX10_write_44 : decode cX10_write 44 = .ok (.iastore, 1) := by decide +kernel
theorem dX10_write_45 : decode cX10_write 45 = .ok (.iconst 1, 1) := by decide +kernel
theorem dX10_write_46 : decode cX10_write 46 = .ok (.ireturn, 1) := by decide +kernel
theorem dX10_item_0 : decode cX10_item 0 = .ok (.aload_n 0, 1) := by decide +kernel
theorem dX10_item_1 : decode cX10_item 1 = .ok (.iload_n 1, 1) := by decide +kernel
theorem dX10_item_2 : decode cX10_item 2 = .ok (.iload_n 2, 1) := by decide +kernel
theorem dX10_item_3 : decode cX10_item 3 = .ok (.invokevirtual 355, 3) := by decide +kernel
theorem dX10_item_6 : decode cX10_item 6 = .ok (.istore_n 3, 1) := by decide +kernel
theorem dX10_item_7 : decode cX10_item 7 = .ok (.iload_n 3, 1) := by decide +kernel
theorem dX10_item_8 : decode cX10_item 8 = .ok (.ifCond .eq 7, 3) := by decide +kernel
theorem dX10_item_11 : decode cX10_item 11 = .ok (.iload_n 3, 1) := by decide +kernel
theorem dX10_item_12 : decode cX10_item 12 = .ok (.goto 14, 3) := by decide +kernel
theorem dX10_item_15 : decode cX10_item 15 = .ok (.aload_n 0, 1) := by decide +kernel
theorem dX10_item_16 : decode cX10_item 16 = .ok (.getfield 59, 3) := by decide +kernel
theorem dX10_item_19 : decode cX10_item 19 = .ok (.iload_n 1, 1) := by decide +kernel
theorem dX10_item_20 : decode cX10_item 20 = .ok (.aaload, 1) := by decide +kernel
theorem dX10_item_21 : decode cX10_item 21 = .ok (.getfield 358, 3) := by decide +kernel
theorem dX10_item_24 : decode cX10_item 24 = .ok (.iload_n 2, 1) := by decide +kernel
theorem dX10_item_25 : decode cX10_item 25 = .ok (.iaload, 1) := by decide +kernel
theorem dX10_item_26 : decode cX10_item 26 = .ok (.ireturn, 1) := by decide +kernel
theorem dX10_copy_0 : decode cX10_copy 0 = .ok (.iload_n 1, 1) := by decide +kernel
theorem dX10_copy_1 : decode cX10_copy 1 = .ok (.iconst 0, 1) := by decide +kernel
theorem dX10_copy_2 : decode cX10_copy 2 = .ok (.iconst 3, 1) := by decide +kernel
theorem dX10_copy_3 : decode cX10_copy 3 = .ok (.invokestatic 82, 3) := by decide +kernel
theorem dX10_copy_6 : decode cX10_copy 6 = .ok (.ifCond .eq 12, 3) := by decide +kernel
theorem dX10_copy_9 : decode cX10_copy 9 = .ok (.iload_n 3, 1) := by decide +kernel
theorem dX10_copy_10 : decode cX10_copy 10 = .ok (.iconst 0, 1) := by decide +kernel
theorem dX10_copy_11 : decode cX10_copy 11 = .ok (.iconst 3, 1) := by decide +kernel
theorem dX10_copy_12 : decode cX10_copy 12 = .ok (.invokestatic 82, 3) := by decide +kernel
theorem dX10_copy_15 : decode cX10_copy 15 = .ok (.ifCond .ne 6, 3) := by decide +kernel
theorem dX10_copy_18 : decode cX10_copy 18 = .ok (.bipush (-2), 2) := by decide +kernel
theorem dX10_copy_20 : decode cX10_copy 20 = .ok (.ireturn, 1) := by decide +kernel
theorem dX10_copy_21 : decode cX10_copy 21 = .ok (.aload_n 0, 1) := by decide +kernel
theorem dX10_copy_22 : decode cX10_copy 22 = .ok (.getfield 59, 3) := by decide +kernel
theorem dX10_copy_25 : decode cX10_copy 25 = .ok (.iload_n 1, 1) := by decide +kernel
theorem dX10_copy_26 : decode cX10_copy 26 = .ok (.aaload, 1) := by decide +kernel
theorem dX10_copy_27 : decode cX10_copy 27 = .ok (.astore 6, 2) := by decide +kernel
theorem dX10_copy_29 : decode cX10_copy 29 = .ok (.aload_n 0, 1) := by decide +kernel
theorem dX10_copy_30 : decode cX10_copy 30 = .ok (.getfield 59, 3) := by decide +kernel
theorem dX10_copy_33 : decode cX10_copy 33 = .ok (.iload_n 3, 1) := by decide +kernel
theorem dX10_copy_34 : decode cX10_copy 34 = .ok (.aaload, 1) := by decide +kernel
theorem dX10_copy_35 : decode cX10_copy 35 = .ok (.astore 7, 2) := by decide +kernel
theorem dX10_copy_37 : decode cX10_copy 37 = .ok (.aload 6, 2) := by decide +kernel
theorem dX10_copy_39 : decode cX10_copy 39 = .ok (.getfield 361, 3) := by decide +kernel
theorem dX10_copy_42 : decode cX10_copy 42 = .ok (.iconst (-1), 1) := by decide +kernel
theorem dX10_copy_43 : decode cX10_copy 43 = .ok (.if_icmp .eq 12, 3) := by decide +kernel
theorem dX10_copy_46 : decode cX10_copy 46 = .ok (.aload 7, 2) := by decide +kernel
theorem dX10_copy_48 : decode cX10_copy 48 = .ok (.getfield 361, 3) := by decide +kernel
theorem dX10_copy_51 : decode cX10_copy 51 = .ok (.iconst (-1), 1) := by decide +kernel
theorem dX10_copy_52 : decode cX10_copy 52 = .ok (.if_icmp .ne 6, 3) := by decide +kernel
theorem dX10_copy_55 : decode cX10_copy 55 = .ok (.bipush (-11), 2) := by decide +kernel
theorem dX10_copy_57 : decode cX10_copy 57 = .ok (.ireturn, 1) := by decide +kernel
theorem dX10_copy_58 : decode cX10_copy 58 = .ok (.aload 6, 2) := by decide +kernel
theorem dX10_copy_60 : decode cX10_copy 60 = .ok (.getfield 361, 3) := by decide +kernel
theorem dX10_copy_63 : decode cX10_copy 63 = .ok (.aload 7, 2) := by decide +kernel
theorem dX10_copy_65 : decode cX10_copy 65 = .ok (.getfield 361, 3) := by decide +kernel
theorem dX10_copy_68 : decode cX10_copy 68 = .ok (.if_icmp .eq 6, 3) := by decide +kernel
theorem dX10_copy_71 : decode cX10_copy 71 = .ok (.bipush (-13), 2) := by decide +kernel
theorem dX10_copy_73 : decode cX10_copy 73 = .ok (.ireturn, 1) := by decide +kernel
theorem dX10_copy_74 : decode cX10_copy 74 = .ok (.aload 6, 2) := by decide +kernel
theorem dX10_copy_76 : decode cX10_copy 76 = .ok (.iload_n 2, 1) := by decide +kernel
theorem dX10_copy_77 : decode cX10_copy 77 = .ok (.iload 5, 2) := by decide +kernel
theorem dX10_copy_79 : decode cX10_copy 79 = .ok (.invokevirtual 362, 3) := by decide +kernel
theorem dX10_copy_82 : decode cX10_copy 82 = .ok (.ifCond .eq 15, 3) := by decide +kernel
theorem dX10_copy_85 : decode cX10_copy 85 = .ok (.aload 7, 2) := by decide +kernel
theorem dX10_copy_87 : decode cX10_copy 87 = .ok (.iload 4, 2) := by decide +kernel
theorem dX10_copy_89 : decode cX10_copy 89 = .ok (.iload 5, 2) := by decide +kernel
theorem dX10_copy_91 : decode cX10_copy 91 = .ok (.invokevirtual 362, 3) := by decide +kernel
theorem dX10_copy_94 : decode cX10_copy 94 = .ok (.ifCond .ne 6, 3) := by decide +kernel
theorem dX10_copy_97 : decode cX10_copy 97 = .ok (.bipush (-12), 2) := by decide +kernel
theorem dX10_copy_99 : decode cX10_copy 99 = .ok (.ireturn, 1) := by decide +kernel
theorem dX10_copy_100 : decode cX10_copy 100 = .ok (.aload 6, 2) := by decide +kernel
theorem dX10_copy_102 : decode cX10_copy 102 = .ok (.getfield 358, 3) := by decide +kernel
theorem dX10_copy_105 : decode cX10_copy 105 = .ok (.iload_n 2, 1) := by decide +kernel
theorem dX10_copy_106 : decode cX10_copy 106 = .ok (.aload 7, 2) := by decide +kernel
theorem dX10_copy_108 : decode cX10_copy 108 = .ok (.getfield 358, 3) := by decide +kernel
theorem dX10_copy_111 : decode cX10_copy 111 = .ok (.iload 4, 2) := by decide +kernel
theorem dX10_copy_113 : decode cX10_copy 113 = .ok (.iload 5, 2) := by decide +kernel
theorem dX10_copy_115 : decode cX10_copy 115 = .ok (.invokestatic 365, 3) := by decide +kernel
theorem dX10_copy_118 : decode cX10_copy 118 = .ok (.iload 5, 2) := by decide +kernel
theorem dX10_copy_120 : decode cX10_copy 120 = .ok (.ireturn, 1) := by decide +kernel
theorem dX10_image_0 : decode cX10_image 0 = .ok (.aload_n 0, 1) := by decide +kernel
theorem dX10_image_1 : decode cX10_image 1 = .ok (.getfield 34, 3) := by decide +kernel
theorem dX10_image_4 : decode cX10_image 4 = .ok (.aload_n 0, 1) := by decide +kernel
theorem dX10_image_5 : decode cX10_image 5 = .ok (.getfield 20, 3) := by decide +kernel
theorem dX10_image_8 : decode cX10_image 8 = .ok (.invokevirtual 253, 3) := by decide +kernel
theorem dX10_image_11 : decode cX10_image 11 = .ok (.aload_n 0, 1) := by decide +kernel
theorem dX10_image_12 : decode cX10_image 12 = .ok (.iconst 1, 1) := by decide +kernel
theorem dX10_image_13 : decode cX10_image 13 = .ok (.putfield 371, 3) := by decide +kernel
theorem dX10_image_16 : decode cX10_image 16 = .ok (.aload_n 0, 1) := by decide +kernel
theorem dX10_image_17 : decode cX10_image 17 = .ok (.getfield 20, 3) := by decide +kernel
theorem dX10_image_20 : decode cX10_image 20 = .ok (.getfield 68, 3) := by decide +kernel
theorem dX10_image_23 : decode cX10_image 23 = .ok (.ireturn, 1) := by decide +kernel
theorem dX10_back_0 : decode cX10_back 0 = .ok (.aload_n 0, 1) := by decide +kernel
theorem dX10_back_1 : decode cX10_back 1 = .ok (.getfield 371, 3) := by decide +kernel
theorem dX10_back_4 : decode cX10_back 4 = .ok (.ifCond .ne 6, 3) := by decide +kernel
theorem dX10_back_7 : decode cX10_back 7 = .ok (.bipush (-3), 2) := by decide +kernel
theorem dX10_back_9 : decode cX10_back 9 = .ok (.ireturn, 1) := by decide +kernel
theorem dX10_back_10 : decode cX10_back 10 = .ok (.aload_n 0, 1) := by decide +kernel
theorem dX10_back_11 : decode cX10_back 11 = .ok (.getfield 20, 3) := by decide +kernel
theorem dX10_back_14 : decode cX10_back 14 = .ok (.aload_n 0, 1) := by decide +kernel
theorem dX10_back_15 : decode cX10_back 15 = .ok (.getfield 34, 3) := by decide +kernel
theorem dX10_back_18 : decode cX10_back 18 = .ok (.invokevirtual 253, 3) := by decide +kernel
theorem dX10_back_21 : decode cX10_back 21 = .ok (.aload_n 0, 1) := by decide +kernel
theorem dX10_back_22 : decode cX10_back 22 = .ok (.getfield 27, 3) := by decide +kernel
theorem dX10_back_25 : decode cX10_back 25 = .ok (.aload_n 0, 1) := by decide +kernel
theorem dX10_back_26 : decode cX10_back 26 = .ok (.getfield 20, 3) := by decide +kernel
theorem dX10_back_29 : decode cX10_back 29 = .ok (.iconst 5, 1) := by decide +kernel
theorem dX10_back_30 : decode cX10_back 30 = .ok (.invokevirtual 78, 3) := by decide +kernel
theorem dX10_back_33 : decode cX10_back 33 = .ok (.aload_n 0, 1) := by decide +kernel
theorem dX10_back_34 : decode cX10_back 34 = .ok (.getfield 20, 3) := by decide +kernel
theorem dX10_back_37 : decode cX10_back 37 = .ok (.getfield 68, 3) := by decide +kernel
theorem dX10_back_40 : decode cX10_back 40 = .ok (.ireturn, 1) := by decide +kernel
theorem dX10_count_0 : decode cX10_count 0 = .ok (.iload_n 1, 1) := by decide +kernel
theorem dX10_count_1 : decode cX10_count 1 = .ok (.tableswitch 111 0 7 #[47, 55, 63, 71, 79, 87, 95, 103], 47) := by decide +kernel
theorem dX10_count_48 : decode cX10_count 48 = .ok (.aload_n 0, 1) := by decide +kernel
theorem dX10_count_49 : decode cX10_count 49 = .ok (.getfield 20, 3) := by decide +kernel
theorem dX10_count_52 : decode cX10_count 52 = .ok (.getfield 68, 3) := by decide +kernel
theorem dX10_count_55 : decode cX10_count 55 = .ok (.ireturn, 1) := by decide +kernel
theorem dX10_count_56 : decode cX10_count 56 = .ok (.aload_n 0, 1) := by decide +kernel
theorem dX10_count_57 : decode cX10_count 57 = .ok (.getfield 20, 3) := by decide +kernel
theorem dX10_count_60 : decode cX10_count 60 = .ok (.invokevirtual 374, 3) := by decide +kernel
theorem dX10_count_63 : decode cX10_count 63 = .ok (.ireturn, 1) := by decide +kernel
theorem dX10_count_64 : decode cX10_count 64 = .ok (.aload_n 0, 1) := by decide +kernel
theorem dX10_count_65 : decode cX10_count 65 = .ok (.getfield 20, 3) := by decide +kernel
theorem dX10_count_68 : decode cX10_count 68 = .ok (.getfield 161, 3) := by decide +kernel
theorem dX10_count_71 : decode cX10_count 71 = .ok (.ireturn, 1) := by decide +kernel
theorem dX10_count_72 : decode cX10_count 72 = .ok (.aload_n 0, 1) := by decide +kernel
theorem dX10_count_73 : decode cX10_count 73 = .ok (.getfield 20, 3) := by decide +kernel
theorem dX10_count_76 : decode cX10_count 76 = .ok (.getfield 205, 3) := by decide +kernel
theorem dX10_count_79 : decode cX10_count 79 = .ok (.ireturn, 1) := by decide +kernel
theorem dX10_count_80 : decode cX10_count 80 = .ok (.aload_n 0, 1) := by decide +kernel
theorem dX10_count_81 : decode cX10_count 81 = .ok (.getfield 20, 3) := by decide +kernel
theorem dX10_count_84 : decode cX10_count 84 = .ok (.getfield 231, 3) := by decide +kernel
theorem dX10_count_87 : decode cX10_count 87 = .ok (.ireturn, 1) := by decide +kernel
theorem dX10_count_88 : decode cX10_count 88 = .ok (.aload_n 0, 1) := by decide +kernel
theorem dX10_count_89 : decode cX10_count 89 = .ok (.getfield 20, 3) := by decide +kernel
theorem dX10_count_92 : decode cX10_count 92 = .ok (.getfield 292, 3) := by decide +kernel
theorem dX10_count_95 : decode cX10_count 95 = .ok (.ireturn, 1) := by decide +kernel
theorem dX10_count_96 : decode cX10_count 96 = .ok (.aload_n 0, 1) := by decide +kernel
theorem dX10_count_97 : decode cX10_count 97 = .ok (.getfield 53, 3) := by decide +kernel
theorem dX10_count_100 : decode cX10_count 100 = .ok (.getfield 301, 3) := by decide +kernel
theorem dX10_count_103 : decode cX10_count 103 = .ok (.ireturn, 1) := by decide +kernel
theorem dX10_count_104 : decode cX10_count 104 = .ok (.aload_n 0, 1) := by decide +kernel
theorem dX10_count_105 : decode cX10_count 105 = .ok (.getfield 20, 3) := by decide +kernel
theorem dX10_count_108 : decode cX10_count 108 = .ok (.getfield 349, 3) := by decide +kernel
theorem dX10_count_111 : decode cX10_count 111 = .ok (.ireturn, 1) := by decide +kernel
theorem dX10_count_112 : decode cX10_count 112 = .ok (.bipush (-2), 2) := by decide +kernel
theorem dX10_count_114 : decode cX10_count 114 = .ok (.ireturn, 1) := by decide +kernel
theorem dX10_refuseLoop_0 : decode cX10_refuseLoop 0 = .ok (.iload_n 1, 1) := by decide +kernel
theorem dX10_refuseLoop_1 : decode cX10_refuseLoop 1 = .ok (.bipush (-5), 2) := by decide +kernel
theorem dX10_refuseLoop_3 : decode cX10_refuseLoop 3 = .ok (.if_icmp .eq 5, 3) := by decide +kernel
theorem dX10_refuseLoop_6 : decode cX10_refuseLoop 6 = .ok (.iload_n 1, 1) := by decide +kernel
theorem dX10_refuseLoop_7 : decode cX10_refuseLoop 7 = .ok (.ireturn, 1) := by decide +kernel
theorem dX10_refuseLoop_8 : decode cX10_refuseLoop 8 = .ok (.aload_n 0, 1) := by decide +kernel
theorem dX10_refuseLoop_9 : decode cX10_refuseLoop 9 = .ok (.bipush 40, 2) := by decide +kernel
theorem dX10_refuseLoop_11 : decode cX10_refuseLoop 11 = .ok (.putfield 75, 3) := by decide +kernel
theorem dX10_refuseLoop_14 : decode cX10_refuseLoop 14 = .ok (.aload_n 0, 1) := by decide +kernel
theorem dX10_refuseLoop_15 : decode cX10_refuseLoop 15 = .ok (.getfield 10, 3) := by decide +kernel
theorem dX10_refuseLoop_18 : decode cX10_refuseLoop 18 = .ok (.getfield 377, 3) := by decide +kernel
theorem dX10_refuseLoop_21 : decode cX10_refuseLoop 21 = .ok (.iconst 0, 1) := by decide +kernel
theorem dX10_refuseLoop_22 : decode cX10_refuseLoop 22 = .ok (.aload_n 0, 1) := by decide +kernel
theorem dX10_refuseLoop_23 : decode cX10_refuseLoop 23 = .ok (.getfield 63, 3) := by decide +kernel
theorem dX10_refuseLoop_26 : decode cX10_refuseLoop 26 = .ok (.iconst 0, 1) := by decide +kernel
theorem dX10_refuseLoop_27 : decode cX10_refuseLoop 27 = .ok (.bipush 40, 2) := by decide +kernel
theorem dX10_refuseLoop_29 : decode cX10_refuseLoop 29 = .ok (.invokestatic 365, 3) := by decide +kernel
theorem dX10_refuseLoop_32 : decode cX10_refuseLoop 32 = .ok (.aload_n 0, 1) := by decide +kernel
theorem dX10_refuseLoop_33 : decode cX10_refuseLoop 33 = .ok (.getfield 20, 3) := by decide +kernel
theorem dX10_refuseLoop_36 : decode cX10_refuseLoop 36 = .ok (.aload_n 0, 1) := by decide +kernel
theorem dX10_refuseLoop_37 : decode cX10_refuseLoop 37 = .ok (.getfield 31, 3) := by decide +kernel
theorem dX10_refuseLoop_40 : decode cX10_refuseLoop 40 = .ok (.invokevirtual 253, 3) := by decide +kernel
theorem dX10_refuseLoop_43 : decode cX10_refuseLoop 43 = .ok (.aload_n 0, 1) := by decide +kernel
theorem dX10_refuseLoop_44 : decode cX10_refuseLoop 44 = .ok (.getfield 27, 3) := by decide +kernel
theorem dX10_refuseLoop_47 : decode cX10_refuseLoop 47 = .ok (.aload_n 0, 1) := by decide +kernel
theorem dX10_refuseLoop_48 : decode cX10_refuseLoop 48 = .ok (.getfield 20, 3) := by decide +kernel
theorem dX10_refuseLoop_51 : decode cX10_refuseLoop 51 = .ok (.iconst 5, 1) := by decide +kernel
theorem dX10_refuseLoop_52 : decode cX10_refuseLoop 52 = .ok (.invokevirtual 78, 3) := by decide +kernel
theorem dX10_refuseLoop_55 : decode cX10_refuseLoop 55 = .ok (.bipush (-5), 2) := by decide +kernel
theorem dX10_refuseLoop_57 : decode cX10_refuseLoop 57 = .ok (.ireturn, 1) := by decide +kernel
theorem dX10_refusePlace_0 : decode cX10_refusePlace 0 = .ok (.iload_n 1, 1) := by decide +kernel
theorem dX10_refusePlace_1 : decode cX10_refusePlace 1 = .ok (.iconst 0, 1) := by decide +kernel
theorem dX10_refusePlace_2 : decode cX10_refusePlace 2 = .ok (.iconst 3, 1) := by decide +kernel
theorem dX10_refusePlace_3 : decode cX10_refusePlace 3 = .ok (.invokestatic 82, 3) := by decide +kernel
theorem dX10_refusePlace_6 : decode cX10_refusePlace 6 = .ok (.ifCond .ne 6, 3) := by decide +kernel
theorem dX10_refusePlace_9 : decode cX10_refusePlace 9 = .ok (.bipush (-2), 2) := by decide +kernel
theorem dX10_refusePlace_11 : decode cX10_refusePlace 11 = .ok (.ireturn, 1) := by decide +kernel
theorem dX10_refusePlace_12 : decode cX10_refusePlace 12 = .ok (.aload_n 0, 1) := by decide +kernel
theorem dX10_refusePlace_13 : decode cX10_refusePlace 13 = .ok (.getfield 59, 3) := by decide +kernel
theorem dX10_refusePlace_16 : decode cX10_refusePlace 16 = .ok (.iload_n 1, 1) := by decide +kernel
theorem dX10_refusePlace_17 : decode cX10_refusePlace 17 = .ok (.aaload, 1) := by decide +kernel
theorem dX10_refusePlace_18 : decode cX10_refusePlace 18 = .ok (.getfield 361, 3) := by decide +kernel
theorem dX10_refusePlace_21 : decode cX10_refusePlace 21 = .ok (.iconst (-1), 1) := by decide +kernel
theorem dX10_refusePlace_22 : decode cX10_refusePlace 22 = .ok (.if_icmp .ne 6, 3) := by decide +kernel
theorem dX10_refusePlace_25 : decode cX10_refusePlace 25 = .ok (.bipush (-11), 2) := by decide +kernel
theorem dX10_refusePlace_27 : decode cX10_refusePlace 27 = .ok (.ireturn, 1) := by decide +kernel
theorem dX10_refusePlace_28 : decode cX10_refusePlace 28 = .ok (.iload_n 2, 1) := by decide +kernel
theorem dX10_refusePlace_29 : decode cX10_refusePlace 29 = .ok (.iconst 0, 1) := by decide +kernel
theorem dX10_refusePlace_30 : decode cX10_refusePlace 30 = .ok (.aload_n 0, 1) := by decide +kernel
theorem dX10_refusePlace_31 : decode cX10_refusePlace 31 = .ok (.getfield 59, 3) := by decide +kernel
theorem dX10_refusePlace_34 : decode cX10_refusePlace 34 = .ok (.iload_n 1, 1) := by decide +kernel
theorem dX10_refusePlace_35 : decode cX10_refusePlace 35 = .ok (.aaload, 1) := by decide +kernel
theorem dX10_refusePlace_36 : decode cX10_refusePlace 36 = .ok (.getfield 348, 3) := by decide +kernel
theorem dX10_refusePlace_39 : decode cX10_refusePlace 39 = .ok (.iconst 1, 1) := by decide +kernel
theorem dX10_refusePlace_40 : decode cX10_refusePlace 40 = .ok (.isub, 1) := by decide +kernel
theorem dX10_refusePlace_41 : decode cX10_refusePlace 41 = .ok (.invokestatic 82, 3) := by decide +kernel
theorem dX10_refusePlace_44 : decode cX10_refusePlace 44 = .ok (.ifCond .eq 7, 3) := by decide +kernel
theorem dX10_refusePlace_47 : decode cX10_refusePlace 47 = .ok (.iconst 0, 1) := by decide +kernel
theorem dX10_refusePlace_48 : decode cX10_refusePlace 48 = .ok (.goto 5, 3) := by decide +kernel
theorem dX10_refusePlace_51 : decode cX10_refusePlace 51 = .ok (.bipush (-12), 2) := by decide +kernel
theorem dX10_refusePlace_53 : decode cX10_refusePlace 53 = .ok (.ireturn, 1) := by decide +kernel
theorem dX10_within_0 : decode cX10_within 0 = .ok (.iload_n 0, 1) := by decide +kernel
theorem dX10_within_1 : decode cX10_within 1 = .ok (.iload_n 1, 1) := by decide +kernel
theorem dX10_within_2 : decode cX10_within 2 = .ok (.if_icmp .lt 12, 3) := by decide +kernel
theorem dX10_within_5 : decode cX10_within 5 = .ok (.iload_n 0, 1) := by decide +kernel
theorem dX10_within_6 : decode cX10_within 6 = .ok (.iload_n 2, 1) := by decide +kernel
theorem dX10_within_7 : decode cX10_within 7 = .ok (.if_icmp .gt 7, 3) := by decide +kernel
theorem dX10_within_10 : decode cX10_within 10 = .ok (.iconst 1, 1) := by decide +kernel
theorem dX10_within_11 : decode cX10_within 11 = .ok (.goto 4, 3) := by decide +kernel
theorem dX10_within_14 : decode cX10_within 14 = .ok (.iconst 0, 1) := by decide +kernel
theorem dX10_within_15 : decode cX10_within 15 = .ok (.ireturn, 1) := by decide +kernel
theorem dX10_isScope_0 : decode cX10_isScope 0 = .ok (.iload_n 0, 1) := by decide +kernel
theorem dX10_isScope_1 : decode cX10_isScope 1 = .ok (.iconst 0, 1) := by decide +kernel
theorem dX10_isScope_2 : decode cX10_isScope 2 = .ok (.iconst 5, 1) := by decide +kernel
theorem dX10_isScope_3 : decode cX10_isScope 3 = .ok (.invokestatic 82, 3) := by decide +kernel
theorem dX10_isScope_6 : decode cX10_isScope 6 = .ok (.ifCond .ne 5, 3) := by decide +kernel
theorem dX10_isScope_9 : decode cX10_isScope 9 = .ok (.iconst 0, 1) := by decide +kernel
theorem dX10_isScope_10 : decode cX10_isScope 10 = .ok (.ireturn, 1) := by decide +kernel
theorem dX10_isScope_11 : decode cX10_isScope 11 = .ok (.iload_n 0, 1) := by decide +kernel
theorem dX10_isScope_12 : decode cX10_isScope 12 = .ok (.ifCond .eq 16, 3) := by decide +kernel
theorem dX10_isScope_15 : decode cX10_isScope 15 = .ok (.iload_n 1, 1) := by decide +kernel
theorem dX10_isScope_16 : decode cX10_isScope 16 = .ok (.iconst 0, 1) := by decide +kernel
theorem dX10_isScope_17 : decode cX10_isScope 17 = .ok (.getstatic 380, 3) := by decide +kernel
theorem dX10_isScope_20 : decode cX10_isScope 20 = .ok (.iload_n 0, 1) := by decide +kernel
theorem dX10_isScope_21 : decode cX10_isScope 21 = .ok (.iaload, 1) := by decide +kernel
theorem dX10_isScope_22 : decode cX10_isScope 22 = .ok (.invokestatic 82, 3) := by decide +kernel
theorem dX10_isScope_25 : decode cX10_isScope 25 = .ok (.ifCond .eq 7, 3) := by decide +kernel
theorem dX10_isScope_28 : decode cX10_isScope 28 = .ok (.iconst 1, 1) := by decide +kernel
theorem dX10_isScope_29 : decode cX10_isScope 29 = .ok (.goto 4, 3) := by decide +kernel
theorem dX10_isScope_32 : decode cX10_isScope 32 = .ok (.iconst 0, 1) := by decide +kernel
theorem dX10_isScope_33 : decode cX10_isScope 33 = .ok (.ireturn, 1) := by decide +kernel
theorem dX10_fitsBase_0 : decode cX10_fitsBase 0 = .ok (.iload_n 0, 1) := by decide +kernel
theorem dX10_fitsBase_1 : decode cX10_fitsBase 1 = .ok (.tableswitch 63 1 4 #[31, 38, 46, 54], 31) := by decide +kernel
theorem dX10_fitsBase_32 : decode cX10_fitsBase 32 = .ok (.iload_n 1, 1) := by decide +kernel
theorem dX10_fitsBase_33 : decode cX10_fitsBase 33 = .ok (.iconst 0, 1) := by decide +kernel
theorem dX10_fitsBase_34 : decode cX10_fitsBase 34 = .ok (.iconst 5, 1) := by decide +kernel
theorem dX10_fitsBase_35 : decode cX10_fitsBase 35 = .ok (.invokestatic 82, 3) := by decide +kernel
theorem dX10_fitsBase_38 : decode cX10_fitsBase 38 = .ok (.ireturn, 1) := by decide +kernel
theorem dX10_fitsBase_39 : decode cX10_fitsBase 39 = .ok (.iload_n 1, 1) := by decide +kernel
theorem dX10_fitsBase_40 : decode cX10_fitsBase 40 = .ok (.iconst 0, 1) := by decide +kernel
theorem dX10_fitsBase_41 : decode cX10_fitsBase 41 = .ok (.bipush 99, 2) := by decide +kernel
theorem dX10_fitsBase_43 : decode cX10_fitsBase 43 = .ok (.invokestatic 82, 3) := by decide +kernel
theorem dX10_fitsBase_46 : decode cX10_fitsBase 46 = .ok (.ireturn, 1) := by decide +kernel
theorem dX10_fitsBase_47 : decode cX10_fitsBase 47 = .ok (.iload_n 1, 1) := by decide +kernel
theorem dX10_fitsBase_48 : decode cX10_fitsBase 48 = .ok (.iconst 0, 1) := by decide +kernel
theorem dX10_fitsBase_49 : decode cX10_fitsBase 49 = .ok (.bipush 99, 2) := by decide +kernel
theorem dX10_fitsBase_51 : decode cX10_fitsBase 51 = .ok (.invokestatic 82, 3) := by decide +kernel
theorem dX10_fitsBase_54 : decode cX10_fitsBase 54 = .ok (.ireturn, 1) := by decide +kernel
theorem dX10_fitsBase_55 : decode cX10_fitsBase 55 = .ok (.iload_n 1, 1) := by decide +kernel
theorem dX10_fitsBase_56 : decode cX10_fitsBase 56 = .ok (.iconst 0, 1) := by decide +kernel
theorem dX10_fitsBase_57 : decode cX10_fitsBase 57 = .ok (.sipush 999, 3) := by decide +kernel
theorem dX10_fitsBase_60 : decode cX10_fitsBase 60 = .ok (.invokestatic 82, 3) := by decide +kernel
theorem dX10_fitsBase_63 : decode cX10_fitsBase 63 = .ok (.ireturn, 1) := by decide +kernel
theorem dX10_fitsBase_64 : decode cX10_fitsBase 64 = .ok (.iconst 0, 1) := by decide +kernel
theorem dX10_fitsBase_65 : decode cX10_fitsBase 65 = .ok (.ireturn, 1) := by decide +kernel
theorem dX10_fitsEffect_0 : decode cX10_fitsEffect 0 = .ok (.iload_n 0, 1) := by decide +kernel
theorem dX10_fitsEffect_1 : decode cX10_fitsEffect 1 = .ok (.iconst 2, 1) := by decide +kernel
theorem dX10_fitsEffect_2 : decode cX10_fitsEffect 2 = .ok (.if_icmp .gt 12, 3) := by decide +kernel
theorem dX10_fitsEffect_5 : decode cX10_fitsEffect 5 = .ok (.iload_n 1, 1) := by decide +kernel
theorem dX10_fitsEffect_6 : decode cX10_fitsEffect 6 = .ok (.iconst 0, 1) := by decide +kernel
theorem dX10_fitsEffect_7 : decode cX10_fitsEffect 7 = .ok (.iconst 5, 1) := by decide +kernel
theorem dX10_fitsEffect_8 : decode cX10_fitsEffect 8 = .ok (.invokestatic 82, 3) := by decide +kernel
theorem dX10_fitsEffect_11 : decode cX10_fitsEffect 11 = .ok (.goto 11, 3) := by decide +kernel
theorem dX10_fitsEffect_14 : decode cX10_fitsEffect 14 = .ok (.iload_n 1, 1) := by decide +kernel
theorem dX10_fitsEffect_15 : decode cX10_fitsEffect 15 = .ok (.bipush (-9), 2) := by decide +kernel
theorem dX10_fitsEffect_17 : decode cX10_fitsEffect 17 = .ok (.bipush 9, 2) := by decide +kernel
theorem dX10_fitsEffect_19 : decode cX10_fitsEffect 19 = .ok (.invokestatic 82, 3) := by decide +kernel
theorem dX10_fitsEffect_22 : decode cX10_fitsEffect 22 = .ok (.ireturn, 1) := by decide +kernel
theorem dX10_scopeWord_0 : decode cX10_scopeWord 0 = .ok (.iload_n 0, 1) := by decide +kernel
theorem dX10_scopeWord_1 : decode cX10_scopeWord 1 = .ok (.tableswitch 55 0 4 #[35, 39, 43, 47, 51], 35) := by decide +kernel
theorem dX10_scopeWord_36 : decode cX10_scopeWord 36 = .ok (.ldc_w 383, 3) := by decide +kernel
theorem dX10_scopeWord_39 : decode cX10_scopeWord 39 = .ok (.areturn, 1) := by decide +kernel
theorem dX10_scopeWord_40 : decode cX10_scopeWord 40 = .ok (.ldc_w 385, 3) := by decide +kernel
theorem dX10_scopeWord_43 : decode cX10_scopeWord 43 = .ok (.areturn, 1) := by decide +kernel
theorem dX10_scopeWord_44 : decode cX10_scopeWord 44 = .ok (.ldc_w 386, 3) := by decide +kernel
theorem dX10_scopeWord_47 : decode cX10_scopeWord 47 = .ok (.areturn, 1) := by decide +kernel
theorem dX10_scopeWord_48 : decode cX10_scopeWord 48 = .ok (.ldc_w 387, 3) := by decide +kernel
theorem dX10_scopeWord_51 : decode cX10_scopeWord 51 = .ok (.areturn, 1) := by decide +kernel
theorem dX10_scopeWord_52 : decode cX10_scopeWord 52 = .ok (.ldc_w 389, 3) := by decide +kernel
theorem dX10_scopeWord_55 : decode cX10_scopeWord 55 = .ok (.areturn, 1) := by decide +kernel
theorem dX10_scopeWord_56 : decode cX10_scopeWord 56 = .ok (.ldc_w 391, 3) := by decide +kernel
theorem dX10_scopeWord_59 : decode cX10_scopeWord 59 = .ok (.areturn, 1) := by decide +kernel
theorem dX10_deedWord_0 : decode cX10_deedWord 0 = .ok (.iload_n 0, 1) := by decide +kernel
theorem dX10_deedWord_1 : decode cX10_deedWord 1 = .ok (.tableswitch 55 0 4 #[35, 39, 43, 47, 51], 35) := by decide +kernel
theorem dX10_deedWord_36 : decode cX10_deedWord 36 = .ok (.ldc_w 393, 3) := by decide +kernel
theorem dX10_deedWord_39 : decode cX10_deedWord 39 = .ok (.areturn, 1) := by decide +kernel
theorem dX10_deedWord_40 : decode cX10_deedWord 40 = .ok (.ldc_w 395, 3) := by decide +kernel
theorem dX10_deedWord_43 : decode cX10_deedWord 43 = .ok (.areturn, 1) := by decide +kernel
theorem dX10_deedWord_44 : decode cX10_deedWord 44 = .ok (.ldc_w 397, 3) := by decide +kernel
theorem dX10_deedWord_47 : decode cX10_deedWord 47 = .ok (.areturn, 1) := by decide +kernel
theorem dX10_deedWord_48 : decode cX10_deedWord 48 = .ok (.ldc_w 399, 3) := by decide +kernel
theorem dX10_deedWord_51 : decode cX10_deedWord 51 = .ok (.areturn, 1) := by decide +kernel
theorem dX10_deedWord_52 : decode cX10_deedWord 52 = .ok (.ldc_w 401, 3) := by decide +kernel
theorem dX10_deedWord_55 : decode cX10_deedWord 55 = .ok (.areturn, 1) := by decide +kernel
theorem dX10_deedWord_56 : decode cX10_deedWord 56 = .ok (.ldc_w 403, 3) := by decide +kernel
theorem dX10_deedWord_59 : decode cX10_deedWord 59 = .ok (.areturn, 1) := by decide +kernel
end
section
theorem dX11_init_0 : decode cX11_init 0 = .ok (.aload_n 0, 1) := by decide +kernel
theorem dX11_init_1 : decode cX11_init 1 = .ok (.invokespecial 1, 3) := by decide +kernel
theorem dX11_init_4 : decode cX11_init 4 = .ok (.aload_n 0, 1) := by decide +kernel
theorem dX11_init_5 : decode cX11_init 5 = .ok (.sipush 246, 3) := by decide +kernel
theorem dX11_init_8 : decode cX11_init 8 = .ok (.newarray .int, 2) := by decide +kernel
theorem dX11_init_10 : decode cX11_init 10 = .ok (.putfield 7, 3) := by decide +kernel
theorem dX11_init_13 : decode cX11_init 13 = .ok (.aload_n 0, 1) := by decide +kernel
theorem dX11_init_14 : decode cX11_init 14 = .ok (.sipush 246, 3) := by decide +kernel
theorem dX11_init_17 : decode cX11_init 17 = .ok (.newarray .int, 2) := by decide +kernel
theorem dX11_init_19 : decode cX11_init 19 = .ok (.putfield 13, 3) := by decide +kernel
theorem dX11_init_22 : decode cX11_init 22 = .ok (.aload_n 0, 1) := by decide +kernel
theorem dX11_init_23 : decode cX11_init 23 = .ok (.sipush 246, 3) := by decide +kernel
theorem dX11_init_26 : decode cX11_init 26 = .ok (.newarray .int, 2) := by decide +kernel
theorem dX11_init_28 : decode cX11_init 28 = .ok (.putfield 16, 3) := by decide +kernel
theorem dX11_init_31 : decode cX11_init 31 = .ok (.aload_n 0, 1) := by decide +kernel
theorem dX11_init_32 : decode cX11_init 32 = .ok (.bipush 32, 2) := by decide +kernel
theorem dX11_init_34 : decode cX11_init 34 = .ok (.newarray .int, 2) := by decide +kernel
theorem dX11_init_36 : decode cX11_init 36 = .ok (.putfield 19, 3) := by decide +kernel
theorem dX11_init_39 : decode cX11_init 39 = .ok (.aload_n 0, 1) := by decide +kernel
theorem dX11_init_40 : decode cX11_init 40 = .ok (.bipush 32, 2) := by decide +kernel
theorem dX11_init_42 : decode cX11_init 42 = .ok (.newarray .int, 2) := by decide +kernel
theorem dX11_init_44 : decode cX11_init 44 = .ok (.putfield 22, 3) := by decide +kernel
theorem dX11_init_47 : decode cX11_init 47 = .ok (.aload_n 0, 1) := by decide +kernel
theorem dX11_init_48 : decode cX11_init 48 = .ok (.bipush 10, 2) := by decide +kernel
theorem dX11_init_50 : decode cX11_init 50 = .ok (.newarray .int, 2) := by decide +kernel
theorem dX11_init_52 : decode cX11_init 52 = .ok (.putfield 25, 3) := by decide +kernel
theorem dX11_init_55 : decode cX11_init 55 = .ok (.aload_n 0, 1) := by decide +kernel
theorem dX11_init_56 : decode cX11_init 56 = .ok (.sipush 1024, 3) := by decide +kernel
theorem dX11_init_59 : decode cX11_init 59 = .ok (.newarray .int, 2) := by decide +kernel
theorem dX11_init_61 : decode cX11_init 61 = .ok (.putfield 28, 3) := by decide +kernel
theorem dX11_init_64 : decode cX11_init 64 = .ok (.aload_n 0, 1) := by decide +kernel
theorem dX11_init_65 : decode cX11_init 65 = .ok (.bipush 41, 2) := by decide +kernel
theorem dX11_init_67 : decode cX11_init 67 = .ok (.newarray .int, 2) := by decide +kernel
theorem dX11_init_69 : decode cX11_init 69 = .ok (.putfield 31, 3) := by decide +kernel
theorem dX11_init_72 : decode cX11_init 72 = .ok (.aload_n 0, 1) := by decide +kernel
theorem dX11_init_73 : decode cX11_init 73 = .ok (.bipush 41, 2) := by decide +kernel
theorem dX11_init_75 : decode cX11_init 75 = .ok (.newarray .int, 2) := by decide +kernel
theorem dX11_init_77 : decode cX11_init 77 = .ok (.putfield 34, 3) := by decide +kernel
theorem dX11_init_80 : decode cX11_init 80 = .ok (.aload_n 0, 1) := by decide +kernel
theorem dX11_init_81 : decode cX11_init 81 = .ok (.bipush 120, 2) := by decide +kernel
theorem dX11_init_83 : decode cX11_init 83 = .ok (.newarray .int, 2) := by decide +kernel
theorem dX11_init_85 : decode cX11_init 85 = .ok (.putfield 37, 3) := by decide +kernel
theorem dX11_init_88 : decode cX11_init 88 = .ok (.aload_n 0, 1) := by decide +kernel
theorem dX11_init_89 : decode cX11_init 89 = .ok (.bipush 6, 2) := by decide +kernel
theorem dX11_init_91 : decode cX11_init 91 = .ok (.anewarray 40, 3) := by decide +kernel
theorem dX11_init_94 : decode cX11_init 94 = .ok (.dup, 1) := by decide +kernel
theorem dX11_init_95 : decode cX11_init 95 = .ok (.iconst 0, 1) := by decide +kernel
theorem dX11_init_96 : decode cX11_init 96 = .ok (.ldc 42, 2) := by decide +kernel
theorem dX11_init_98 : decode cX11_init 98 = .ok (.aastore, 1) := by decide +kernel
theorem dX11_init_99 : decode cX11_init 99 = .ok (.dup, 1) := by decide +kernel
theorem dX11_init_100 : decode cX11_init 100 = .ok (.iconst 1, 1) := by decide +kernel
theorem dX11_init_101 : decode cX11_init 101 = .ok (.ldc 44, 2) := by decide +kernel
theorem dX11_init_103 : decode cX11_init 103 = .ok (.aastore, 1) := by decide +kernel
theorem dX11_init_104 : decode cX11_init 104 = .ok (.dup, 1) := by decide +kernel
theorem dX11_init_105 : decode cX11_init 105 = .ok (.iconst 2, 1) := by decide +kernel
theorem dX11_init_106 : decode cX11_init 106 = .ok (.ldc 46, 2) := by decide +kernel
theorem dX11_init_108 : decode cX11_init 108 = .ok (.aastore, 1) := by decide +kernel
theorem dX11_init_109 : decode cX11_init 109 = .ok (.dup, 1) := by decide +kernel
theorem dX11_init_110 : decode cX11_init 110 = .ok (.iconst 3, 1) := by decide +kernel
theorem dX11_init_111 : decode cX11_init 111 = .ok (.ldc 48, 2) := by decide +kernel
theorem dX11_init_113 : decode cX11_init 113 = .ok (.aastore, 1) := by decide +kernel
theorem dX11_init_114 : decode cX11_init 114 = .ok (.dup, 1) := by decide +kernel
theorem dX11_init_115 : decode cX11_init 115 = .ok (.iconst 4, 1) := by decide +kernel
theorem dX11_init_116 : decode cX11_init 116 = .ok (.ldc 50, 2) := by decide +kernel
theorem dX11_init_118 : decode cX11_init 118 = .ok (.aastore, 1) := by decide +kernel
theorem dX11_init_119 : decode cX11_init 119 = .ok (.dup, 1) := by decide +kernel
theorem dX11_init_120 : decode cX11_init 120 = .ok (.iconst 5, 1) := by decide +kernel
theorem dX11_init_121 : decode cX11_init 121 = .ok (.ldc 52, 2) := by decide +kernel
theorem dX11_init_123 : decode cX11_init 123 = .ok (.aastore, 1) := by decide +kernel
theorem dX11_init_124 : decode cX11_init 124 = .ok (.putfield 54, 3) := by decide +kernel
theorem dX11_init_127 : decode cX11_init 127 = .ok (.aload_n 0, 1) := by decide +kernel
theorem dX11_init_128 : decode cX11_init 128 = .ok (.bipush 6, 2) := by decide +kernel
theorem dX11_init_130 : decode cX11_init 130 = .ok (.anewarray 40, 3) := by decide +kernel
theorem dX11_init_133 : decode cX11_init 133 = .ok (.dup, 1) := by decide +kernel
theorem dX11_init_134 : decode cX11_init 134 = .ok (.iconst 0, 1) := by decide +kernel
theorem dX11_init_135 : decode cX11_init 135 = .ok (.ldc 58, 2) := by decide +kernel
theorem dX11_init_137 : decode cX11_init 137 = .ok (.aastore, 1) := by decide +kernel
theorem dX11_init_138 : decode cX11_init 138 = .ok (.dup, 1) := by decide +kernel
theorem dX11_init_139 : decode cX11_init 139 = .ok (.iconst 1, 1) := by decide +kernel
theorem dX11_init_140 : decode cX11_init 140 = .ok (.ldc 59, 2) := by decide +kernel
theorem dX11_init_142 : decode cX11_init 142 = .ok (.aastore, 1) := by decide +kernel
theorem dX11_init_143 : decode cX11_init 143 = .ok (.dup, 1) := by decide +kernel
theorem dX11_init_144 : decode cX11_init 144 = .ok (.iconst 2, 1) := by decide +kernel
theorem dX11_init_145 : decode cX11_init 145 = .ok (.ldc 61, 2) := by decide +kernel
theorem dX11_init_147 : decode cX11_init 147 = .ok (.aastore, 1) := by decide +kernel
theorem dX11_init_148 : decode cX11_init 148 = .ok (.dup, 1) := by decide +kernel
theorem dX11_init_149 : decode cX11_init 149 = .ok (.iconst 3, 1) := by decide +kernel
theorem dX11_init_150 : decode cX11_init 150 = .ok (.ldc 63, 2) := by decide +kernel
theorem dX11_init_152 : decode cX11_init 152 = .ok (.aastore, 1) := by decide +kernel
theorem dX11_init_153 : decode cX11_init 153 = .ok (.dup, 1) := by decide +kernel
theorem dX11_init_154 : decode cX11_init 154 = .ok (.iconst 4, 1) := by decide +kernel
theorem dX11_init_155 : decode cX11_init 155 = .ok (.ldc 65, 2) := by decide +kernel
theorem dX11_init_157 : decode cX11_init 157 = .ok (.aastore, 1) := by decide +kernel
theorem dX11_init_158 : decode cX11_init 158 = .ok (.dup, 1) := by decide +kernel
theorem dX11_init_159 : decode cX11_init 159 = .ok (.iconst 5, 1) := by decide +kernel
theorem dX11_init_160 : decode cX11_init 160 = .ok (.ldc 67, 2) := by decide +kernel
theorem dX11_init_162 : decode cX11_init 162 = .ok (.aastore, 1) := by decide +kernel
theorem dX11_init_163 : decode cX11_init 163 = .ok (.putfield 69, 3) := by decide +kernel
theorem dX11_init_166 : decode cX11_init 166 = .ok (.aload_n 0, 1) := by decide +kernel
theorem dX11_init_167 : decode cX11_init 167 = .ok (.iconst 3, 1) := by decide +kernel
theorem dX11_init_168 : decode cX11_init 168 = .ok (.newarray .int, 2) := by decide +kernel
theorem dX11_init_170 : decode cX11_init 170 = .ok (.putfield 72, 3) := by decide +kernel
theorem dX11_init_173 : decode cX11_init 173 = .ok (.aload_n 0, 1) := by decide +kernel
theorem dX11_init_174 : decode cX11_init 174 = .ok (.iconst 4, 1) := by decide +kernel
theorem dX11_init_175 : decode cX11_init 175 = .ok (.newarray .int, 2) := by decide +kernel
theorem dX11_init_177 : decode cX11_init 177 = .ok (.dup, 1) := by decide +kernel
theorem dX11_init_178 : decode cX11_init 178 = .ok (.iconst 0, 1) := by decide +kernel
theorem dX11_init_179 : decode cX11_init 179 = .ok (.iconst (-1), 1) := by decide +kernel
theorem dX11_init_180 : decode cX11_init 180 = .ok (.iastore, 1) := by decide +kernel
theorem dX11_init_181 : decode cX11_init 181 = .ok (.dup, 1) := by decide +kernel
theorem dX11_init_182 : decode cX11_init 182 = .ok (.iconst 1, 1) := by decide +kernel
theorem dX11_init_183 : decode cX11_init 183 = .ok (.iconst (-1), 1) := by decide +kernel
theorem dX11_init_184 : decode cX11_init 184 = .ok (.iastore, 1) := by decide +kernel
theorem dX11_init_185 : decode cX11_init 185 = .ok (.dup, 1) := by decide +kernel
theorem dX11_init_186 : decode cX11_init 186 = .ok (.iconst 2, 1) := by decide +kernel
theorem dX11_init_187 : decode cX11_init 187 = .ok (.iconst (-1), 1) := by decide +kernel
theorem dX11_init_188 : decode cX11_init 188 = .ok (.iastore, 1) := by decide +kernel
theorem dX11_init_189 : decode cX11_init 189 = .ok (.dup, 1) := by decide +kernel
theorem dX11_init_190 : decode cX11_init 190 = .ok (.iconst 3, 1) := by decide +kernel
theorem dX11_init_191 : decode cX11_init 191 = .ok (.iconst (-1), 1) := by decide +kernel
theorem dX11_init_192 : decode cX11_init 192 = .ok (.iastore, 1) := by decide +kernel
theorem dX11_init_193 : decode cX11_init 193 = .ok (.putfield 75, 3) := by decide +kernel
theorem dX11_init_196 : decode cX11_init 196 = .ok (.aload_n 0, 1) := by decide +kernel
theorem dX11_init_197 : decode cX11_init 197 = .ok (.iconst 4, 1) := by decide +kernel
theorem dX11_init_198 : decode cX11_init 198 = .ok (.newarray .int, 2) := by decide +kernel
theorem dX11_init_200 : decode cX11_init 200 = .ok (.putfield 78, 3) := by decide +kernel
theorem dX11_init_203 : decode cX11_init 203 = .ok (.aload_n 0, 1) := by decide +kernel
theorem dX11_init_204 : decode cX11_init 204 = .ok (.sipush 160, 3) := by decide +kernel
theorem dX11_init_207 : decode cX11_init 207 = .ok (.newarray .int, 2) := by decide +kernel
theorem dX11_init_209 : decode cX11_init 209 = .ok (.putfield 81, 3) := by decide +kernel
theorem dX11_init_212 : decode cX11_init 212 = .ok (.aload_n 0, 1) := by decide +kernel
theorem dX11_init_213 : decode cX11_init 213 = .ok (.getfield 7, 3) := by decide +kernel
theorem dX11_init_216 : decode cX11_init 216 = .ok (.sipush 245, 3) := by decide +kernel
theorem dX11_init_219 : decode cX11_init 219 = .ok (.iconst 1, 1) := by decide +kernel
theorem dX11_init_220 : decode cX11_init 220 = .ok (.iastore, 1) := by decide +kernel
theorem dX11_init_221 : decode cX11_init 221 = .ok (.return_, 1) := by decide +kernel
theorem dX11_in_0 : decode cX11_in 0 = .ok (.iload_n 0, 1) := by decide +kernel
theorem dX11_in_1 : decode cX11_in 1 = .ok (.iload_n 1, 1) := by decide +kernel
theorem dX11_in_2 : decode cX11_in 2 = .ok (.if_icmp .lt 12, 3) := by decide +kernel
theorem dX11_in_5 : decode cX11_in 5 = .ok (.iload_n 0, 1) := by decide +kernel
theorem dX11_in_6 : decode cX11_in 6 = .ok (.iload_n 2, 1) := by decide +kernel
theorem dX11_in_7 : decode cX11_in 7 = .ok (.if_icmp .gt 7, 3) := by decide +kernel
theorem dX11_in_10 : decode cX11_in 10 = .ok (.iconst 1, 1) := by decide +kernel
theorem dX11_in_11 : decode cX11_in 11 = .ok (.goto 4, 3) := by decide +kernel
theorem dX11_in_14 : decode cX11_in 14 = .ok (.iconst 0, 1) := by decide +kernel
theorem dX11_in_15 : decode cX11_in 15 = .ok (.ireturn, 1) := by decide +kernel
theorem dX11_has_0 : decode cX11_has 0 = .ok (.iload_n 0, 1) := by decide +kernel
theorem dX11_has_1 : decode cX11_has 1 = .ok (.iload_n 1, 1) := by decide +kernel
theorem dX11_has_2 : decode cX11_has 2 = .ok (.ishr, 1) := by decide +kernel
theorem dX11_has_3 : decode cX11_has 3 = .ok (.iconst 1, 1) := by decide +kernel
theorem dX11_has_4 : decode cX11_has 4 = .ok (.iand, 1) := by decide +kernel
theorem dX11_has_5 : decode cX11_has 5 = .ok (.iconst 1, 1) := by decide +kernel
theorem dX11_has_6 : decode cX11_has 6 = .ok (.if_icmp .ne 7, 3) := by decide +kernel
theorem dX11_has_9 : decode cX11_has 9 = .ok (.iconst 1, 1) := by decide +kernel
theorem dX11_has_10 : decode cX11_has 10 = .ok (.goto 4, 3) := by decide +kernel
theorem dX11_has_13 : decode cX11_has 13 = .ok (.iconst 0, 1) := by decide +kernel
theorem dX11_has_14 : decode cX11_has 14 = .ok (.ireturn, 1) := by decide +kernel
theorem dX11_copies_0 : decode cX11_copies 0 = .ok (.iconst 0, 1) := by decide +kernel
theorem dX11_copies_1 : decode cX11_copies 1 = .ok (.istore_n 2, 1) := by decide +kernel
theorem dX11_copies_2 : decode cX11_copies 2 = .ok (.iload_n 2, 1) := by decide +kernel
theorem dX11_copies_3 : decode cX11_copies 3 = .ok (.sipush 246, 3) := by decide +kernel
theorem dX11_copies_6 : decode cX11_copies 6 = .ok (.if_icmp .ge 15, 3) := by decide +kernel
theorem dX11_copies_9 : decode cX11_copies 9 = .ok (.aload_n 1, 1) := by decide +kernel
theorem dX11_copies_10 : decode cX11_copies 10 = .ok (.iload_n 2, 1) := by decide +kernel
theorem dX11_copies_11 : decode cX11_copies 11 = .ok (.aload_n 0, 1) := by decide +kernel
theorem dX11_copies_12 : decode cX11_copies 12 = .ok (.iload_n 2, 1) := by decide +kernel
theorem dX11_copies_13 : decode cX11_copies 13 = .ok (.iaload, 1) := by decide +kernel
theorem dX11_copies_14 : decode cX11_copies 14 = .ok (.iastore, 1) := by decide +kernel
theorem dX11_copies_15 : decode cX11_copies 15 = .ok (.iinc 2 1, 3) := by decide +kernel
theorem dX11_copies_18 : decode cX11_copies 18 = .ok (.goto (-16), 3) := by decide +kernel
theorem dX11_copies_21 : decode cX11_copies 21 = .ok (.return_, 1) := by decide +kernel
theorem dX11_isThing_0 : decode cX11_isThing 0 = .ok (.iload_n 1, 1) := by decide +kernel
theorem dX11_isThing_1 : decode cX11_isThing 1 = .ok (.iconst 0, 1) := by decide +kernel
theorem dX11_isThing_2 : decode cX11_isThing 2 = .ok (.aload_n 0, 1) := by decide +kernel
theorem dX11_isThing_3 : decode cX11_isThing 3 = .ok (.getfield 7, 3) := by decide +kernel
theorem dX11_isThing_6 : decode cX11_isThing 6 = .ok (.sipush 238, 3) := by decide +kernel
theorem dX11_isThing_9 : decode cX11_isThing 9 = .ok (.iaload, 1) := by decide +kernel
theorem dX11_isThing_10 : decode cX11_isThing 10 = .ok (.iconst 1, 1) := by decide +kernel
theorem dX11_isThing_11 : decode cX11_isThing 11 = .ok (.isub, 1) := by decide +kernel
theorem dX11_isThing_12 : decode cX11_isThing 12 = .ok (.invokestatic 84, 3) := by decide +kernel
theorem dX11_isThing_15 : decode cX11_isThing 15 = .ok (.ireturn, 1) := by decide +kernel
theorem dX11_its_0 : decode cX11_its 0 = .ok (.aload_n 0, 1) := by decide +kernel
theorem dX11_its_1 : decode cX11_its 1 = .ok (.getfield 7, 3) := by decide +kernel
theorem dX11_its_4 : decode cX11_its 4 = .ok (.iconst 0, 1) := by decide +kernel
theorem dX11_its_5 : decode cX11_its 5 = .ok (.bipush 10, 2) := by decide +kernel
theorem dX11_its_7 : decode cX11_its 7 = .ok (.iload_n 1, 1) := by decide +kernel
theorem dX11_its_8 : decode cX11_its 8 = .ok (.imul, 1) := by decide +kernel
theorem dX11_its_9 : decode cX11_its 9 = .ok (.iadd, 1) := by decide +kernel
theorem dX11_its_10 : decode cX11_its 10 = .ok (.iload_n 2, 1) := by decide +kernel
theorem dX11_its_11 : decode cX11_its 11 = .ok (.iadd, 1) := by decide +kernel
theorem dX11_its_12 : decode cX11_its 12 = .ok (.iaload, 1) := by decide +kernel
theorem dX11_its_13 : decode cX11_its 13 = .ok (.ireturn, 1) := by decide +kernel
theorem dX11_isAlive_0 : decode cX11_isAlive 0 = .ok (.aload_n 0, 1) := by decide +kernel
theorem dX11_isAlive_1 : decode cX11_isAlive 1 = .ok (.iload_n 1, 1) := by decide +kernel
theorem dX11_isAlive_2 : decode cX11_isAlive 2 = .ok (.invokevirtual 88, 3) := by decide +kernel
theorem dX11_isAlive_5 : decode cX11_isAlive 5 = .ok (.ifCond .eq 17, 3) := by decide +kernel
theorem dX11_isAlive_8 : decode cX11_isAlive 8 = .ok (.aload_n 0, 1) := by decide +kernel
theorem dX11_isAlive_9 : decode cX11_isAlive 9 = .ok (.iload_n 1, 1) := by decide +kernel
theorem dX11_isAlive_10 : decode cX11_isAlive 10 = .ok (.iconst 5, 1) := by decide +kernel
theorem dX11_isAlive_11 : decode cX11_isAlive 11 = .ok (.invokevirtual 92, 3) := by decide +kernel
theorem dX11_isAlive_14 : decode cX11_isAlive 14 = .ok (.iconst 1, 1) := by decide +kernel
theorem dX11_isAlive_15 : decode cX11_isAlive 15 = .ok (.if_icmp .ne 7, 3) := by decide +kernel
theorem dX11_isAlive_18 : decode cX11_isAlive 18 = .ok (.iconst 1, 1) := by decide +kernel
theorem dX11_isAlive_19 : decode cX11_isAlive 19 = .ok (.goto 4, 3) := by decide +kernel
theorem dX11_isAlive_22 : decode cX11_isAlive 22 = .ok (.iconst 0, 1) := by decide +kernel
theorem dX11_isAlive_23 : decode cX11_isAlive 23 = .ok (.ireturn, 1) := by decide +kernel
theorem dX11_effectIs_0 : decode cX11_effectIs 0 = .ok (.aload_n 0, 1) := by decide +kernel
theorem dX11_effectIs_1 : decode cX11_effectIs 1 = .ok (.getfield 7, 3) := by decide +kernel
theorem dX11_effectIs_4 : decode cX11_effectIs 4 = .ok (.bipush 80, 2) := by decide +kernel
theorem dX11_effectIs_6 : decode cX11_effectIs 6 = .ok (.bipush 7, 2) := by decide +kernel
theorem dX11_effectIs_8 : decode cX11_effectIs 8 = .ok (.iload_n 1, 1) := by decide +kernel
theorem dX11_effectIs_9 : decode cX11_effectIs 9 = .ok (.imul, 1) := by decide +kernel
theorem dX11_effectIs_10 : decode cX11_effectIs 10 = .ok (.iadd, 1) := by decide +kernel
theorem dX11_effectIs_11 : decode cX11_effectIs 11 = .ok (.iload_n 2, 1) := by decide +kernel
theorem dX11_effectIs_12 : decode cX11_effectIs 12 = .ok (.iadd, 1) := by decide +kernel
theorem dX11_effectIs_13 : decode cX11_effectIs 13 = .ok (.iaload, 1) := by decide +kernel
theorem dX11_effectIs_14 : decode cX11_effectIs 14 = .ok (.ireturn, 1) := by decide +kernel
theorem dX11_isEffect_0 : decode cX11_isEffect 0 = .ok (.iload_n 1, 1) := by decide +kernel
theorem dX11_isEffect_1 : decode cX11_isEffect 1 = .ok (.iconst 0, 1) := by decide +kernel
theorem dX11_isEffect_2 : decode cX11_isEffect 2 = .ok (.aload_n 0, 1) := by decide +kernel
theorem dX11_isEffect_3 : decode cX11_isEffect 3 = .ok (.getfield 7, 3) := by decide +kernel
theorem dX11_isEffect_6 : decode cX11_isEffect 6 = .ok (.sipush 239, 3) := by decide +kernel
theorem dX11_isEffect_9 : decode cX11_isEffect 9 = .ok (.iaload, 1) := by decide +kernel
theorem dX11_isEffect_10 : decode cX11_isEffect 10 = .ok (.iconst 1, 1) := by decide +kernel
theorem dX11_isEffect_11 : decode cX11_isEffect 11 = .ok (.isub, 1) := by decide +kernel
theorem dX11_isEffect_12 : decode cX11_isEffect 12 = .ok (.invokestatic 84, 3) := by decide +kernel
theorem dX11_isEffect_15 : decode cX11_isEffect 15 = .ok (.ireturn, 1) := by decide +kernel
theorem dX11_watcher_0 : decode cX11_watcher 0 = .ok (.aload_n 0, 1) := by decide +kernel
theorem dX11_watcher_1 : decode cX11_watcher 1 = .ok (.getfield 7, 3) := by decide +kernel
theorem dX11_watcher_4 : decode cX11_watcher 4 = .ok (.sipush 182, 3) := by decide +kernel
theorem dX11_watcher_7 : decode cX11_watcher 7 = .ok (.bipush 7, 2) := by decide +kernel
theorem dX11_watcher_9 : decode cX11_watcher 9 = .ok (.iload_n 1, 1) := by decide +kernel
theorem dX11_watcher_10 : decode cX11_watcher 10 = .ok (.imul, 1) := by decide +kernel
theorem dX11_watcher_11 : decode cX11_watcher 11 = .ok (.iadd, 1) := by decide +kernel
theorem dX11_watcher_12 : decode cX11_watcher 12 = .ok (.iload_n 2, 1) := by decide +kernel
theorem dX11_watcher_13 : decode cX11_watcher 13 = .ok (.iadd, 1) := by decide +kernel
theorem dX11_watcher_14 : decode cX11_watcher 14 = .ok (.iaload, 1) := by decide +kernel
theorem dX11_watcher_15 : decode cX11_watcher 15 = .ok (.ireturn, 1) := by decide +kernel
theorem dX11_isScope_0 : decode cX11_isScope 0 = .ok (.iload_n 0, 1) := by decide +kernel
theorem dX11_isScope_1 : decode cX11_isScope 1 = .ok (.ifCond .eq 40, 3) := by decide +kernel
theorem dX11_isScope_4 : decode cX11_isScope 4 = .ok (.iload_n 0, 1) := by decide +kernel
theorem dX11_isScope_5 : decode cX11_isScope 5 = .ok (.iconst 1, 1) := by decide +kernel
theorem dX11_isScope_6 : decode cX11_isScope 6 = .ok (.iconst 5, 1) := by decide +kernel
theorem dX11_isScope_7 : decode cX11_isScope 7 = .ok (.invokestatic 84, 3) := by decide +kernel
theorem dX11_isScope_10 : decode cX11_isScope 10 = .ok (.ifCond .eq 35, 3) := by decide +kernel
theorem dX11_isScope_13 : decode cX11_isScope 13 = .ok (.iload_n 1, 1) := by decide +kernel
theorem dX11_isScope_14 : decode cX11_isScope 14 = .ok (.iconst 0, 1) := by decide +kernel
theorem dX11_isScope_15 : decode cX11_isScope 15 = .ok (.iload_n 0, 1) := by decide +kernel
theorem dX11_isScope_16 : decode cX11_isScope 16 = .ok (.iconst 1, 1) := by decide +kernel
theorem dX11_isScope_17 : decode cX11_isScope 17 = .ok (.if_icmp .ne 7, 3) := by decide +kernel
theorem dX11_isScope_20 : decode cX11_isScope 20 = .ok (.iconst 1, 1) := by decide +kernel
theorem dX11_isScope_21 : decode cX11_isScope 21 = .ok (.goto 14, 3) := by decide +kernel
theorem dX11_isScope_24 : decode cX11_isScope 24 = .ok (.iload_n 0, 1) := by decide +kernel
theorem dX11_isScope_25 : decode cX11_isScope 25 = .ok (.iconst 5, 1) := by decide +kernel
theorem dX11_isScope_26 : decode cX11_isScope 26 = .ok (.if_icmp .ne 8, 3) := by decide +kernel
theorem dX11_isScope_29 : decode cX11_isScope 29 = .ok (.bipush 7, 2) := by decide +kernel
theorem dX11_isScope_31 : decode cX11_isScope 31 = .ok (.goto 4, 3) := by decide +kernel
theorem dX11_isScope_34 : decode cX11_isScope 34 = .ok (.iconst 5, 1) := by decide +kernel
theorem dX11_isScope_35 : decode cX11_isScope 35 = .ok (.invokestatic 84, 3) := by decide +kernel
theorem dX11_isScope_38 : decode cX11_isScope 38 = .ok (.ifCond .eq 7, 3) := by decide +kernel
theorem dX11_isScope_41 : decode cX11_isScope 41 = .ok (.iconst 1, 1) := by decide +kernel
theorem dX11_isScope_42 : decode cX11_isScope 42 = .ok (.goto 4, 3) := by decide +kernel
theorem dX11_isScope_45 : decode cX11_isScope 45 = .ok (.iconst 0, 1) := by decide +kernel
theorem dX11_isScope_46 : decode cX11_isScope 46 = .ok (.ireturn, 1) := by decide +kernel
theorem dX11_inScope_0 : decode cX11_inScope 0 = .ok (.iconst 0, 1) := by decide +kernel
theorem dX11_inScope_1 : decode cX11_inScope 1 = .ok (.istore 4, 2) := by decide +kernel
theorem dX11_inScope_3 : decode cX11_inScope 3 = .ok (.iconst 0, 1) := by decide +kernel
theorem dX11_inScope_4 : decode cX11_inScope 4 = .ok (.istore 5, 2) := by decide +kernel
theorem dX11_inScope_6 : decode cX11_inScope 6 = .ok (.iload 5, 2) := by decide +kernel
theorem dX11_inScope_8 : decode cX11_inScope 8 = .ok (.aload_n 0, 1) := by decide +kernel
theorem dX11_inScope_9 : decode cX11_inScope 9 = .ok (.getfield 7, 3) := by decide +kernel
theorem dX11_inScope_12 : decode cX11_inScope 12 = .ok (.sipush 238, 3) := by decide +kernel
theorem dX11_inScope_15 : decode cX11_inScope 15 = .ok (.iaload, 1) := by decide +kernel
theorem dX11_inScope_16 : decode cX11_inScope 16 = .ok (.if_icmp .ge 136, 3) := by decide +kernel
theorem dX11_inScope_19 : decode cX11_inScope 19 = .ok (.iload_n 2, 1) := by decide +kernel
theorem dX11_inScope_20 : decode cX11_inScope 20 = .ok (.ifCond .eq 92, 3) := by decide +kernel
theorem dX11_inScope_23 : decode cX11_inScope 23 = .ok (.iload_n 2, 1) := by decide +kernel
theorem dX11_inScope_24 : decode cX11_inScope 24 = .ok (.iconst 1, 1) := by decide +kernel
theorem dX11_inScope_25 : decode cX11_inScope 25 = .ok (.if_icmp .ne 17, 3) := by decide +kernel
theorem dX11_inScope_28 : decode cX11_inScope 28 = .ok (.aload_n 0, 1) := by decide +kernel
theorem dX11_inScope_29 : decode cX11_inScope 29 = .ok (.iload 5, 2) := by decide +kernel
theorem dX11_inScope_31 : decode cX11_inScope 31 = .ok (.iconst 0, 1) := by decide +kernel
theorem dX11_inScope_32 : decode cX11_inScope 32 = .ok (.invokevirtual 92, 3) := by decide +kernel
theorem dX11_inScope_35 : decode cX11_inScope 35 = .ok (.iload_n 3, 1) := by decide +kernel
theorem dX11_inScope_36 : decode cX11_inScope 36 = .ok (.if_icmp .ne 80, 3) := by decide +kernel
theorem dX11_inScope_39 : decode cX11_inScope 39 = .ok (.goto 73, 3) := by decide +kernel
theorem dX11_inScope_42 : decode cX11_inScope 42 = .ok (.iload_n 2, 1) := by decide +kernel
theorem dX11_inScope_43 : decode cX11_inScope 43 = .ok (.iconst 2, 1) := by decide +kernel
theorem dX11_inScope_44 : decode cX11_inScope 44 = .ok (.if_icmp .ne 16, 3) := by decide +kernel
theorem dX11_inScope_47 : decode cX11_inScope 47 = .ok (.aload_n 1, 1) := by decide +kernel
theorem dX11_inScope_48 : decode cX11_inScope 48 = .ok (.iconst 4, 1) := by decide +kernel
theorem dX11_inScope_49 : decode cX11_inScope 49 = .ok (.iload 5, 2) := by decide +kernel
theorem dX11_inScope_51 : decode cX11_inScope 51 = .ok (.imul, 1) := by decide +kernel
theorem dX11_inScope_52 : decode cX11_inScope 52 = .ok (.iaload, 1) := by decide +kernel
theorem dX11_inScope_53 : decode cX11_inScope 53 = .ok (.iload_n 3, 1) := by decide +kernel
theorem dX11_inScope_54 : decode cX11_inScope 54 = .ok (.if_icmp .ne 62, 3) := by decide +kernel
theorem dX11_inScope_57 : decode cX11_inScope 57 = .ok (.goto 55, 3) := by decide +kernel
theorem dX11_inScope_60 : decode cX11_inScope 60 = .ok (.iload_n 2, 1) := by decide +kernel
theorem dX11_inScope_61 : decode cX11_inScope 61 = .ok (.iconst 3, 1) := by decide +kernel
theorem dX11_inScope_62 : decode cX11_inScope 62 = .ok (.if_icmp .ne 21, 3) := by decide +kernel
theorem dX11_inScope_65 : decode cX11_inScope 65 = .ok (.aload_n 1, 1) := by decide +kernel
theorem dX11_inScope_66 : decode cX11_inScope 66 = .ok (.iconst 4, 1) := by decide +kernel
theorem dX11_inScope_67 : decode cX11_inScope 67 = .ok (.iload 5, 2) := by decide +kernel
theorem dX11_inScope_69 : decode cX11_inScope 69 = .ok (.imul, 1) := by decide +kernel
theorem dX11_inScope_70 : decode cX11_inScope 70 = .ok (.iconst 1, 1) := by decide +kernel
theorem dX11_inScope_71 : decode cX11_inScope 71 = .ok (.iadd, 1) := by decide +kernel
theorem dX11_inScope_72 : decode cX11_inScope 72 = .ok (.iaload, 1) := by decide +kernel
theorem dX11_inScope_73 : decode cX11_inScope 73 = .ok (.iload_n 3, 1) := by decide +kernel
theorem dX11_inScope_74 : decode cX11_inScope 74 = .ok (.invokestatic 96, 3) := by decide +kernel
theorem dX11_inScope_77 : decode cX11_inScope 77 = .ok (.ifCond .eq 39, 3) := by decide +kernel
theorem dX11_inScope_80 : decode cX11_inScope 80 = .ok (.goto 32, 3) := by decide +kernel
theorem dX11_inScope_83 : decode cX11_inScope 83 = .ok (.iload_n 2, 1) := by decide +kernel
theorem dX11_inScope_84 : decode cX11_inScope 84 = .ok (.iconst 4, 1) := by decide +kernel
theorem dX11_inScope_85 : decode cX11_inScope 85 = .ok (.if_icmp .ne 21, 3) := by decide +kernel
theorem dX11_inScope_88 : decode cX11_inScope 88 = .ok (.aload_n 1, 1) := by decide +kernel
theorem dX11_inScope_89 : decode cX11_inScope 89 = .ok (.iconst 4, 1) := by decide +kernel
theorem dX11_inScope_90 : decode cX11_inScope 90 = .ok (.iload 5, 2) := by decide +kernel
theorem dX11_inScope_92 : decode cX11_inScope 92 = .ok (.imul, 1) := by decide +kernel
theorem dX11_inScope_93 : decode cX11_inScope 93 = .ok (.iconst 1, 1) := by decide +kernel
theorem dX11_inScope_94 : decode cX11_inScope 94 = .ok (.iadd, 1) := by decide +kernel
theorem dX11_inScope_95 : decode cX11_inScope 95 = .ok (.iaload, 1) := by decide +kernel
theorem dX11_inScope_96 : decode cX11_inScope 96 = .ok (.iload_n 3, 1) := by decide +kernel
theorem dX11_inScope_97 : decode cX11_inScope 97 = .ok (.invokestatic 96, 3) := by decide +kernel
theorem dX11_inScope_100 : decode cX11_inScope 100 = .ok (.ifCond .ne 16, 3) := by decide +kernel
theorem dX11_inScope_103 : decode cX11_inScope 103 = .ok (.goto 9, 3) := by decide +kernel
theorem dX11_inScope_106 : decode cX11_inScope 106 = .ok (.iload 5, 2) := by decide +kernel
theorem dX11_inScope_108 : decode cX11_inScope 108 = .ok (.iload_n 3, 1) := by decide +kernel
theorem dX11_inScope_109 : decode cX11_inScope 109 = .ok (.if_icmp .ne 7, 3) := by decide +kernel
theorem dX11_inScope_112 : decode cX11_inScope 112 = .ok (.iconst 1, 1) := by decide +kernel
theorem dX11_inScope_113 : decode cX11_inScope 113 = .ok (.goto 4, 3) := by decide +kernel
theorem dX11_inScope_116 : decode cX11_inScope 116 = .ok (.iconst 0, 1) := by decide +kernel
theorem dX11_inScope_117 : decode cX11_inScope 117 = .ok (.istore 6, 2) := by decide +kernel
theorem dX11_inScope_119 : decode cX11_inScope 119 = .ok (.iload 4, 2) := by decide +kernel
theorem dX11_inScope_121 : decode cX11_inScope 121 = .ok (.iload 6, 2) := by decide +kernel
theorem dX11_inScope_123 : decode cX11_inScope 123 = .ok (.ifCond .eq 19, 3) := by decide +kernel
theorem dX11_inScope_126 : decode cX11_inScope 126 = .ok (.aload_n 0, 1) := by decide +kernel
theorem dX11_inScope_127 : decode cX11_inScope 127 = .ok (.iload 5, 2) := by decide +kernel
theorem dX11_inScope_129 : decode cX11_inScope 129 = .ok (.invokevirtual 100, 3) := by decide +kernel
theorem dX11_inScope_132 : decode cX11_inScope 132 = .ok (.ifCond .eq 10, 3) := by decide +kernel
theorem dX11_inScope_135 : decode cX11_inScope 135 = .ok (.iconst 1, 1) := by decide +kernel
theorem dX11_inScope_136 : decode cX11_inScope 136 = .ok (.iload 5, 2) := by decide +kernel
theorem dX11_inScope_138 : decode cX11_inScope 138 = .ok (.ishl, 1) := by decide +kernel
theorem dX11_inScope_139 : decode cX11_inScope 139 = .ok (.goto 4, 3) := by decide +kernel
theorem dX11_inScope_142 : decode cX11_inScope 142 = .ok (.iconst 0, 1) := by decide +kernel
theorem dX11_inScope_143 : decode cX11_inScope 143 = .ok (.ior, 1) := by decide +kernel
theorem dX11_inScope_144 : decode cX11_inScope 144 = .ok (.istore 4, 2) := by decide +kernel
theorem dX11_inScope_146 : decode cX11_inScope 146 = .ok (.iinc 5 1, 3) := by decide +kernel
theorem dX11_inScope_149 : decode cX11_inScope 149 = .ok (.goto (-143), 3) := by decide +kernel
theorem dX11_inScope_152 : decode cX11_inScope 152 = .ok (.iload 4, 2) := by decide +kernel
theorem dX11_inScope_154 : decode cX11_inScope 154 = .ok (.ireturn, 1) := by decide +kernel
theorem dX11_scopeOf_0 : decode cX11_scopeOf 0 = .ok (.aload_n 0, 1) := by decide +kernel
theorem dX11_scopeOf_1 : decode cX11_scopeOf 1 = .ok (.aload_n 1, 1) := by decide +kernel
theorem dX11_scopeOf_2 : decode cX11_scopeOf 2 = .ok (.aload_n 0, 1) := by decide +kernel
theorem dX11_scopeOf_3 : decode cX11_scopeOf 3 = .ok (.iload_n 2, 1) := by decide +kernel
theorem dX11_scopeOf_4 : decode cX11_scopeOf 4 = .ok (.iconst 2, 1) := by decide +kernel
theorem dX11_scopeOf_5 : decode cX11_scopeOf 5 = .ok (.invokevirtual 103, 3) := by decide +kernel
theorem dX11_scopeOf_8 : decode cX11_scopeOf 8 = .ok (.aload_n 0, 1) := by decide +kernel
theorem dX11_scopeOf_9 : decode cX11_scopeOf 9 = .ok (.iload_n 2, 1) := by decide +kernel
theorem dX11_scopeOf_10 : decode cX11_scopeOf 10 = .ok (.iconst 3, 1) := by decide +kernel
theorem dX11_scopeOf_11 : decode cX11_scopeOf 11 = .ok (.invokevirtual 103, 3) := by decide +kernel
theorem dX11_scopeOf_14 : decode cX11_scopeOf 14 = .ok (.invokevirtual 106, 3) := by decide +kernel
theorem dX11_scopeOf_17 : decode cX11_scopeOf 17 = .ok (.ireturn, 1) := by decide +kernel
theorem dX11_does_0 : decode cX11_does 0 = .ok (.aload_n 0, 1) := by decide +kernel
theorem dX11_does_1 : decode cX11_does 1 = .ok (.aload_n 1, 1) := by decide +kernel
theorem dX11_does_2 : decode cX11_does 2 = .ok (.iload_n 2, 1) := by decide +kernel
theorem dX11_does_3 : decode cX11_does 3 = .ok (.invokevirtual 110, 3) := by decide +kernel
theorem dX11_does_6 : decode cX11_does 6 = .ok (.istore_n 3, 1) := by decide +kernel
theorem dX11_does_7 : decode cX11_does 7 = .ok (.aload_n 0, 1) := by decide +kernel
theorem dX11_does_8 : decode cX11_does 8 = .ok (.iload_n 2, 1) := by decide +kernel
theorem dX11_does_9 : decode cX11_does 9 = .ok (.iconst 4, 1) := by decide +kernel
theorem dX11_does_10 : decode cX11_does 10 = .ok (.invokevirtual 103, 3) := by decide +kernel
theorem dX11_does_13 : decode cX11_does 13 = .ok (.istore 4, 2) := by decide +kernel
theorem dX11_does_15 : decode cX11_does 15 = .ok (.aload_n 0, 1) := by decide +kernel
theorem dX11_does_16 : decode cX11_does 16 = .ok (.iload_n 2, 1) := by decide +kernel
theorem dX11_does_17 : decode cX11_does 17 = .ok (.iconst 5, 1) := by decide +kernel
theorem dX11_does_18 : decode cX11_does 18 = .ok (.invokevirtual 103, 3) := by decide +kernel
theorem dX11_does_21 : decode cX11_does 21 = .ok (.istore 5, 2) := by decide +kernel
theorem dX11_does_23 : decode cX11_does 23 = .ok (.iconst 0, 1) := by decide +kernel
theorem dX11_does_24 : decode cX11_does 24 = .ok (.istore 6, 2) := by decide +kernel
theorem dX11_does_26 : decode cX11_does 26 = .ok (.iload 6, 2) := by decide +kernel
theorem dX11_does_28 : decode cX11_does 28 = .ok (.aload_n 0, 1) := by decide +kernel
theorem dX11_does_29 : decode cX11_does 29 = .ok (.getfield 7, 3) := by decide +kernel
theorem dX11_does_32 : decode cX11_does 32 = .ok (.sipush 238, 3) := by decide +kernel
theorem dX11_does_35 : decode cX11_does 35 = .ok (.iaload, 1) := by decide +kernel
theorem dX11_does_36 : decode cX11_does 36 = .ok (.if_icmp .ge 203, 3) := by decide +kernel
theorem dX11_does_39 : decode cX11_does 39 = .ok (.iload_n 3, 1) := by decide +kernel
theorem dX11_does_40 : decode cX11_does 40 = .ok (.iload 6, 2) := by decide +kernel
theorem dX11_does_42 : decode cX11_does 42 = .ok (.invokestatic 96, 3) := by decide +kernel
theorem dX11_does_45 : decode cX11_does 45 = .ok (.ifCond .ne 6, 3) := by decide +kernel
theorem dX11_does_48 : decode cX11_does 48 = .ok (.goto 185, 3) := by decide +kernel
theorem dX11_does_51 : decode cX11_does 51 = .ok (.aload_n 1, 1) := by decide +kernel
theorem dX11_does_52 : decode cX11_does 52 = .ok (.iconst 4, 1) := by decide +kernel
theorem dX11_does_53 : decode cX11_does 53 = .ok (.iload 6, 2) := by decide +kernel
theorem dX11_does_55 : decode cX11_does 55 = .ok (.imul, 1) := by decide +kernel
theorem dX11_does_56 : decode cX11_does 56 = .ok (.iconst 2, 1) := by decide +kernel
theorem dX11_does_57 : decode cX11_does 57 = .ok (.iadd, 1) := by decide +kernel
theorem dX11_does_58 : decode cX11_does 58 = .ok (.iaload, 1) := by decide +kernel
theorem dX11_does_59 : decode cX11_does 59 = .ok (.istore 7, 2) := by decide +kernel
theorem dX11_does_61 : decode cX11_does 61 = .ok (.aload_n 1, 1) := by decide +kernel
theorem dX11_does_62 : decode cX11_does 62 = .ok (.iconst 4, 1) := by decide +kernel
end
section
theorem dX11_does_63 : decode cX11_does 63 = .ok (.iload 6, 2) := by decide +kernel
theorem dX11_does_65 : decode cX11_does 65 = .ok (.imul, 1) := by decide +kernel
theorem dX11_does_66 : decode cX11_does 66 = .ok (.iconst 3, 1) := by decide +kernel
theorem dX11_does_67 : decode cX11_does 67 = .ok (.iadd, 1) := by decide +kernel
theorem dX11_does_68 : decode cX11_does 68 = .ok (.iaload, 1) := by decide +kernel
theorem dX11_does_69 : decode cX11_does 69 = .ok (.istore 8, 2) := by decide +kernel
theorem dX11_does_71 : decode cX11_does 71 = .ok (.aload_n 0, 1) := by decide +kernel
theorem dX11_does_72 : decode cX11_does 72 = .ok (.iload_n 2, 1) := by decide +kernel
theorem dX11_does_73 : decode cX11_does 73 = .ok (.iconst 1, 1) := by decide +kernel
theorem dX11_does_74 : decode cX11_does 74 = .ok (.invokevirtual 103, 3) := by decide +kernel
theorem dX11_does_77 : decode cX11_does 77 = .ok (.tableswitch 136 0 4 #[35, 46, 64, 84, 107], 35) := by decide +kernel
theorem dX11_does_112 : decode cX11_does 112 = .ok (.aload_n 1, 1) := by decide +kernel
theorem dX11_does_113 : decode cX11_does 113 = .ok (.iconst 4, 1) := by decide +kernel
theorem dX11_does_114 : decode cX11_does 114 = .ok (.iload 6, 2) := by decide +kernel
theorem dX11_does_116 : decode cX11_does 116 = .ok (.imul, 1) := by decide +kernel
theorem dX11_does_117 : decode cX11_does 117 = .ok (.iload 4, 2) := by decide +kernel
theorem dX11_does_119 : decode cX11_does 119 = .ok (.iastore, 1) := by decide +kernel
theorem dX11_does_120 : decode cX11_does 120 = .ok (.goto 113, 3) := by decide +kernel
theorem dX11_does_123 : decode cX11_does 123 = .ok (.aload_n 1, 1) := by decide +kernel
theorem dX11_does_124 : decode cX11_does 124 = .ok (.iconst 4, 1) := by decide +kernel
theorem dX11_does_125 : decode cX11_does 125 = .ok (.iload 6, 2) := by decide +kernel
theorem dX11_does_127 : decode cX11_does 127 = .ok (.imul, 1) := by decide +kernel
theorem dX11_does_128 : decode cX11_does 128 = .ok (.iconst 1, 1) := by decide +kernel
theorem dX11_does_129 : decode cX11_does 129 = .ok (.iadd, 1) := by decide +kernel
theorem dX11_does_130 : decode cX11_does 130 = .ok (.dup2, 1) := by decide +kernel
theorem dX11_does_131 : decode cX11_does 131 = .ok (.iaload, 1) := by decide +kernel
theorem dX11_does_132 : decode cX11_does 132 = .ok (.iconst 1, 1) := by decide +kernel
theorem dX11_does_133 : decode cX11_does 133 = .ok (.iload 4, 2) := by decide +kernel
theorem dX11_does_135 : decode cX11_does 135 = .ok (.ishl, 1) := by decide +kernel
theorem dX11_does_136 : decode cX11_does 136 = .ok (.ior, 1) := by decide +kernel
theorem dX11_does_137 : decode cX11_does 137 = .ok (.iastore, 1) := by decide +kernel
theorem dX11_does_138 : decode cX11_does 138 = .ok (.goto 95, 3) := by decide +kernel
theorem dX11_does_141 : decode cX11_does 141 = .ok (.aload_n 1, 1) := by decide +kernel
theorem dX11_does_142 : decode cX11_does 142 = .ok (.iconst 4, 1) := by decide +kernel
theorem dX11_does_143 : decode cX11_does 143 = .ok (.iload 6, 2) := by decide +kernel
theorem dX11_does_145 : decode cX11_does 145 = .ok (.imul, 1) := by decide +kernel
theorem dX11_does_146 : decode cX11_does 146 = .ok (.iconst 1, 1) := by decide +kernel
theorem dX11_does_147 : decode cX11_does 147 = .ok (.iadd, 1) := by decide +kernel
theorem dX11_does_148 : decode cX11_does 148 = .ok (.dup2, 1) := by decide +kernel
theorem dX11_does_149 : decode cX11_does 149 = .ok (.iaload, 1) := by decide +kernel
theorem dX11_does_150 : decode cX11_does 150 = .ok (.iconst 1, 1) := by decide +kernel
theorem dX11_does_151 : decode cX11_does 151 = .ok (.iload 4, 2) := by decide +kernel
theorem dX11_does_153 : decode cX11_does 153 = .ok (.ishl, 1) := by decide +kernel
theorem dX11_does_154 : decode cX11_does 154 = .ok (.iconst (-1), 1) := by decide +kernel
theorem dX11_does_155 : decode cX11_does 155 = .ok (.ixor, 1) := by decide +kernel
theorem dX11_does_156 : decode cX11_does 156 = .ok (.iand, 1) := by decide +kernel
theorem dX11_does_157 : decode cX11_does 157 = .ok (.iastore, 1) := by decide +kernel
theorem dX11_does_158 : decode cX11_does 158 = .ok (.goto 75, 3) := by decide +kernel
theorem dX11_does_161 : decode cX11_does 161 = .ok (.aload_n 1, 1) := by decide +kernel
theorem dX11_does_162 : decode cX11_does 162 = .ok (.iconst 4, 1) := by decide +kernel
theorem dX11_does_163 : decode cX11_does 163 = .ok (.iload 6, 2) := by decide +kernel
theorem dX11_does_165 : decode cX11_does 165 = .ok (.imul, 1) := by decide +kernel
theorem dX11_does_166 : decode cX11_does 166 = .ok (.iconst 2, 1) := by decide +kernel
theorem dX11_does_167 : decode cX11_does 167 = .ok (.iadd, 1) := by decide +kernel
theorem dX11_does_168 : decode cX11_does 168 = .ok (.iload 4, 2) := by decide +kernel
theorem dX11_does_170 : decode cX11_does 170 = .ok (.iastore, 1) := by decide +kernel
theorem dX11_does_171 : decode cX11_does 171 = .ok (.aload_n 1, 1) := by decide +kernel
theorem dX11_does_172 : decode cX11_does 172 = .ok (.iconst 4, 1) := by decide +kernel
theorem dX11_does_173 : decode cX11_does 173 = .ok (.iload 6, 2) := by decide +kernel
theorem dX11_does_175 : decode cX11_does 175 = .ok (.imul, 1) := by decide +kernel
theorem dX11_does_176 : decode cX11_does 176 = .ok (.iconst 3, 1) := by decide +kernel
theorem dX11_does_177 : decode cX11_does 177 = .ok (.iadd, 1) := by decide +kernel
theorem dX11_does_178 : decode cX11_does 178 = .ok (.iload 5, 2) := by decide +kernel
theorem dX11_does_180 : decode cX11_does 180 = .ok (.iastore, 1) := by decide +kernel
theorem dX11_does_181 : decode cX11_does 181 = .ok (.goto 52, 3) := by decide +kernel
theorem dX11_does_184 : decode cX11_does 184 = .ok (.aload_n 1, 1) := by decide +kernel
theorem dX11_does_185 : decode cX11_does 185 = .ok (.iconst 4, 1) := by decide +kernel
theorem dX11_does_186 : decode cX11_does 186 = .ok (.iload 6, 2) := by decide +kernel
theorem dX11_does_188 : decode cX11_does 188 = .ok (.imul, 1) := by decide +kernel
theorem dX11_does_189 : decode cX11_does 189 = .ok (.iconst 2, 1) := by decide +kernel
theorem dX11_does_190 : decode cX11_does 190 = .ok (.iadd, 1) := by decide +kernel
theorem dX11_does_191 : decode cX11_does 191 = .ok (.iload 7, 2) := by decide +kernel
theorem dX11_does_193 : decode cX11_does 193 = .ok (.iload 4, 2) := by decide +kernel
theorem dX11_does_195 : decode cX11_does 195 = .ok (.iadd, 1) := by decide +kernel
theorem dX11_does_196 : decode cX11_does 196 = .ok (.iastore, 1) := by decide +kernel
theorem dX11_does_197 : decode cX11_does 197 = .ok (.aload_n 1, 1) := by decide +kernel
theorem dX11_does_198 : decode cX11_does 198 = .ok (.iconst 4, 1) := by decide +kernel
theorem dX11_does_199 : decode cX11_does 199 = .ok (.iload 6, 2) := by decide +kernel
theorem dX11_does_201 : decode cX11_does 201 = .ok (.imul, 1) := by decide +kernel
theorem dX11_does_202 : decode cX11_does 202 = .ok (.iconst 3, 1) := by decide +kernel
theorem dX11_does_203 : decode cX11_does 203 = .ok (.iadd, 1) := by decide +kernel
theorem dX11_does_204 : decode cX11_does 204 = .ok (.iload 8, 2) := by decide +kernel
theorem dX11_does_206 : decode cX11_does 206 = .ok (.iload 5, 2) := by decide +kernel
theorem dX11_does_208 : decode cX11_does 208 = .ok (.iadd, 1) := by decide +kernel
theorem dX11_does_209 : decode cX11_does 209 = .ok (.iastore, 1) := by decide +kernel
theorem dX11_does_210 : decode cX11_does 210 = .ok (.goto 23, 3) := by decide +kernel
theorem dX11_does_213 : decode cX11_does 213 = .ok (.aload_n 1, 1) := by decide +kernel
theorem dX11_does_214 : decode cX11_does 214 = .ok (.iconst 4, 1) := by decide +kernel
theorem dX11_does_215 : decode cX11_does 215 = .ok (.iload 6, 2) := by decide +kernel
theorem dX11_does_217 : decode cX11_does 217 = .ok (.imul, 1) := by decide +kernel
theorem dX11_does_218 : decode cX11_does 218 = .ok (.iconst 2, 1) := by decide +kernel
theorem dX11_does_219 : decode cX11_does 219 = .ok (.iadd, 1) := by decide +kernel
theorem dX11_does_220 : decode cX11_does 220 = .ok (.iload 8, 2) := by decide +kernel
theorem dX11_does_222 : decode cX11_does 222 = .ok (.iastore, 1) := by decide +kernel
theorem dX11_does_223 : decode cX11_does 223 = .ok (.aload_n 1, 1) := by decide +kernel
theorem dX11_does_224 : decode cX11_does 224 = .ok (.iconst 4, 1) := by decide +kernel
theorem dX11_does_225 : decode cX11_does 225 = .ok (.iload 6, 2) := by decide +kernel
theorem dX11_does_227 : decode cX11_does 227 = .ok (.imul, 1) := by decide +kernel
theorem dX11_does_228 : decode cX11_does 228 = .ok (.iconst 3, 1) := by decide +kernel
theorem dX11_does_229 : decode cX11_does 229 = .ok (.iadd, 1) := by decide +kernel
theorem dX11_does_230 : decode cX11_does 230 = .ok (.iload 7, 2) := by decide +kernel
theorem dX11_does_232 : decode cX11_does 232 = .ok (.iastore, 1) := by decide +kernel
theorem dX11_does_233 : decode cX11_does 233 = .ok (.iinc 6 1, 3) := by decide +kernel
theorem dX11_does_236 : decode cX11_does 236 = .ok (.goto (-210), 3) := by decide +kernel
theorem dX11_does_239 : decode cX11_does 239 = .ok (.return_, 1) := by decide +kernel
theorem dX11_doesSomething_0 : decode cX11_doesSomething 0 = .ok (.aload_n 0, 1) := by decide +kernel
theorem dX11_doesSomething_1 : decode cX11_doesSomething 1 = .ok (.iload_n 1, 1) := by decide +kernel
theorem dX11_doesSomething_2 : decode cX11_doesSomething 2 = .ok (.iconst 0, 1) := by decide +kernel
theorem dX11_doesSomething_3 : decode cX11_doesSomething 3 = .ok (.invokevirtual 103, 3) := by decide +kernel
theorem dX11_doesSomething_6 : decode cX11_doesSomething 6 = .ok (.iconst (-1), 1) := by decide +kernel
theorem dX11_doesSomething_7 : decode cX11_doesSomething 7 = .ok (.if_icmp .eq 16, 3) := by decide +kernel
theorem dX11_doesSomething_10 : decode cX11_doesSomething 10 = .ok (.aload_n 0, 1) := by decide +kernel
theorem dX11_doesSomething_11 : decode cX11_doesSomething 11 = .ok (.aload_n 0, 1) := by decide +kernel
theorem dX11_doesSomething_12 : decode cX11_doesSomething 12 = .ok (.iload_n 1, 1) := by decide +kernel
theorem dX11_doesSomething_13 : decode cX11_doesSomething 13 = .ok (.iconst 0, 1) := by decide +kernel
theorem dX11_doesSomething_14 : decode cX11_doesSomething 14 = .ok (.invokevirtual 103, 3) := by decide +kernel
theorem dX11_doesSomething_17 : decode cX11_doesSomething 17 = .ok (.invokevirtual 100, 3) := by decide +kernel
theorem dX11_doesSomething_20 : decode cX11_doesSomething 20 = .ok (.ifCond .eq 7, 3) := by decide +kernel
theorem dX11_doesSomething_23 : decode cX11_doesSomething 23 = .ok (.iconst 1, 1) := by decide +kernel
theorem dX11_doesSomething_24 : decode cX11_doesSomething 24 = .ok (.goto 4, 3) := by decide +kernel
theorem dX11_doesSomething_27 : decode cX11_doesSomething 27 = .ok (.iconst 0, 1) := by decide +kernel
theorem dX11_doesSomething_28 : decode cX11_doesSomething 28 = .ok (.ireturn, 1) := by decide +kernel
theorem dX11_layer_0 : decode cX11_layer 0 = .ok (.iload_n 0, 1) := by decide +kernel
theorem dX11_layer_1 : decode cX11_layer 1 = .ok (.iconst 2, 1) := by decide +kernel
theorem dX11_layer_2 : decode cX11_layer 2 = .ok (.if_icmp .ge 7, 3) := by decide +kernel
theorem dX11_layer_5 : decode cX11_layer 5 = .ok (.iload_n 0, 1) := by decide +kernel
theorem dX11_layer_6 : decode cX11_layer 6 = .ok (.goto 6, 3) := by decide +kernel
theorem dX11_layer_9 : decode cX11_layer 9 = .ok (.iload_n 0, 1) := by decide +kernel
theorem dX11_layer_10 : decode cX11_layer 10 = .ok (.iconst 1, 1) := by decide +kernel
theorem dX11_layer_11 : decode cX11_layer 11 = .ok (.isub, 1) := by decide +kernel
theorem dX11_layer_12 : decode cX11_layer 12 = .ok (.ireturn, 1) := by decide +kernel
theorem dX11_doesDepend_0 : decode cX11_doesDepend 0 = .ok (.iconst 0, 1) := by decide +kernel
theorem dX11_doesDepend_1 : decode cX11_doesDepend 1 = .ok (.istore_n 3, 1) := by decide +kernel
theorem dX11_doesDepend_2 : decode cX11_doesDepend 2 = .ok (.iload_n 3, 1) := by decide +kernel
theorem dX11_doesDepend_3 : decode cX11_doesDepend 3 = .ok (.bipush 32, 2) := by decide +kernel
theorem dX11_doesDepend_5 : decode cX11_doesDepend 5 = .ok (.if_icmp .ge 21, 3) := by decide +kernel
theorem dX11_doesDepend_8 : decode cX11_doesDepend 8 = .ok (.aload_n 0, 1) := by decide +kernel
theorem dX11_doesDepend_9 : decode cX11_doesDepend 9 = .ok (.getfield 22, 3) := by decide +kernel
theorem dX11_doesDepend_12 : decode cX11_doesDepend 12 = .ok (.iload_n 3, 1) := by decide +kernel
theorem dX11_doesDepend_13 : decode cX11_doesDepend 13 = .ok (.aload_n 0, 1) := by decide +kernel
theorem dX11_doesDepend_14 : decode cX11_doesDepend 14 = .ok (.getfield 19, 3) := by decide +kernel
theorem dX11_doesDepend_17 : decode cX11_doesDepend 17 = .ok (.iload_n 3, 1) := by decide +kernel
theorem dX11_doesDepend_18 : decode cX11_doesDepend 18 = .ok (.iaload, 1) := by decide +kernel
theorem dX11_doesDepend_19 : decode cX11_doesDepend 19 = .ok (.iastore, 1) := by decide +kernel
theorem dX11_doesDepend_20 : decode cX11_doesDepend 20 = .ok (.iinc 3 1, 3) := by decide +kernel
theorem dX11_doesDepend_23 : decode cX11_doesDepend 23 = .ok (.goto (-21), 3) := by decide +kernel
theorem dX11_doesDepend_26 : decode cX11_doesDepend 26 = .ok (.aload_n 0, 1) := by decide +kernel
theorem dX11_doesDepend_27 : decode cX11_doesDepend 27 = .ok (.aload_n 0, 1) := by decide +kernel
theorem dX11_doesDepend_28 : decode cX11_doesDepend 28 = .ok (.getfield 22, 3) := by decide +kernel
theorem dX11_doesDepend_31 : decode cX11_doesDepend 31 = .ok (.iload_n 2, 1) := by decide +kernel
theorem dX11_doesDepend_32 : decode cX11_doesDepend 32 = .ok (.invokevirtual 114, 3) := by decide +kernel
theorem dX11_doesDepend_35 : decode cX11_doesDepend 35 = .ok (.aload_n 0, 1) := by decide +kernel
theorem dX11_doesDepend_36 : decode cX11_doesDepend 36 = .ok (.aload_n 0, 1) := by decide +kernel
theorem dX11_doesDepend_37 : decode cX11_doesDepend 37 = .ok (.getfield 19, 3) := by decide +kernel
theorem dX11_doesDepend_40 : decode cX11_doesDepend 40 = .ok (.iload_n 1, 1) := by decide +kernel
theorem dX11_doesDepend_41 : decode cX11_doesDepend 41 = .ok (.invokevirtual 110, 3) := by decide +kernel
theorem dX11_doesDepend_44 : decode cX11_doesDepend 44 = .ok (.aload_n 0, 1) := by decide +kernel
theorem dX11_doesDepend_45 : decode cX11_doesDepend 45 = .ok (.aload_n 0, 1) := by decide +kernel
theorem dX11_doesDepend_46 : decode cX11_doesDepend 46 = .ok (.getfield 22, 3) := by decide +kernel
theorem dX11_doesDepend_49 : decode cX11_doesDepend 49 = .ok (.iload_n 1, 1) := by decide +kernel
theorem dX11_doesDepend_50 : decode cX11_doesDepend 50 = .ok (.invokevirtual 110, 3) := by decide +kernel
theorem dX11_doesDepend_53 : decode cX11_doesDepend 53 = .ok (.if_icmp .eq 7, 3) := by decide +kernel
theorem dX11_doesDepend_56 : decode cX11_doesDepend 56 = .ok (.iconst 1, 1) := by decide +kernel
theorem dX11_doesDepend_57 : decode cX11_doesDepend 57 = .ok (.goto 4, 3) := by decide +kernel
theorem dX11_doesDepend_60 : decode cX11_doesDepend 60 = .ok (.iconst 0, 1) := by decide +kernel
theorem dX11_doesDepend_61 : decode cX11_doesDepend 61 = .ok (.ireturn, 1) := by decide +kernel
theorem dX11_nextOf_0 : decode cX11_nextOf 0 = .ok (.iconst 0, 1) := by decide +kernel
theorem dX11_nextOf_1 : decode cX11_nextOf 1 = .ok (.istore_n 2, 1) := by decide +kernel
theorem dX11_nextOf_2 : decode cX11_nextOf 2 = .ok (.iload_n 2, 1) := by decide +kernel
theorem dX11_nextOf_3 : decode cX11_nextOf 3 = .ok (.bipush 10, 2) := by decide +kernel
theorem dX11_nextOf_5 : decode cX11_nextOf 5 = .ok (.if_icmp .ge 80, 3) := by decide +kernel
theorem dX11_nextOf_8 : decode cX11_nextOf 8 = .ok (.iload_n 1, 1) := by decide +kernel
theorem dX11_nextOf_9 : decode cX11_nextOf 9 = .ok (.iload_n 2, 1) := by decide +kernel
theorem dX11_nextOf_10 : decode cX11_nextOf 10 = .ok (.invokestatic 96, 3) := by decide +kernel
theorem dX11_nextOf_13 : decode cX11_nextOf 13 = .ok (.ifCond .ne 7, 3) := by decide +kernel
theorem dX11_nextOf_16 : decode cX11_nextOf 16 = .ok (.iconst 1, 1) := by decide +kernel
theorem dX11_nextOf_17 : decode cX11_nextOf 17 = .ok (.goto 4, 3) := by decide +kernel
theorem dX11_nextOf_20 : decode cX11_nextOf 20 = .ok (.iconst 0, 1) := by decide +kernel
theorem dX11_nextOf_21 : decode cX11_nextOf 21 = .ok (.istore_n 3, 1) := by decide +kernel
theorem dX11_nextOf_22 : decode cX11_nextOf 22 = .ok (.iconst 0, 1) := by decide +kernel
theorem dX11_nextOf_23 : decode cX11_nextOf 23 = .ok (.istore 4, 2) := by decide +kernel
theorem dX11_nextOf_25 : decode cX11_nextOf 25 = .ok (.iload 4, 2) := by decide +kernel
theorem dX11_nextOf_27 : decode cX11_nextOf 27 = .ok (.bipush 10, 2) := by decide +kernel
theorem dX11_nextOf_29 : decode cX11_nextOf 29 = .ok (.if_icmp .ge 44, 3) := by decide +kernel
theorem dX11_nextOf_32 : decode cX11_nextOf 32 = .ok (.iload_n 3, 1) := by decide +kernel
theorem dX11_nextOf_33 : decode cX11_nextOf 33 = .ok (.ifCond .ne 40, 3) := by decide +kernel
theorem dX11_nextOf_36 : decode cX11_nextOf 36 = .ok (.iload 4, 2) := by decide +kernel
theorem dX11_nextOf_38 : decode cX11_nextOf 38 = .ok (.iload_n 2, 1) := by decide +kernel
theorem dX11_nextOf_39 : decode cX11_nextOf 39 = .ok (.if_icmp .eq 26, 3) := by decide +kernel
theorem dX11_nextOf_42 : decode cX11_nextOf 42 = .ok (.iload_n 1, 1) := by decide +kernel
theorem dX11_nextOf_43 : decode cX11_nextOf 43 = .ok (.iload 4, 2) := by decide +kernel
theorem dX11_nextOf_45 : decode cX11_nextOf 45 = .ok (.invokestatic 96, 3) := by decide +kernel
theorem dX11_nextOf_48 : decode cX11_nextOf 48 = .ok (.ifCond .eq 17, 3) := by decide +kernel
theorem dX11_nextOf_51 : decode cX11_nextOf 51 = .ok (.aload_n 0, 1) := by decide +kernel
theorem dX11_nextOf_52 : decode cX11_nextOf 52 = .ok (.iload_n 2, 1) := by decide +kernel
theorem dX11_nextOf_53 : decode cX11_nextOf 53 = .ok (.iload 4, 2) := by decide +kernel
theorem dX11_nextOf_55 : decode cX11_nextOf 55 = .ok (.invokevirtual 118, 3) := by decide +kernel
theorem dX11_nextOf_58 : decode cX11_nextOf 58 = .ok (.ifCond .eq 7, 3) := by decide +kernel
theorem dX11_nextOf_61 : decode cX11_nextOf 61 = .ok (.iconst 1, 1) := by decide +kernel
theorem dX11_nextOf_62 : decode cX11_nextOf 62 = .ok (.goto 4, 3) := by decide +kernel
theorem dX11_nextOf_65 : decode cX11_nextOf 65 = .ok (.iconst 0, 1) := by decide +kernel
theorem dX11_nextOf_66 : decode cX11_nextOf 66 = .ok (.istore_n 3, 1) := by decide +kernel
theorem dX11_nextOf_67 : decode cX11_nextOf 67 = .ok (.iinc 4 1, 3) := by decide +kernel
theorem dX11_nextOf_70 : decode cX11_nextOf 70 = .ok (.goto (-45), 3) := by decide +kernel
theorem dX11_nextOf_73 : decode cX11_nextOf 73 = .ok (.iload_n 3, 1) := by decide +kernel
theorem dX11_nextOf_74 : decode cX11_nextOf 74 = .ok (.ifCond .ne 5, 3) := by decide +kernel
theorem dX11_nextOf_77 : decode cX11_nextOf 77 = .ok (.iload_n 2, 1) := by decide +kernel
theorem dX11_nextOf_78 : decode cX11_nextOf 78 = .ok (.ireturn, 1) := by decide +kernel
theorem dX11_nextOf_79 : decode cX11_nextOf 79 = .ok (.iinc 2 1, 3) := by decide +kernel
theorem dX11_nextOf_82 : decode cX11_nextOf 82 = .ok (.goto (-80), 3) := by decide +kernel
theorem dX11_nextOf_85 : decode cX11_nextOf 85 = .ok (.iconst 0, 1) := by decide +kernel
theorem dX11_nextOf_86 : decode cX11_nextOf 86 = .ok (.istore_n 2, 1) := by decide +kernel
theorem dX11_nextOf_87 : decode cX11_nextOf 87 = .ok (.iload_n 1, 1) := by decide +kernel
theorem dX11_nextOf_88 : decode cX11_nextOf 88 = .ok (.iload_n 2, 1) := by decide +kernel
theorem dX11_nextOf_89 : decode cX11_nextOf 89 = .ok (.invokestatic 96, 3) := by decide +kernel
theorem dX11_nextOf_92 : decode cX11_nextOf 92 = .ok (.ifCond .ne 9, 3) := by decide +kernel
theorem dX11_nextOf_95 : decode cX11_nextOf 95 = .ok (.iinc 2 1, 3) := by decide +kernel
theorem dX11_nextOf_98 : decode cX11_nextOf 98 = .ok (.goto (-11), 3) := by decide +kernel
theorem dX11_nextOf_101 : decode cX11_nextOf 101 = .ok (.iload_n 2, 1) := by decide +kernel
theorem dX11_nextOf_102 : decode cX11_nextOf 102 = .ok (.ireturn, 1) := by decide +kernel
theorem dX11_makes_0 : decode cX11_makes 0 = .ok (.iconst 0, 1) := by decide +kernel
theorem dX11_makes_1 : decode cX11_makes 1 = .ok (.istore_n 2, 1) := by decide +kernel
theorem dX11_makes_2 : decode cX11_makes 2 = .ok (.iload_n 2, 1) := by decide +kernel
theorem dX11_makes_3 : decode cX11_makes 3 = .ok (.aload_n 0, 1) := by decide +kernel
theorem dX11_makes_4 : decode cX11_makes 4 = .ok (.getfield 7, 3) := by decide +kernel
theorem dX11_makes_7 : decode cX11_makes 7 = .ok (.sipush 238, 3) := by decide +kernel
theorem dX11_makes_10 : decode cX11_makes 10 = .ok (.iaload, 1) := by decide +kernel
theorem dX11_makes_11 : decode cX11_makes 11 = .ok (.if_icmp .ge 66, 3) := by decide +kernel
theorem dX11_makes_14 : decode cX11_makes 14 = .ok (.aload_n 0, 1) := by decide +kernel
theorem dX11_makes_15 : decode cX11_makes 15 = .ok (.getfield 19, 3) := by decide +kernel
theorem dX11_makes_18 : decode cX11_makes 18 = .ok (.iconst 4, 1) := by decide +kernel
theorem dX11_makes_19 : decode cX11_makes 19 = .ok (.iload_n 2, 1) := by decide +kernel
theorem dX11_makes_20 : decode cX11_makes 20 = .ok (.imul, 1) := by decide +kernel
theorem dX11_makes_21 : decode cX11_makes 21 = .ok (.aload_n 0, 1) := by decide +kernel
theorem dX11_makes_22 : decode cX11_makes 22 = .ok (.iload_n 2, 1) := by decide +kernel
theorem dX11_makes_23 : decode cX11_makes 23 = .ok (.iconst 1, 1) := by decide +kernel
theorem dX11_makes_24 : decode cX11_makes 24 = .ok (.invokevirtual 92, 3) := by decide +kernel
theorem dX11_makes_27 : decode cX11_makes 27 = .ok (.iastore, 1) := by decide +kernel
theorem dX11_makes_28 : decode cX11_makes 28 = .ok (.aload_n 0, 1) := by decide +kernel
theorem dX11_makes_29 : decode cX11_makes 29 = .ok (.getfield 19, 3) := by decide +kernel
theorem dX11_makes_32 : decode cX11_makes 32 = .ok (.iconst 4, 1) := by decide +kernel
theorem dX11_makes_33 : decode cX11_makes 33 = .ok (.iload_n 2, 1) := by decide +kernel
theorem dX11_makes_34 : decode cX11_makes 34 = .ok (.imul, 1) := by decide +kernel
theorem dX11_makes_35 : decode cX11_makes 35 = .ok (.iconst 1, 1) := by decide +kernel
theorem dX11_makes_36 : decode cX11_makes 36 = .ok (.iadd, 1) := by decide +kernel
theorem dX11_makes_37 : decode cX11_makes 37 = .ok (.iconst 0, 1) := by decide +kernel
theorem dX11_makes_38 : decode cX11_makes 38 = .ok (.iastore, 1) := by decide +kernel
theorem dX11_makes_39 : decode cX11_makes 39 = .ok (.aload_n 0, 1) := by decide +kernel
theorem dX11_makes_40 : decode cX11_makes 40 = .ok (.getfield 19, 3) := by decide +kernel
theorem dX11_makes_43 : decode cX11_makes 43 = .ok (.iconst 4, 1) := by decide +kernel
theorem dX11_makes_44 : decode cX11_makes 44 = .ok (.iload_n 2, 1) := by decide +kernel
theorem dX11_makes_45 : decode cX11_makes 45 = .ok (.imul, 1) := by decide +kernel
theorem dX11_makes_46 : decode cX11_makes 46 = .ok (.iconst 2, 1) := by decide +kernel
theorem dX11_makes_47 : decode cX11_makes 47 = .ok (.iadd, 1) := by decide +kernel
theorem dX11_makes_48 : decode cX11_makes 48 = .ok (.aload_n 0, 1) := by decide +kernel
theorem dX11_makes_49 : decode cX11_makes 49 = .ok (.iload_n 2, 1) := by decide +kernel
theorem dX11_makes_50 : decode cX11_makes 50 = .ok (.iconst 2, 1) := by decide +kernel
theorem dX11_makes_51 : decode cX11_makes 51 = .ok (.invokevirtual 92, 3) := by decide +kernel
theorem dX11_makes_54 : decode cX11_makes 54 = .ok (.iastore, 1) := by decide +kernel
theorem dX11_makes_55 : decode cX11_makes 55 = .ok (.aload_n 0, 1) := by decide +kernel
theorem dX11_makes_56 : decode cX11_makes 56 = .ok (.getfield 19, 3) := by decide +kernel
theorem dX11_makes_59 : decode cX11_makes 59 = .ok (.iconst 4, 1) := by decide +kernel
theorem dX11_makes_60 : decode cX11_makes 60 = .ok (.iload_n 2, 1) := by decide +kernel
theorem dX11_makes_61 : decode cX11_makes 61 = .ok (.imul, 1) := by decide +kernel
theorem dX11_makes_62 : decode cX11_makes 62 = .ok (.iconst 3, 1) := by decide +kernel
theorem dX11_makes_63 : decode cX11_makes 63 = .ok (.iadd, 1) := by decide +kernel
theorem dX11_makes_64 : decode cX11_makes 64 = .ok (.aload_n 0, 1) := by decide +kernel
theorem dX11_makes_65 : decode cX11_makes 65 = .ok (.iload_n 2, 1) := by decide +kernel
theorem dX11_makes_66 : decode cX11_makes 66 = .ok (.iconst 3, 1) := by decide +kernel
theorem dX11_makes_67 : decode cX11_makes 67 = .ok (.invokevirtual 92, 3) := by decide +kernel
theorem dX11_makes_70 : decode cX11_makes 70 = .ok (.iastore, 1) := by decide +kernel
theorem dX11_makes_71 : decode cX11_makes 71 = .ok (.iinc 2 1, 3) := by decide +kernel
theorem dX11_makes_74 : decode cX11_makes 74 = .ok (.goto (-72), 3) := by decide +kernel
theorem dX11_makes_77 : decode cX11_makes 77 = .ok (.aload_n 0, 1) := by decide +kernel
theorem dX11_makes_78 : decode cX11_makes 78 = .ok (.iconst 0, 1) := by decide +kernel
theorem dX11_makes_79 : decode cX11_makes 79 = .ok (.putfield 121, 3) := by decide +kernel
theorem dX11_makes_82 : decode cX11_makes 82 = .ok (.iconst 0, 1) := by decide +kernel
theorem dX11_makes_83 : decode cX11_makes 83 = .ok (.istore_n 2, 1) := by decide +kernel
theorem dX11_makes_84 : decode cX11_makes 84 = .ok (.iload_n 2, 1) := by decide +kernel
theorem dX11_makes_85 : decode cX11_makes 85 = .ok (.iload_n 1, 1) := by decide +kernel
theorem dX11_makes_86 : decode cX11_makes 86 = .ok (.if_icmp .ge 121, 3) := by decide +kernel
theorem dX11_makes_89 : decode cX11_makes 89 = .ok (.iconst 0, 1) := by decide +kernel
theorem dX11_makes_90 : decode cX11_makes 90 = .ok (.istore_n 3, 1) := by decide +kernel
theorem dX11_makes_91 : decode cX11_makes 91 = .ok (.iconst 0, 1) := by decide +kernel
theorem dX11_makes_92 : decode cX11_makes 92 = .ok (.istore 4, 2) := by decide +kernel
theorem dX11_makes_94 : decode cX11_makes 94 = .ok (.iload 4, 2) := by decide +kernel
theorem dX11_makes_96 : decode cX11_makes 96 = .ok (.aload_n 0, 1) := by decide +kernel
theorem dX11_makes_97 : decode cX11_makes 97 = .ok (.getfield 7, 3) := by decide +kernel
theorem dX11_makes_100 : decode cX11_makes 100 = .ok (.sipush 239, 3) := by decide +kernel
theorem dX11_makes_103 : decode cX11_makes 103 = .ok (.iaload, 1) := by decide +kernel
theorem dX11_makes_104 : decode cX11_makes 104 = .ok (.if_icmp .ge 43, 3) := by decide +kernel
theorem dX11_makes_107 : decode cX11_makes 107 = .ok (.iload_n 3, 1) := by decide +kernel
theorem dX11_makes_108 : decode cX11_makes 108 = .ok (.aload_n 0, 1) := by decide +kernel
theorem dX11_makes_109 : decode cX11_makes 109 = .ok (.iload 4, 2) := by decide +kernel
theorem dX11_makes_111 : decode cX11_makes 111 = .ok (.iconst 1, 1) := by decide +kernel
theorem dX11_makes_112 : decode cX11_makes 112 = .ok (.invokevirtual 103, 3) := by decide +kernel
theorem dX11_makes_115 : decode cX11_makes 115 = .ok (.invokestatic 125, 3) := by decide +kernel
theorem dX11_makes_118 : decode cX11_makes 118 = .ok (.iload_n 2, 1) := by decide +kernel
theorem dX11_makes_119 : decode cX11_makes 119 = .ok (.if_icmp .ne 19, 3) := by decide +kernel
theorem dX11_makes_122 : decode cX11_makes 122 = .ok (.aload_n 0, 1) := by decide +kernel
theorem dX11_makes_123 : decode cX11_makes 123 = .ok (.iload 4, 2) := by decide +kernel
theorem dX11_makes_125 : decode cX11_makes 125 = .ok (.invokevirtual 129, 3) := by decide +kernel
theorem dX11_makes_128 : decode cX11_makes 128 = .ok (.ifCond .eq 10, 3) := by decide +kernel
theorem dX11_makes_131 : decode cX11_makes 131 = .ok (.iconst 1, 1) := by decide +kernel
theorem dX11_makes_132 : decode cX11_makes 132 = .ok (.iload 4, 2) := by decide +kernel
theorem dX11_makes_134 : decode cX11_makes 134 = .ok (.ishl, 1) := by decide +kernel
theorem dX11_makes_135 : decode cX11_makes 135 = .ok (.goto 4, 3) := by decide +kernel
theorem dX11_makes_138 : decode cX11_makes 138 = .ok (.iconst 0, 1) := by decide +kernel
theorem dX11_makes_139 : decode cX11_makes 139 = .ok (.ior, 1) := by decide +kernel
theorem dX11_makes_140 : decode cX11_makes 140 = .ok (.istore_n 3, 1) := by decide +kernel
theorem dX11_makes_141 : decode cX11_makes 141 = .ok (.iinc 4 1, 3) := by decide +kernel
theorem dX11_makes_144 : decode cX11_makes 144 = .ok (.goto (-50), 3) := by decide +kernel
theorem dX11_makes_147 : decode cX11_makes 147 = .ok (.iload_n 3, 1) := by decide +kernel
theorem dX11_makes_148 : decode cX11_makes 148 = .ok (.ifCond .eq 53, 3) := by decide +kernel
theorem dX11_makes_151 : decode cX11_makes 151 = .ok (.aload_n 0, 1) := by decide +kernel
theorem dX11_makes_152 : decode cX11_makes 152 = .ok (.iload_n 3, 1) := by decide +kernel
theorem dX11_makes_153 : decode cX11_makes 153 = .ok (.invokevirtual 132, 3) := by decide +kernel
theorem dX11_makes_156 : decode cX11_makes 156 = .ok (.istore 4, 2) := by decide +kernel
theorem dX11_makes_158 : decode cX11_makes 158 = .ok (.aload_n 0, 1) := by decide +kernel
theorem dX11_makes_159 : decode cX11_makes 159 = .ok (.aload_n 0, 1) := by decide +kernel
theorem dX11_makes_160 : decode cX11_makes 160 = .ok (.getfield 19, 3) := by decide +kernel
theorem dX11_makes_163 : decode cX11_makes 163 = .ok (.iload 4, 2) := by decide +kernel
theorem dX11_makes_165 : decode cX11_makes 165 = .ok (.invokevirtual 114, 3) := by decide +kernel
theorem dX11_makes_168 : decode cX11_makes 168 = .ok (.iload_n 3, 1) := by decide +kernel
theorem dX11_makes_169 : decode cX11_makes 169 = .ok (.iconst 1, 1) := by decide +kernel
theorem dX11_makes_170 : decode cX11_makes 170 = .ok (.iload 4, 2) := by decide +kernel
theorem dX11_makes_172 : decode cX11_makes 172 = .ok (.ishl, 1) := by decide +kernel
theorem dX11_makes_173 : decode cX11_makes 173 = .ok (.iconst (-1), 1) := by decide +kernel
theorem dX11_makes_174 : decode cX11_makes 174 = .ok (.ixor, 1) := by decide +kernel
theorem dX11_makes_175 : decode cX11_makes 175 = .ok (.iand, 1) := by decide +kernel
theorem dX11_makes_176 : decode cX11_makes 176 = .ok (.istore_n 3, 1) := by decide +kernel
theorem dX11_makes_177 : decode cX11_makes 177 = .ok (.aload_n 0, 1) := by decide +kernel
theorem dX11_makes_178 : decode cX11_makes 178 = .ok (.getfield 25, 3) := by decide +kernel
theorem dX11_makes_181 : decode cX11_makes 181 = .ok (.aload_n 0, 1) := by decide +kernel
theorem dX11_makes_182 : decode cX11_makes 182 = .ok (.getfield 121, 3) := by decide +kernel
theorem dX11_makes_185 : decode cX11_makes 185 = .ok (.iload 4, 2) := by decide +kernel
theorem dX11_makes_187 : decode cX11_makes 187 = .ok (.iastore, 1) := by decide +kernel
theorem dX11_makes_188 : decode cX11_makes 188 = .ok (.aload_n 0, 1) := by decide +kernel
theorem dX11_makes_189 : decode cX11_makes 189 = .ok (.dup, 1) := by decide +kernel
theorem dX11_makes_190 : decode cX11_makes 190 = .ok (.getfield 121, 3) := by decide +kernel
theorem dX11_makes_193 : decode cX11_makes 193 = .ok (.iconst 1, 1) := by decide +kernel
theorem dX11_makes_194 : decode cX11_makes 194 = .ok (.iadd, 1) := by decide +kernel
theorem dX11_makes_195 : decode cX11_makes 195 = .ok (.putfield 121, 3) := by decide +kernel
theorem dX11_makes_198 : decode cX11_makes 198 = .ok (.goto (-51), 3) := by decide +kernel
theorem dX11_makes_201 : decode cX11_makes 201 = .ok (.iinc 2 1, 3) := by decide +kernel
theorem dX11_makes_204 : decode cX11_makes 204 = .ok (.goto (-120), 3) := by decide +kernel
theorem dX11_makes_207 : decode cX11_makes 207 = .ok (.return_, 1) := by decide +kernel
theorem dX11_setsOff_0 : decode cX11_setsOff 0 = .ok (.iconst 0, 1) := by decide +kernel
theorem dX11_setsOff_1 : decode cX11_setsOff 1 = .ok (.istore_n 3, 1) := by decide +kernel
theorem dX11_setsOff_2 : decode cX11_setsOff 2 = .ok (.iload_n 3, 1) := by decide +kernel
theorem dX11_setsOff_3 : decode cX11_setsOff 3 = .ok (.iconst 2, 1) := by decide +kernel
theorem dX11_setsOff_4 : decode cX11_setsOff 4 = .ok (.if_icmp .ge 213, 3) := by decide +kernel
theorem dX11_setsOff_7 : decode cX11_setsOff 7 = .ok (.aload_n 0, 1) := by decide +kernel
theorem dX11_setsOff_8 : decode cX11_setsOff 8 = .ok (.getfield 135, 3) := by decide +kernel
theorem dX11_setsOff_11 : decode cX11_setsOff 11 = .ok (.ifCond .eq 206, 3) := by decide +kernel
theorem dX11_setsOff_14 : decode cX11_setsOff 14 = .ok (.iload_n 3, 1) := by decide +kernel
theorem dX11_setsOff_15 : decode cX11_setsOff 15 = .ok (.ifCond .ne 14, 3) := by decide +kernel
theorem dX11_setsOff_18 : decode cX11_setsOff 18 = .ok (.aload_n 0, 1) := by decide +kernel
theorem dX11_setsOff_19 : decode cX11_setsOff 19 = .ok (.getfield 7, 3) := by decide +kernel
theorem dX11_setsOff_22 : decode cX11_setsOff 22 = .ok (.sipush 244, 3) := by decide +kernel
theorem dX11_setsOff_25 : decode cX11_setsOff 25 = .ok (.iaload, 1) := by decide +kernel
theorem dX11_setsOff_26 : decode cX11_setsOff 26 = .ok (.goto 13, 3) := by decide +kernel
theorem dX11_setsOff_29 : decode cX11_setsOff 29 = .ok (.iconst 1, 1) := by decide +kernel
theorem dX11_setsOff_30 : decode cX11_setsOff 30 = .ok (.aload_n 0, 1) := by decide +kernel
theorem dX11_setsOff_31 : decode cX11_setsOff 31 = .ok (.getfield 7, 3) := by decide +kernel
theorem dX11_setsOff_34 : decode cX11_setsOff 34 = .ok (.sipush 244, 3) := by decide +kernel
theorem dX11_setsOff_37 : decode cX11_setsOff 37 = .ok (.iaload, 1) := by decide +kernel
theorem dX11_setsOff_38 : decode cX11_setsOff 38 = .ok (.isub, 1) := by decide +kernel
theorem dX11_setsOff_39 : decode cX11_setsOff 39 = .ok (.istore 4, 2) := by decide +kernel
theorem dX11_setsOff_41 : decode cX11_setsOff 41 = .ok (.iconst 0, 1) := by decide +kernel
theorem dX11_setsOff_42 : decode cX11_setsOff 42 = .ok (.istore 5, 2) := by decide +kernel
theorem dX11_setsOff_44 : decode cX11_setsOff 44 = .ok (.iload 5, 2) := by decide +kernel
theorem dX11_setsOff_46 : decode cX11_setsOff 46 = .ok (.aload_n 0, 1) := by decide +kernel
theorem dX11_setsOff_47 : decode cX11_setsOff 47 = .ok (.getfield 7, 3) := by decide +kernel
theorem dX11_setsOff_50 : decode cX11_setsOff 50 = .ok (.sipush 241, 3) := by decide +kernel
theorem dX11_setsOff_53 : decode cX11_setsOff 53 = .ok (.iaload, 1) := by decide +kernel
theorem dX11_setsOff_54 : decode cX11_setsOff 54 = .ok (.if_icmp .ge 157, 3) := by decide +kernel
theorem dX11_setsOff_57 : decode cX11_setsOff 57 = .ok (.aload_n 0, 1) := by decide +kernel
theorem dX11_setsOff_58 : decode cX11_setsOff 58 = .ok (.iload 5, 2) := by decide +kernel
theorem dX11_setsOff_60 : decode cX11_setsOff 60 = .ok (.iconst 0, 1) := by decide +kernel
theorem dX11_setsOff_61 : decode cX11_setsOff 61 = .ok (.invokevirtual 139, 3) := by decide +kernel
theorem dX11_setsOff_64 : decode cX11_setsOff 64 = .ok (.iload 4, 2) := by decide +kernel
theorem dX11_setsOff_66 : decode cX11_setsOff 66 = .ok (.if_icmp .ne 139, 3) := by decide +kernel
theorem dX11_setsOff_69 : decode cX11_setsOff 69 = .ok (.aload_n 0, 1) := by decide +kernel
theorem dX11_setsOff_70 : decode cX11_setsOff 70 = .ok (.iload 5, 2) := by decide +kernel
theorem dX11_setsOff_72 : decode cX11_setsOff 72 = .ok (.iconst 1, 1) := by decide +kernel
theorem dX11_setsOff_73 : decode cX11_setsOff 73 = .ok (.invokevirtual 139, 3) := by decide +kernel
theorem dX11_setsOff_76 : decode cX11_setsOff 76 = .ok (.iload_n 1, 1) := by decide +kernel
theorem dX11_setsOff_77 : decode cX11_setsOff 77 = .ok (.if_icmp .ne 128, 3) := by decide +kernel
theorem dX11_setsOff_80 : decode cX11_setsOff 80 = .ok (.iload_n 1, 1) := by decide +kernel
theorem dX11_setsOff_81 : decode cX11_setsOff 81 = .ok (.iconst 2, 1) := by decide +kernel
theorem dX11_setsOff_82 : decode cX11_setsOff 82 = .ok (.if_icmp .ne 11, 3) := by decide +kernel
theorem dX11_setsOff_85 : decode cX11_setsOff 85 = .ok (.iload_n 3, 1) := by decide +kernel
theorem dX11_setsOff_86 : decode cX11_setsOff 86 = .ok (.iconst 1, 1) := by decide +kernel
theorem dX11_setsOff_87 : decode cX11_setsOff 87 = .ok (.if_icmp .ne 6, 3) := by decide +kernel
theorem dX11_setsOff_90 : decode cX11_setsOff 90 = .ok (.goto 115, 3) := by decide +kernel
theorem dX11_setsOff_93 : decode cX11_setsOff 93 = .ok (.iload_n 1, 1) := by decide +kernel
theorem dX11_setsOff_94 : decode cX11_setsOff 94 = .ok (.iconst 2, 1) := by decide +kernel
theorem dX11_setsOff_95 : decode cX11_setsOff 95 = .ok (.if_icmp .ne 7, 3) := by decide +kernel
theorem dX11_setsOff_98 : decode cX11_setsOff 98 = .ok (.iconst 1, 1) := by decide +kernel
end
section
theorem dX11_setsOff_99 : decode cX11_setsOff 99 = .ok (.goto 28, 3) := by decide +kernel
theorem dX11_setsOff_102 : decode cX11_setsOff 102 = .ok (.iload_n 2, 1) := by decide +kernel
theorem dX11_setsOff_103 : decode cX11_setsOff 103 = .ok (.aload_n 0, 1) := by decide +kernel
theorem dX11_setsOff_104 : decode cX11_setsOff 104 = .ok (.aload_n 0, 1) := by decide +kernel
theorem dX11_setsOff_105 : decode cX11_setsOff 105 = .ok (.getfield 19, 3) := by decide +kernel
theorem dX11_setsOff_108 : decode cX11_setsOff 108 = .ok (.aload_n 0, 1) := by decide +kernel
theorem dX11_setsOff_109 : decode cX11_setsOff 109 = .ok (.iload 5, 2) := by decide +kernel
theorem dX11_setsOff_111 : decode cX11_setsOff 111 = .ok (.iconst 5, 1) := by decide +kernel
theorem dX11_setsOff_112 : decode cX11_setsOff 112 = .ok (.invokevirtual 139, 3) := by decide +kernel
theorem dX11_setsOff_115 : decode cX11_setsOff 115 = .ok (.aload_n 0, 1) := by decide +kernel
theorem dX11_setsOff_116 : decode cX11_setsOff 116 = .ok (.iload 5, 2) := by decide +kernel
theorem dX11_setsOff_118 : decode cX11_setsOff 118 = .ok (.bipush 6, 2) := by decide +kernel
theorem dX11_setsOff_120 : decode cX11_setsOff 120 = .ok (.invokevirtual 139, 3) := by decide +kernel
theorem dX11_setsOff_123 : decode cX11_setsOff 123 = .ok (.invokevirtual 106, 3) := by decide +kernel
theorem dX11_setsOff_126 : decode cX11_setsOff 126 = .ok (.iand, 1) := by decide +kernel
theorem dX11_setsOff_127 : decode cX11_setsOff 127 = .ok (.istore 6, 2) := by decide +kernel
theorem dX11_setsOff_129 : decode cX11_setsOff 129 = .ok (.iconst 0, 1) := by decide +kernel
theorem dX11_setsOff_130 : decode cX11_setsOff 130 = .ok (.istore 7, 2) := by decide +kernel
theorem dX11_setsOff_132 : decode cX11_setsOff 132 = .ok (.iload 7, 2) := by decide +kernel
theorem dX11_setsOff_134 : decode cX11_setsOff 134 = .ok (.bipush 8, 2) := by decide +kernel
theorem dX11_setsOff_136 : decode cX11_setsOff 136 = .ok (.if_icmp .ge 69, 3) := by decide +kernel
theorem dX11_setsOff_139 : decode cX11_setsOff 139 = .ok (.iload 6, 2) := by decide +kernel
theorem dX11_setsOff_141 : decode cX11_setsOff 141 = .ok (.iload 7, 2) := by decide +kernel
theorem dX11_setsOff_143 : decode cX11_setsOff 143 = .ok (.invokestatic 96, 3) := by decide +kernel
theorem dX11_setsOff_146 : decode cX11_setsOff 146 = .ok (.ifCond .ne 6, 3) := by decide +kernel
theorem dX11_setsOff_149 : decode cX11_setsOff 149 = .ok (.goto 50, 3) := by decide +kernel
theorem dX11_setsOff_152 : decode cX11_setsOff 152 = .ok (.aload_n 0, 1) := by decide +kernel
theorem dX11_setsOff_153 : decode cX11_setsOff 153 = .ok (.getfield 28, 3) := by decide +kernel
theorem dX11_setsOff_156 : decode cX11_setsOff 156 = .ok (.iconst 2, 1) := by decide +kernel
theorem dX11_setsOff_157 : decode cX11_setsOff 157 = .ok (.aload_n 0, 1) := by decide +kernel
theorem dX11_setsOff_158 : decode cX11_setsOff 158 = .ok (.getfield 142, 3) := by decide +kernel
theorem dX11_setsOff_161 : decode cX11_setsOff 161 = .ok (.imul, 1) := by decide +kernel
theorem dX11_setsOff_162 : decode cX11_setsOff 162 = .ok (.iload 5, 2) := by decide +kernel
theorem dX11_setsOff_164 : decode cX11_setsOff 164 = .ok (.iastore, 1) := by decide +kernel
theorem dX11_setsOff_165 : decode cX11_setsOff 165 = .ok (.aload_n 0, 1) := by decide +kernel
theorem dX11_setsOff_166 : decode cX11_setsOff 166 = .ok (.getfield 28, 3) := by decide +kernel
theorem dX11_setsOff_169 : decode cX11_setsOff 169 = .ok (.iconst 2, 1) := by decide +kernel
theorem dX11_setsOff_170 : decode cX11_setsOff 170 = .ok (.aload_n 0, 1) := by decide +kernel
theorem dX11_setsOff_171 : decode cX11_setsOff 171 = .ok (.getfield 142, 3) := by decide +kernel
theorem dX11_setsOff_174 : decode cX11_setsOff 174 = .ok (.imul, 1) := by decide +kernel
theorem dX11_setsOff_175 : decode cX11_setsOff 175 = .ok (.iconst 1, 1) := by decide +kernel
theorem dX11_setsOff_176 : decode cX11_setsOff 176 = .ok (.iadd, 1) := by decide +kernel
theorem dX11_setsOff_177 : decode cX11_setsOff 177 = .ok (.iload_n 1, 1) := by decide +kernel
theorem dX11_setsOff_178 : decode cX11_setsOff 178 = .ok (.iconst 2, 1) := by decide +kernel
theorem dX11_setsOff_179 : decode cX11_setsOff 179 = .ok (.if_icmp .ne 7, 3) := by decide +kernel
theorem dX11_setsOff_182 : decode cX11_setsOff 182 = .ok (.iconst (-1), 1) := by decide +kernel
theorem dX11_setsOff_183 : decode cX11_setsOff 183 = .ok (.goto 5, 3) := by decide +kernel
theorem dX11_setsOff_186 : decode cX11_setsOff 186 = .ok (.iload 7, 2) := by decide +kernel
theorem dX11_setsOff_188 : decode cX11_setsOff 188 = .ok (.iastore, 1) := by decide +kernel
theorem dX11_setsOff_189 : decode cX11_setsOff 189 = .ok (.aload_n 0, 1) := by decide +kernel
theorem dX11_setsOff_190 : decode cX11_setsOff 190 = .ok (.dup, 1) := by decide +kernel
theorem dX11_setsOff_191 : decode cX11_setsOff 191 = .ok (.getfield 142, 3) := by decide +kernel
theorem dX11_setsOff_194 : decode cX11_setsOff 194 = .ok (.iconst 1, 1) := by decide +kernel
theorem dX11_setsOff_195 : decode cX11_setsOff 195 = .ok (.iadd, 1) := by decide +kernel
theorem dX11_setsOff_196 : decode cX11_setsOff 196 = .ok (.putfield 142, 3) := by decide +kernel
theorem dX11_setsOff_199 : decode cX11_setsOff 199 = .ok (.iinc 7 1, 3) := by decide +kernel
theorem dX11_setsOff_202 : decode cX11_setsOff 202 = .ok (.goto (-70), 3) := by decide +kernel
theorem dX11_setsOff_205 : decode cX11_setsOff 205 = .ok (.iinc 5 1, 3) := by decide +kernel
theorem dX11_setsOff_208 : decode cX11_setsOff 208 = .ok (.goto (-164), 3) := by decide +kernel
theorem dX11_setsOff_211 : decode cX11_setsOff 211 = .ok (.iinc 3 1, 3) := by decide +kernel
theorem dX11_setsOff_214 : decode cX11_setsOff 214 = .ok (.goto (-212), 3) := by decide +kernel
theorem dX11_setsOff_217 : decode cX11_setsOff 217 = .ok (.return_, 1) := by decide +kernel
theorem dX11_rounds_0 : decode cX11_rounds 0 = .ok (.iconst 1, 1) := by decide +kernel
theorem dX11_rounds_1 : decode cX11_rounds 1 = .ok (.istore_n 1, 1) := by decide +kernel
theorem dX11_rounds_2 : decode cX11_rounds 2 = .ok (.iload_n 1, 1) := by decide +kernel
theorem dX11_rounds_3 : decode cX11_rounds 3 = .ok (.ifCond .eq 160, 3) := by decide +kernel
theorem dX11_rounds_6 : decode cX11_rounds 6 = .ok (.aload_n 0, 1) := by decide +kernel
theorem dX11_rounds_7 : decode cX11_rounds 7 = .ok (.iconst 5, 1) := by decide +kernel
theorem dX11_rounds_8 : decode cX11_rounds 8 = .ok (.invokevirtual 145, 3) := by decide +kernel
theorem dX11_rounds_11 : decode cX11_rounds 11 = .ok (.iconst 0, 1) := by decide +kernel
theorem dX11_rounds_12 : decode cX11_rounds 12 = .ok (.istore_n 1, 1) := by decide +kernel
theorem dX11_rounds_13 : decode cX11_rounds 13 = .ok (.iconst 0, 1) := by decide +kernel
theorem dX11_rounds_14 : decode cX11_rounds 14 = .ok (.istore_n 2, 1) := by decide +kernel
theorem dX11_rounds_15 : decode cX11_rounds 15 = .ok (.iload_n 2, 1) := by decide +kernel
theorem dX11_rounds_16 : decode cX11_rounds 16 = .ok (.aload_n 0, 1) := by decide +kernel
theorem dX11_rounds_17 : decode cX11_rounds 17 = .ok (.getfield 7, 3) := by decide +kernel
theorem dX11_rounds_20 : decode cX11_rounds 20 = .ok (.sipush 238, 3) := by decide +kernel
theorem dX11_rounds_23 : decode cX11_rounds 23 = .ok (.iaload, 1) := by decide +kernel
theorem dX11_rounds_24 : decode cX11_rounds 24 = .ok (.if_icmp .ge 46, 3) := by decide +kernel
theorem dX11_rounds_27 : decode cX11_rounds 27 = .ok (.iload_n 1, 1) := by decide +kernel
theorem dX11_rounds_28 : decode cX11_rounds 28 = .ok (.aload_n 0, 1) := by decide +kernel
theorem dX11_rounds_29 : decode cX11_rounds 29 = .ok (.iload_n 2, 1) := by decide +kernel
theorem dX11_rounds_30 : decode cX11_rounds 30 = .ok (.invokevirtual 100, 3) := by decide +kernel
theorem dX11_rounds_33 : decode cX11_rounds 33 = .ok (.ifCond .eq 28, 3) := by decide +kernel
theorem dX11_rounds_36 : decode cX11_rounds 36 = .ok (.aload_n 0, 1) := by decide +kernel
theorem dX11_rounds_37 : decode cX11_rounds 37 = .ok (.iload_n 2, 1) := by decide +kernel
theorem dX11_rounds_38 : decode cX11_rounds 38 = .ok (.iconst 4, 1) := by decide +kernel
theorem dX11_rounds_39 : decode cX11_rounds 39 = .ok (.invokevirtual 92, 3) := by decide +kernel
theorem dX11_rounds_42 : decode cX11_rounds 42 = .ok (.aload_n 0, 1) := by decide +kernel
theorem dX11_rounds_43 : decode cX11_rounds 43 = .ok (.getfield 19, 3) := by decide +kernel
theorem dX11_rounds_46 : decode cX11_rounds 46 = .ok (.iconst 4, 1) := by decide +kernel
theorem dX11_rounds_47 : decode cX11_rounds 47 = .ok (.iload_n 2, 1) := by decide +kernel
theorem dX11_rounds_48 : decode cX11_rounds 48 = .ok (.imul, 1) := by decide +kernel
theorem dX11_rounds_49 : decode cX11_rounds 49 = .ok (.iconst 3, 1) := by decide +kernel
theorem dX11_rounds_50 : decode cX11_rounds 50 = .ok (.iadd, 1) := by decide +kernel
theorem dX11_rounds_51 : decode cX11_rounds 51 = .ok (.iaload, 1) := by decide +kernel
theorem dX11_rounds_52 : decode cX11_rounds 52 = .ok (.if_icmp .lt 9, 3) := by decide +kernel
theorem dX11_rounds_55 : decode cX11_rounds 55 = .ok (.iconst 1, 1) := by decide +kernel
theorem dX11_rounds_56 : decode cX11_rounds 56 = .ok (.iload_n 2, 1) := by decide +kernel
theorem dX11_rounds_57 : decode cX11_rounds 57 = .ok (.ishl, 1) := by decide +kernel
theorem dX11_rounds_58 : decode cX11_rounds 58 = .ok (.goto 4, 3) := by decide +kernel
theorem dX11_rounds_61 : decode cX11_rounds 61 = .ok (.iconst 0, 1) := by decide +kernel
theorem dX11_rounds_62 : decode cX11_rounds 62 = .ok (.ior, 1) := by decide +kernel
theorem dX11_rounds_63 : decode cX11_rounds 63 = .ok (.istore_n 1, 1) := by decide +kernel
theorem dX11_rounds_64 : decode cX11_rounds 64 = .ok (.iinc 2 1, 3) := by decide +kernel
theorem dX11_rounds_67 : decode cX11_rounds 67 = .ok (.goto (-52), 3) := by decide +kernel
theorem dX11_rounds_70 : decode cX11_rounds 70 = .ok (.aload_n 0, 1) := by decide +kernel
theorem dX11_rounds_71 : decode cX11_rounds 71 = .ok (.iconst 1, 1) := by decide +kernel
theorem dX11_rounds_72 : decode cX11_rounds 72 = .ok (.iload_n 1, 1) := by decide +kernel
theorem dX11_rounds_73 : decode cX11_rounds 73 = .ok (.invokevirtual 149, 3) := by decide +kernel
theorem dX11_rounds_76 : decode cX11_rounds 76 = .ok (.iconst 0, 1) := by decide +kernel
theorem dX11_rounds_77 : decode cX11_rounds 77 = .ok (.istore_n 2, 1) := by decide +kernel
theorem dX11_rounds_78 : decode cX11_rounds 78 = .ok (.iload_n 2, 1) := by decide +kernel
theorem dX11_rounds_79 : decode cX11_rounds 79 = .ok (.aload_n 0, 1) := by decide +kernel
theorem dX11_rounds_80 : decode cX11_rounds 80 = .ok (.getfield 7, 3) := by decide +kernel
theorem dX11_rounds_83 : decode cX11_rounds 83 = .ok (.sipush 238, 3) := by decide +kernel
theorem dX11_rounds_86 : decode cX11_rounds 86 = .ok (.iaload, 1) := by decide +kernel
theorem dX11_rounds_87 : decode cX11_rounds 87 = .ok (.if_icmp .ge 73, 3) := by decide +kernel
theorem dX11_rounds_90 : decode cX11_rounds 90 = .ok (.iload_n 1, 1) := by decide +kernel
theorem dX11_rounds_91 : decode cX11_rounds 91 = .ok (.iload_n 2, 1) := by decide +kernel
theorem dX11_rounds_92 : decode cX11_rounds 92 = .ok (.invokestatic 96, 3) := by decide +kernel
theorem dX11_rounds_95 : decode cX11_rounds 95 = .ok (.ifCond .ne 6, 3) := by decide +kernel
theorem dX11_rounds_98 : decode cX11_rounds 98 = .ok (.goto 56, 3) := by decide +kernel
theorem dX11_rounds_101 : decode cX11_rounds 101 = .ok (.aload_n 0, 1) := by decide +kernel
theorem dX11_rounds_102 : decode cX11_rounds 102 = .ok (.getfield 7, 3) := by decide +kernel
theorem dX11_rounds_105 : decode cX11_rounds 105 = .ok (.iconst 0, 1) := by decide +kernel
theorem dX11_rounds_106 : decode cX11_rounds 106 = .ok (.bipush 10, 2) := by decide +kernel
theorem dX11_rounds_108 : decode cX11_rounds 108 = .ok (.iload_n 2, 1) := by decide +kernel
theorem dX11_rounds_109 : decode cX11_rounds 109 = .ok (.imul, 1) := by decide +kernel
theorem dX11_rounds_110 : decode cX11_rounds 110 = .ok (.iadd, 1) := by decide +kernel
theorem dX11_rounds_111 : decode cX11_rounds 111 = .ok (.iconst 5, 1) := by decide +kernel
theorem dX11_rounds_112 : decode cX11_rounds 112 = .ok (.iadd, 1) := by decide +kernel
theorem dX11_rounds_113 : decode cX11_rounds 113 = .ok (.iconst 0, 1) := by decide +kernel
theorem dX11_rounds_114 : decode cX11_rounds 114 = .ok (.iastore, 1) := by decide +kernel
theorem dX11_rounds_115 : decode cX11_rounds 115 = .ok (.iconst 0, 1) := by decide +kernel
theorem dX11_rounds_116 : decode cX11_rounds 116 = .ok (.istore_n 3, 1) := by decide +kernel
theorem dX11_rounds_117 : decode cX11_rounds 117 = .ok (.iload_n 3, 1) := by decide +kernel
theorem dX11_rounds_118 : decode cX11_rounds 118 = .ok (.iconst 4, 1) := by decide +kernel
theorem dX11_rounds_119 : decode cX11_rounds 119 = .ok (.if_icmp .ge 35, 3) := by decide +kernel
theorem dX11_rounds_122 : decode cX11_rounds 122 = .ok (.aload_n 0, 1) := by decide +kernel
theorem dX11_rounds_123 : decode cX11_rounds 123 = .ok (.getfield 7, 3) := by decide +kernel
theorem dX11_rounds_126 : decode cX11_rounds 126 = .ok (.iconst 0, 1) := by decide +kernel
theorem dX11_rounds_127 : decode cX11_rounds 127 = .ok (.bipush 10, 2) := by decide +kernel
theorem dX11_rounds_129 : decode cX11_rounds 129 = .ok (.iload_n 2, 1) := by decide +kernel
theorem dX11_rounds_130 : decode cX11_rounds 130 = .ok (.imul, 1) := by decide +kernel
theorem dX11_rounds_131 : decode cX11_rounds 131 = .ok (.iadd, 1) := by decide +kernel
theorem dX11_rounds_132 : decode cX11_rounds 132 = .ok (.bipush 6, 2) := by decide +kernel
theorem dX11_rounds_134 : decode cX11_rounds 134 = .ok (.iadd, 1) := by decide +kernel
theorem dX11_rounds_135 : decode cX11_rounds 135 = .ok (.iload_n 3, 1) := by decide +kernel
theorem dX11_rounds_136 : decode cX11_rounds 136 = .ok (.iadd, 1) := by decide +kernel
theorem dX11_rounds_137 : decode cX11_rounds 137 = .ok (.aload_n 0, 1) := by decide +kernel
theorem dX11_rounds_138 : decode cX11_rounds 138 = .ok (.getfield 19, 3) := by decide +kernel
theorem dX11_rounds_141 : decode cX11_rounds 141 = .ok (.iconst 4, 1) := by decide +kernel
theorem dX11_rounds_142 : decode cX11_rounds 142 = .ok (.iload_n 2, 1) := by decide +kernel
theorem dX11_rounds_143 : decode cX11_rounds 143 = .ok (.imul, 1) := by decide +kernel
theorem dX11_rounds_144 : decode cX11_rounds 144 = .ok (.iload_n 3, 1) := by decide +kernel
theorem dX11_rounds_145 : decode cX11_rounds 145 = .ok (.iadd, 1) := by decide +kernel
theorem dX11_rounds_146 : decode cX11_rounds 146 = .ok (.iaload, 1) := by decide +kernel
theorem dX11_rounds_147 : decode cX11_rounds 147 = .ok (.iastore, 1) := by decide +kernel
theorem dX11_rounds_148 : decode cX11_rounds 148 = .ok (.iinc 3 1, 3) := by decide +kernel
theorem dX11_rounds_151 : decode cX11_rounds 151 = .ok (.goto (-34), 3) := by decide +kernel
theorem dX11_rounds_154 : decode cX11_rounds 154 = .ok (.iinc 2 1, 3) := by decide +kernel
theorem dX11_rounds_157 : decode cX11_rounds 157 = .ok (.goto (-79), 3) := by decide +kernel
theorem dX11_rounds_160 : decode cX11_rounds 160 = .ok (.goto (-158), 3) := by decide +kernel
theorem dX11_rounds_163 : decode cX11_rounds 163 = .ok (.return_, 1) := by decide +kernel
theorem dX11_changed_0 : decode cX11_changed 0 = .ok (.aload_n 0, 1) := by decide +kernel
theorem dX11_changed_1 : decode cX11_changed 1 = .ok (.iconst 0, 1) := by decide +kernel
theorem dX11_changed_2 : decode cX11_changed 2 = .ok (.putfield 135, 3) := by decide +kernel
theorem dX11_changed_5 : decode cX11_changed 5 = .ok (.aload_n 0, 1) := by decide +kernel
theorem dX11_changed_6 : decode cX11_changed 6 = .ok (.invokevirtual 153, 3) := by decide +kernel
theorem dX11_changed_9 : decode cX11_changed 9 = .ok (.iload_n 1, 1) := by decide +kernel
theorem dX11_changed_10 : decode cX11_changed 10 = .ok (.ireturn, 1) := by decide +kernel
theorem dX11_isNow_0 : decode cX11_isNow 0 = .ok (.aload_n 0, 1) := by decide +kernel
theorem dX11_isNow_1 : decode cX11_isNow 1 = .ok (.iload_n 1, 1) := by decide +kernel
theorem dX11_isNow_2 : decode cX11_isNow 2 = .ok (.invokevirtual 100, 3) := by decide +kernel
theorem dX11_isNow_5 : decode cX11_isNow 5 = .ok (.ifCond .eq 16, 3) := by decide +kernel
theorem dX11_isNow_8 : decode cX11_isNow 8 = .ok (.aload_n 0, 1) := by decide +kernel
theorem dX11_isNow_9 : decode cX11_isNow 9 = .ok (.getfield 19, 3) := by decide +kernel
theorem dX11_isNow_12 : decode cX11_isNow 12 = .ok (.iconst 4, 1) := by decide +kernel
theorem dX11_isNow_13 : decode cX11_isNow 13 = .ok (.iload_n 1, 1) := by decide +kernel
theorem dX11_isNow_14 : decode cX11_isNow 14 = .ok (.imul, 1) := by decide +kernel
theorem dX11_isNow_15 : decode cX11_isNow 15 = .ok (.iload_n 2, 1) := by decide +kernel
theorem dX11_isNow_16 : decode cX11_isNow 16 = .ok (.iadd, 1) := by decide +kernel
theorem dX11_isNow_17 : decode cX11_isNow 17 = .ok (.iaload, 1) := by decide +kernel
theorem dX11_isNow_18 : decode cX11_isNow 18 = .ok (.goto 12, 3) := by decide +kernel
theorem dX11_isNow_21 : decode cX11_isNow 21 = .ok (.aload_n 0, 1) := by decide +kernel
theorem dX11_isNow_22 : decode cX11_isNow 22 = .ok (.iload_n 1, 1) := by decide +kernel
theorem dX11_isNow_23 : decode cX11_isNow 23 = .ok (.bipush 6, 2) := by decide +kernel
theorem dX11_isNow_25 : decode cX11_isNow 25 = .ok (.iload_n 2, 1) := by decide +kernel
theorem dX11_isNow_26 : decode cX11_isNow 26 = .ok (.iadd, 1) := by decide +kernel
theorem dX11_isNow_27 : decode cX11_isNow 27 = .ok (.invokevirtual 92, 3) := by decide +kernel
theorem dX11_isNow_30 : decode cX11_isNow 30 = .ok (.ireturn, 1) := by decide +kernel
theorem dX11_clear_0 : decode cX11_clear 0 = .ok (.aload_n 0, 1) := by decide +kernel
theorem dX11_clear_1 : decode cX11_clear 1 = .ok (.getfield 7, 3) := by decide +kernel
theorem dX11_clear_4 : decode cX11_clear 4 = .ok (.sipush 238, 3) := by decide +kernel
theorem dX11_clear_7 : decode cX11_clear 7 = .ok (.iaload, 1) := by decide +kernel
theorem dX11_clear_8 : decode cX11_clear 8 = .ok (.istore_n 1, 1) := by decide +kernel
theorem dX11_clear_9 : decode cX11_clear 9 = .ok (.aload_n 0, 1) := by decide +kernel
theorem dX11_clear_10 : decode cX11_clear 10 = .ok (.getfield 7, 3) := by decide +kernel
theorem dX11_clear_13 : decode cX11_clear 13 = .ok (.sipush 245, 3) := by decide +kernel
theorem dX11_clear_16 : decode cX11_clear 16 = .ok (.iaload, 1) := by decide +kernel
theorem dX11_clear_17 : decode cX11_clear 17 = .ok (.istore_n 2, 1) := by decide +kernel
theorem dX11_clear_18 : decode cX11_clear 18 = .ok (.iconst 0, 1) := by decide +kernel
theorem dX11_clear_19 : decode cX11_clear 19 = .ok (.istore_n 3, 1) := by decide +kernel
theorem dX11_clear_20 : decode cX11_clear 20 = .ok (.iload_n 3, 1) := by decide +kernel
theorem dX11_clear_21 : decode cX11_clear 21 = .ok (.sipush 246, 3) := by decide +kernel
theorem dX11_clear_24 : decode cX11_clear 24 = .ok (.if_icmp .ge 16, 3) := by decide +kernel
theorem dX11_clear_27 : decode cX11_clear 27 = .ok (.aload_n 0, 1) := by decide +kernel
theorem dX11_clear_28 : decode cX11_clear 28 = .ok (.getfield 7, 3) := by decide +kernel
theorem dX11_clear_31 : decode cX11_clear 31 = .ok (.iload_n 3, 1) := by decide +kernel
theorem dX11_clear_32 : decode cX11_clear 32 = .ok (.iconst 0, 1) := by decide +kernel
theorem dX11_clear_33 : decode cX11_clear 33 = .ok (.iastore, 1) := by decide +kernel
theorem dX11_clear_34 : decode cX11_clear 34 = .ok (.iinc 3 1, 3) := by decide +kernel
theorem dX11_clear_37 : decode cX11_clear 37 = .ok (.goto (-17), 3) := by decide +kernel
theorem dX11_clear_40 : decode cX11_clear 40 = .ok (.aload_n 0, 1) := by decide +kernel
theorem dX11_clear_41 : decode cX11_clear 41 = .ok (.getfield 7, 3) := by decide +kernel
theorem dX11_clear_44 : decode cX11_clear 44 = .ok (.sipush 245, 3) := by decide +kernel
theorem dX11_clear_47 : decode cX11_clear 47 = .ok (.iload_n 2, 1) := by decide +kernel
theorem dX11_clear_48 : decode cX11_clear 48 = .ok (.iastore, 1) := by decide +kernel
theorem dX11_clear_49 : decode cX11_clear 49 = .ok (.aload_n 0, 1) := by decide +kernel
theorem dX11_clear_50 : decode cX11_clear 50 = .ok (.iconst 0, 1) := by decide +kernel
theorem dX11_clear_51 : decode cX11_clear 51 = .ok (.putfield 156, 3) := by decide +kernel
theorem dX11_clear_54 : decode cX11_clear 54 = .ok (.iload_n 1, 1) := by decide +kernel
theorem dX11_clear_55 : decode cX11_clear 55 = .ok (.ireturn, 1) := by decide +kernel
theorem dX11_areGood_0 : decode cX11_areGood 0 = .ok (.iload_n 0, 1) := by decide +kernel
theorem dX11_areGood_1 : decode cX11_areGood 1 = .ok (.iconst 0, 1) := by decide +kernel
theorem dX11_areGood_2 : decode cX11_areGood 2 = .ok (.iconst 1, 1) := by decide +kernel
theorem dX11_areGood_3 : decode cX11_areGood 3 = .ok (.invokestatic 84, 3) := by decide +kernel
theorem dX11_areGood_6 : decode cX11_areGood 6 = .ok (.ifCond .eq 36, 3) := by decide +kernel
theorem dX11_areGood_9 : decode cX11_areGood 9 = .ok (.iload_n 1, 1) := by decide +kernel
theorem dX11_areGood_10 : decode cX11_areGood 10 = .ok (.iconst 0, 1) := by decide +kernel
theorem dX11_areGood_11 : decode cX11_areGood 11 = .ok (.iconst 5, 1) := by decide +kernel
theorem dX11_areGood_12 : decode cX11_areGood 12 = .ok (.invokestatic 84, 3) := by decide +kernel
theorem dX11_areGood_15 : decode cX11_areGood 15 = .ok (.ifCond .eq 27, 3) := by decide +kernel
theorem dX11_areGood_18 : decode cX11_areGood 18 = .ok (.iload_n 2, 1) := by decide +kernel
theorem dX11_areGood_19 : decode cX11_areGood 19 = .ok (.iconst 0, 1) := by decide +kernel
theorem dX11_areGood_20 : decode cX11_areGood 20 = .ok (.bipush 99, 2) := by decide +kernel
theorem dX11_areGood_22 : decode cX11_areGood 22 = .ok (.invokestatic 84, 3) := by decide +kernel
theorem dX11_areGood_25 : decode cX11_areGood 25 = .ok (.ifCond .eq 17, 3) := by decide +kernel
theorem dX11_areGood_28 : decode cX11_areGood 28 = .ok (.iload_n 3, 1) := by decide +kernel
theorem dX11_areGood_29 : decode cX11_areGood 29 = .ok (.iconst 0, 1) := by decide +kernel
theorem dX11_areGood_30 : decode cX11_areGood 30 = .ok (.bipush 99, 2) := by decide +kernel
theorem dX11_areGood_32 : decode cX11_areGood 32 = .ok (.invokestatic 84, 3) := by decide +kernel
theorem dX11_areGood_35 : decode cX11_areGood 35 = .ok (.ifCond .eq 7, 3) := by decide +kernel
theorem dX11_areGood_38 : decode cX11_areGood 38 = .ok (.iconst 1, 1) := by decide +kernel
theorem dX11_areGood_39 : decode cX11_areGood 39 = .ok (.goto 4, 3) := by decide +kernel
theorem dX11_areGood_42 : decode cX11_areGood 42 = .ok (.iconst 0, 1) := by decide +kernel
theorem dX11_areGood_43 : decode cX11_areGood 43 = .ok (.ireturn, 1) := by decide +kernel
theorem dX11_comes_0 : decode cX11_comes 0 = .ok (.iconst 0, 1) := by decide +kernel
theorem dX11_comes_1 : decode cX11_comes 1 = .ok (.bipush 10, 2) := by decide +kernel
theorem dX11_comes_3 : decode cX11_comes 3 = .ok (.aload_n 0, 1) := by decide +kernel
theorem dX11_comes_4 : decode cX11_comes 4 = .ok (.getfield 7, 3) := by decide +kernel
theorem dX11_comes_7 : decode cX11_comes 7 = .ok (.sipush 238, 3) := by decide +kernel
theorem dX11_comes_10 : decode cX11_comes 10 = .ok (.iaload, 1) := by decide +kernel
theorem dX11_comes_11 : decode cX11_comes 11 = .ok (.imul, 1) := by decide +kernel
theorem dX11_comes_12 : decode cX11_comes 12 = .ok (.iadd, 1) := by decide +kernel
theorem dX11_comes_13 : decode cX11_comes 13 = .ok (.istore 5, 2) := by decide +kernel
theorem dX11_comes_15 : decode cX11_comes 15 = .ok (.iconst 0, 1) := by decide +kernel
theorem dX11_comes_16 : decode cX11_comes 16 = .ok (.istore 6, 2) := by decide +kernel
theorem dX11_comes_18 : decode cX11_comes 18 = .ok (.iload 6, 2) := by decide +kernel
theorem dX11_comes_20 : decode cX11_comes 20 = .ok (.bipush 10, 2) := by decide +kernel
theorem dX11_comes_22 : decode cX11_comes 22 = .ok (.if_icmp .ge 20, 3) := by decide +kernel
theorem dX11_comes_25 : decode cX11_comes 25 = .ok (.aload_n 0, 1) := by decide +kernel
theorem dX11_comes_26 : decode cX11_comes 26 = .ok (.getfield 7, 3) := by decide +kernel
theorem dX11_comes_29 : decode cX11_comes 29 = .ok (.iload 5, 2) := by decide +kernel
theorem dX11_comes_31 : decode cX11_comes 31 = .ok (.iload 6, 2) := by decide +kernel
theorem dX11_comes_33 : decode cX11_comes 33 = .ok (.iadd, 1) := by decide +kernel
theorem dX11_comes_34 : decode cX11_comes 34 = .ok (.iconst 0, 1) := by decide +kernel
theorem dX11_comes_35 : decode cX11_comes 35 = .ok (.iastore, 1) := by decide +kernel
theorem dX11_comes_36 : decode cX11_comes 36 = .ok (.iinc 6 1, 3) := by decide +kernel
theorem dX11_comes_39 : decode cX11_comes 39 = .ok (.goto (-21), 3) := by decide +kernel
theorem dX11_comes_42 : decode cX11_comes 42 = .ok (.aload_n 0, 1) := by decide +kernel
theorem dX11_comes_43 : decode cX11_comes 43 = .ok (.getfield 7, 3) := by decide +kernel
theorem dX11_comes_46 : decode cX11_comes 46 = .ok (.iload 5, 2) := by decide +kernel
theorem dX11_comes_48 : decode cX11_comes 48 = .ok (.iload_n 1, 1) := by decide +kernel
theorem dX11_comes_49 : decode cX11_comes 49 = .ok (.iastore, 1) := by decide +kernel
theorem dX11_comes_50 : decode cX11_comes 50 = .ok (.aload_n 0, 1) := by decide +kernel
theorem dX11_comes_51 : decode cX11_comes 51 = .ok (.getfield 7, 3) := by decide +kernel
theorem dX11_comes_54 : decode cX11_comes 54 = .ok (.iload 5, 2) := by decide +kernel
theorem dX11_comes_56 : decode cX11_comes 56 = .ok (.iconst 1, 1) := by decide +kernel
theorem dX11_comes_57 : decode cX11_comes 57 = .ok (.iadd, 1) := by decide +kernel
theorem dX11_comes_58 : decode cX11_comes 58 = .ok (.iload_n 2, 1) := by decide +kernel
theorem dX11_comes_59 : decode cX11_comes 59 = .ok (.iastore, 1) := by decide +kernel
theorem dX11_comes_60 : decode cX11_comes 60 = .ok (.aload_n 0, 1) := by decide +kernel
theorem dX11_comes_61 : decode cX11_comes 61 = .ok (.getfield 7, 3) := by decide +kernel
theorem dX11_comes_64 : decode cX11_comes 64 = .ok (.iload 5, 2) := by decide +kernel
theorem dX11_comes_66 : decode cX11_comes 66 = .ok (.iconst 2, 1) := by decide +kernel
theorem dX11_comes_67 : decode cX11_comes 67 = .ok (.iadd, 1) := by decide +kernel
theorem dX11_comes_68 : decode cX11_comes 68 = .ok (.iload_n 3, 1) := by decide +kernel
theorem dX11_comes_69 : decode cX11_comes 69 = .ok (.iastore, 1) := by decide +kernel
theorem dX11_comes_70 : decode cX11_comes 70 = .ok (.aload_n 0, 1) := by decide +kernel
theorem dX11_comes_71 : decode cX11_comes 71 = .ok (.getfield 7, 3) := by decide +kernel
theorem dX11_comes_74 : decode cX11_comes 74 = .ok (.iload 5, 2) := by decide +kernel
theorem dX11_comes_76 : decode cX11_comes 76 = .ok (.iconst 3, 1) := by decide +kernel
theorem dX11_comes_77 : decode cX11_comes 77 = .ok (.iadd, 1) := by decide +kernel
theorem dX11_comes_78 : decode cX11_comes 78 = .ok (.iload 4, 2) := by decide +kernel
theorem dX11_comes_80 : decode cX11_comes 80 = .ok (.iastore, 1) := by decide +kernel
theorem dX11_comes_81 : decode cX11_comes 81 = .ok (.aload_n 0, 1) := by decide +kernel
theorem dX11_comes_82 : decode cX11_comes 82 = .ok (.getfield 7, 3) := by decide +kernel
theorem dX11_comes_85 : decode cX11_comes 85 = .ok (.iload 5, 2) := by decide +kernel
theorem dX11_comes_87 : decode cX11_comes 87 = .ok (.iconst 5, 1) := by decide +kernel
theorem dX11_comes_88 : decode cX11_comes 88 = .ok (.iadd, 1) := by decide +kernel
theorem dX11_comes_89 : decode cX11_comes 89 = .ok (.iconst 1, 1) := by decide +kernel
theorem dX11_comes_90 : decode cX11_comes 90 = .ok (.iastore, 1) := by decide +kernel
theorem dX11_comes_91 : decode cX11_comes 91 = .ok (.aload_n 0, 1) := by decide +kernel
theorem dX11_comes_92 : decode cX11_comes 92 = .ok (.getfield 7, 3) := by decide +kernel
theorem dX11_comes_95 : decode cX11_comes 95 = .ok (.sipush 238, 3) := by decide +kernel
theorem dX11_comes_98 : decode cX11_comes 98 = .ok (.dup2, 1) := by decide +kernel
theorem dX11_comes_99 : decode cX11_comes 99 = .ok (.iaload, 1) := by decide +kernel
theorem dX11_comes_100 : decode cX11_comes 100 = .ok (.iconst 1, 1) := by decide +kernel
theorem dX11_comes_101 : decode cX11_comes 101 = .ok (.iadd, 1) := by decide +kernel
theorem dX11_comes_102 : decode cX11_comes 102 = .ok (.iastore, 1) := by decide +kernel
theorem dX11_comes_103 : decode cX11_comes 103 = .ok (.return_, 1) := by decide +kernel
theorem dX11_thing_0 : decode cX11_thing 0 = .ok (.iload_n 1, 1) := by decide +kernel
theorem dX11_thing_1 : decode cX11_thing 1 = .ok (.iload_n 2, 1) := by decide +kernel
theorem dX11_thing_2 : decode cX11_thing 2 = .ok (.iload_n 3, 1) := by decide +kernel
theorem dX11_thing_3 : decode cX11_thing 3 = .ok (.iload 4, 2) := by decide +kernel
theorem dX11_thing_5 : decode cX11_thing 5 = .ok (.invokestatic 159, 3) := by decide +kernel
theorem dX11_thing_8 : decode cX11_thing 8 = .ok (.ifCond .ne 6, 3) := by decide +kernel
theorem dX11_thing_11 : decode cX11_thing 11 = .ok (.bipush (-2), 2) := by decide +kernel
theorem dX11_thing_13 : decode cX11_thing 13 = .ok (.ireturn, 1) := by decide +kernel
theorem dX11_thing_14 : decode cX11_thing 14 = .ok (.aload_n 0, 1) := by decide +kernel
theorem dX11_thing_15 : decode cX11_thing 15 = .ok (.getfield 7, 3) := by decide +kernel
theorem dX11_thing_18 : decode cX11_thing 18 = .ok (.sipush 238, 3) := by decide +kernel
theorem dX11_thing_21 : decode cX11_thing 21 = .ok (.iaload, 1) := by decide +kernel
theorem dX11_thing_22 : decode cX11_thing 22 = .ok (.bipush 8, 2) := by decide +kernel
theorem dX11_thing_24 : decode cX11_thing 24 = .ok (.if_icmp .ne 6, 3) := by decide +kernel
theorem dX11_thing_27 : decode cX11_thing 27 = .ok (.bipush (-4), 2) := by decide +kernel
theorem dX11_thing_29 : decode cX11_thing 29 = .ok (.ireturn, 1) := by decide +kernel
theorem dX11_thing_30 : decode cX11_thing 30 = .ok (.aload_n 0, 1) := by decide +kernel
theorem dX11_thing_31 : decode cX11_thing 31 = .ok (.iload_n 1, 1) := by decide +kernel
theorem dX11_thing_32 : decode cX11_thing 32 = .ok (.iload_n 2, 1) := by decide +kernel
theorem dX11_thing_33 : decode cX11_thing 33 = .ok (.iload_n 3, 1) := by decide +kernel
theorem dX11_thing_34 : decode cX11_thing 34 = .ok (.iload 4, 2) := by decide +kernel
theorem dX11_thing_36 : decode cX11_thing 36 = .ok (.invokevirtual 163, 3) := by decide +kernel
theorem dX11_thing_39 : decode cX11_thing 39 = .ok (.aload_n 0, 1) := by decide +kernel
theorem dX11_thing_40 : decode cX11_thing 40 = .ok (.aload_n 0, 1) := by decide +kernel
theorem dX11_thing_41 : decode cX11_thing 41 = .ok (.getfield 7, 3) := by decide +kernel
theorem dX11_thing_44 : decode cX11_thing 44 = .ok (.sipush 238, 3) := by decide +kernel
theorem dX11_thing_47 : decode cX11_thing 47 = .ok (.iaload, 1) := by decide +kernel
theorem dX11_thing_48 : decode cX11_thing 48 = .ok (.iconst 1, 1) := by decide +kernel
theorem dX11_thing_49 : decode cX11_thing 49 = .ok (.isub, 1) := by decide +kernel
theorem dX11_thing_50 : decode cX11_thing 50 = .ok (.invokevirtual 167, 3) := by decide +kernel
theorem dX11_thing_53 : decode cX11_thing 53 = .ok (.ireturn, 1) := by decide +kernel
theorem dX11_of_0 : decode cX11_of 0 = .ok (.aload_n 0, 1) := by decide +kernel
theorem dX11_of_1 : decode cX11_of 1 = .ok (.iload_n 1, 1) := by decide +kernel
theorem dX11_of_2 : decode cX11_of 2 = .ok (.invokevirtual 88, 3) := by decide +kernel
theorem dX11_of_5 : decode cX11_of 5 = .ok (.ifCond .eq 21, 3) := by decide +kernel
theorem dX11_of_8 : decode cX11_of 8 = .ok (.iload_n 2, 1) := by decide +kernel
theorem dX11_of_9 : decode cX11_of 9 = .ok (.iconst 0, 1) := by decide +kernel
theorem dX11_of_10 : decode cX11_of 10 = .ok (.iconst 5, 1) := by decide +kernel
theorem dX11_of_11 : decode cX11_of 11 = .ok (.invokestatic 84, 3) := by decide +kernel
theorem dX11_of_14 : decode cX11_of 14 = .ok (.ifCond .eq 12, 3) := by decide +kernel
theorem dX11_of_17 : decode cX11_of 17 = .ok (.aload_n 0, 1) := by decide +kernel
theorem dX11_of_18 : decode cX11_of 18 = .ok (.iload_n 1, 1) := by decide +kernel
theorem dX11_of_19 : decode cX11_of 19 = .ok (.iload_n 2, 1) := by decide +kernel
theorem dX11_of_20 : decode cX11_of 20 = .ok (.invokevirtual 92, 3) := by decide +kernel
theorem dX11_of_23 : decode cX11_of 23 = .ok (.goto 5, 3) := by decide +kernel
theorem dX11_of_26 : decode cX11_of 26 = .ok (.bipush (-2), 2) := by decide +kernel
theorem dX11_of_28 : decode cX11_of 28 = .ok (.ireturn, 1) := by decide +kernel
theorem dX11_now_0 : decode cX11_now 0 = .ok (.aload_n 0, 1) := by decide +kernel
theorem dX11_now_1 : decode cX11_now 1 = .ok (.iload_n 1, 1) := by decide +kernel
theorem dX11_now_2 : decode cX11_now 2 = .ok (.invokevirtual 88, 3) := by decide +kernel
theorem dX11_now_5 : decode cX11_now 5 = .ok (.ifCond .eq 12, 3) := by decide +kernel
theorem dX11_now_8 : decode cX11_now 8 = .ok (.iload_n 2, 1) := by decide +kernel
theorem dX11_now_9 : decode cX11_now 9 = .ok (.iconst 0, 1) := by decide +kernel
theorem dX11_now_10 : decode cX11_now 10 = .ok (.iconst 3, 1) := by decide +kernel
theorem dX11_now_11 : decode cX11_now 11 = .ok (.invokestatic 84, 3) := by decide +kernel
theorem dX11_now_14 : decode cX11_now 14 = .ok (.ifCond .ne 6, 3) := by decide +kernel
theorem dX11_now_17 : decode cX11_now 17 = .ok (.bipush (-2), 2) := by decide +kernel
theorem dX11_now_19 : decode cX11_now 19 = .ok (.ireturn, 1) := by decide +kernel
theorem dX11_now_20 : decode cX11_now 20 = .ok (.aload_n 0, 1) := by decide +kernel
theorem dX11_now_21 : decode cX11_now 21 = .ok (.iconst 5, 1) := by decide +kernel
theorem dX11_now_22 : decode cX11_now 22 = .ok (.invokevirtual 145, 3) := by decide +kernel
theorem dX11_now_25 : decode cX11_now 25 = .ok (.aload_n 0, 1) := by decide +kernel
theorem dX11_now_26 : decode cX11_now 26 = .ok (.iload_n 1, 1) := by decide +kernel
theorem dX11_now_27 : decode cX11_now 27 = .ok (.iload_n 2, 1) := by decide +kernel
theorem dX11_now_28 : decode cX11_now 28 = .ok (.invokevirtual 170, 3) := by decide +kernel
theorem dX11_now_31 : decode cX11_now 31 = .ok (.ireturn, 1) := by decide +kernel
theorem dX11_set_0 : decode cX11_set 0 = .ok (.aload_n 0, 1) := by decide +kernel
theorem dX11_set_1 : decode cX11_set 1 = .ok (.iload_n 1, 1) := by decide +kernel
theorem dX11_set_2 : decode cX11_set 2 = .ok (.invokevirtual 88, 3) := by decide +kernel
theorem dX11_set_5 : decode cX11_set 5 = .ok (.ifCond .eq 42, 3) := by decide +kernel
theorem dX11_set_8 : decode cX11_set 8 = .ok (.iload_n 2, 1) := by decide +kernel
theorem dX11_set_9 : decode cX11_set 9 = .ok (.iconst 1, 1) := by decide +kernel
theorem dX11_set_10 : decode cX11_set 10 = .ok (.iconst 4, 1) := by decide +kernel
theorem dX11_set_11 : decode cX11_set 11 = .ok (.invokestatic 84, 3) := by decide +kernel
theorem dX11_set_14 : decode cX11_set 14 = .ok (.ifCond .eq 33, 3) := by decide +kernel
theorem dX11_set_17 : decode cX11_set 17 = .ok (.iload_n 3, 1) := by decide +kernel
theorem dX11_set_18 : decode cX11_set 18 = .ok (.iconst 0, 1) := by decide +kernel
theorem dX11_set_19 : decode cX11_set 19 = .ok (.iload_n 2, 1) := by decide +kernel
theorem dX11_set_20 : decode cX11_set 20 = .ok (.iconst 1, 1) := by decide +kernel
theorem dX11_set_21 : decode cX11_set 21 = .ok (.if_icmp .ne 7, 3) := by decide +kernel
theorem dX11_set_24 : decode cX11_set 24 = .ok (.iconst 5, 1) := by decide +kernel
theorem dX11_set_25 : decode cX11_set 25 = .ok (.goto 16, 3) := by decide +kernel
theorem dX11_set_28 : decode cX11_set 28 = .ok (.iload_n 2, 1) := by decide +kernel
theorem dX11_set_29 : decode cX11_set 29 = .ok (.iconst 4, 1) := by decide +kernel
theorem dX11_set_30 : decode cX11_set 30 = .ok (.if_icmp .ne 9, 3) := by decide +kernel
theorem dX11_set_33 : decode cX11_set 33 = .ok (.sipush 999, 3) := by decide +kernel
theorem dX11_set_36 : decode cX11_set 36 = .ok (.goto 5, 3) := by decide +kernel
end
section
theorem dX11_set_39 : decode cX11_set 39 = .ok (.bipush 99, 2) := by decide +kernel
theorem dX11_set_41 : decode cX11_set 41 = .ok (.invokestatic 84, 3) := by decide +kernel
theorem dX11_set_44 : decode cX11_set 44 = .ok (.ifCond .ne 6, 3) := by decide +kernel
theorem dX11_set_47 : decode cX11_set 47 = .ok (.bipush (-2), 2) := by decide +kernel
theorem dX11_set_49 : decode cX11_set 49 = .ok (.ireturn, 1) := by decide +kernel
theorem dX11_set_50 : decode cX11_set 50 = .ok (.aload_n 0, 1) := by decide +kernel
theorem dX11_set_51 : decode cX11_set 51 = .ok (.iload_n 1, 1) := by decide +kernel
theorem dX11_set_52 : decode cX11_set 52 = .ok (.invokevirtual 100, 3) := by decide +kernel
theorem dX11_set_55 : decode cX11_set 55 = .ok (.ifCond .ne 6, 3) := by decide +kernel
theorem dX11_set_58 : decode cX11_set 58 = .ok (.bipush (-3), 2) := by decide +kernel
theorem dX11_set_60 : decode cX11_set 60 = .ok (.ireturn, 1) := by decide +kernel
theorem dX11_set_61 : decode cX11_set 61 = .ok (.aload_n 0, 1) := by decide +kernel
theorem dX11_set_62 : decode cX11_set 62 = .ok (.iload_n 1, 1) := by decide +kernel
theorem dX11_set_63 : decode cX11_set 63 = .ok (.iload_n 2, 1) := by decide +kernel
theorem dX11_set_64 : decode cX11_set 64 = .ok (.invokevirtual 92, 3) := by decide +kernel
theorem dX11_set_67 : decode cX11_set 67 = .ok (.istore 4, 2) := by decide +kernel
theorem dX11_set_69 : decode cX11_set 69 = .ok (.aload_n 0, 1) := by decide +kernel
theorem dX11_set_70 : decode cX11_set 70 = .ok (.getfield 7, 3) := by decide +kernel
theorem dX11_set_73 : decode cX11_set 73 = .ok (.iconst 0, 1) := by decide +kernel
theorem dX11_set_74 : decode cX11_set 74 = .ok (.bipush 10, 2) := by decide +kernel
theorem dX11_set_76 : decode cX11_set 76 = .ok (.iload_n 1, 1) := by decide +kernel
theorem dX11_set_77 : decode cX11_set 77 = .ok (.imul, 1) := by decide +kernel
theorem dX11_set_78 : decode cX11_set 78 = .ok (.iadd, 1) := by decide +kernel
theorem dX11_set_79 : decode cX11_set 79 = .ok (.iload_n 2, 1) := by decide +kernel
theorem dX11_set_80 : decode cX11_set 80 = .ok (.iadd, 1) := by decide +kernel
theorem dX11_set_81 : decode cX11_set 81 = .ok (.iload_n 3, 1) := by decide +kernel
theorem dX11_set_82 : decode cX11_set 82 = .ok (.iastore, 1) := by decide +kernel
theorem dX11_set_83 : decode cX11_set 83 = .ok (.aload_n 0, 1) := by decide +kernel
theorem dX11_set_84 : decode cX11_set 84 = .ok (.iload 4, 2) := by decide +kernel
theorem dX11_set_86 : decode cX11_set 86 = .ok (.invokevirtual 167, 3) := by decide +kernel
theorem dX11_set_89 : decode cX11_set 89 = .ok (.ireturn, 1) := by decide +kernel
theorem dX11_scope_0 : decode cX11_scope 0 = .ok (.iload_n 1, 1) := by decide +kernel
theorem dX11_scope_1 : decode cX11_scope 1 = .ok (.iload_n 2, 1) := by decide +kernel
theorem dX11_scope_2 : decode cX11_scope 2 = .ok (.invokestatic 173, 3) := by decide +kernel
theorem dX11_scope_5 : decode cX11_scope 5 = .ok (.ifCond .ne 6, 3) := by decide +kernel
theorem dX11_scope_8 : decode cX11_scope 8 = .ok (.bipush (-2), 2) := by decide +kernel
theorem dX11_scope_10 : decode cX11_scope 10 = .ok (.ireturn, 1) := by decide +kernel
theorem dX11_scope_11 : decode cX11_scope 11 = .ok (.aload_n 0, 1) := by decide +kernel
theorem dX11_scope_12 : decode cX11_scope 12 = .ok (.iconst 5, 1) := by decide +kernel
theorem dX11_scope_13 : decode cX11_scope 13 = .ok (.invokevirtual 145, 3) := by decide +kernel
theorem dX11_scope_16 : decode cX11_scope 16 = .ok (.aload_n 0, 1) := by decide +kernel
theorem dX11_scope_17 : decode cX11_scope 17 = .ok (.aload_n 0, 1) := by decide +kernel
theorem dX11_scope_18 : decode cX11_scope 18 = .ok (.getfield 19, 3) := by decide +kernel
theorem dX11_scope_21 : decode cX11_scope 21 = .ok (.iload_n 1, 1) := by decide +kernel
theorem dX11_scope_22 : decode cX11_scope 22 = .ok (.iload_n 2, 1) := by decide +kernel
theorem dX11_scope_23 : decode cX11_scope 23 = .ok (.invokevirtual 106, 3) := by decide +kernel
theorem dX11_scope_26 : decode cX11_scope 26 = .ok (.ireturn, 1) := by decide +kernel
theorem dX11_isDeed_0 : decode cX11_isDeed 0 = .ok (.iload_n 0, 1) := by decide +kernel
theorem dX11_isDeed_1 : decode cX11_isDeed 1 = .ok (.iconst 0, 1) := by decide +kernel
theorem dX11_isDeed_2 : decode cX11_isDeed 2 = .ok (.iconst 5, 1) := by decide +kernel
theorem dX11_isDeed_3 : decode cX11_isDeed 3 = .ok (.invokestatic 84, 3) := by decide +kernel
theorem dX11_isDeed_6 : decode cX11_isDeed 6 = .ok (.ifCond .eq 47, 3) := by decide +kernel
theorem dX11_isDeed_9 : decode cX11_isDeed 9 = .ok (.iload_n 1, 1) := by decide +kernel
theorem dX11_isDeed_10 : decode cX11_isDeed 10 = .ok (.iload_n 0, 1) := by decide +kernel
theorem dX11_isDeed_11 : decode cX11_isDeed 11 = .ok (.iconst 3, 1) := by decide +kernel
theorem dX11_isDeed_12 : decode cX11_isDeed 12 = .ok (.if_icmp .ge 7, 3) := by decide +kernel
theorem dX11_isDeed_15 : decode cX11_isDeed 15 = .ok (.iconst 0, 1) := by decide +kernel
theorem dX11_isDeed_16 : decode cX11_isDeed 16 = .ok (.goto 5, 3) := by decide +kernel
theorem dX11_isDeed_19 : decode cX11_isDeed 19 = .ok (.bipush (-9), 2) := by decide +kernel
theorem dX11_isDeed_21 : decode cX11_isDeed 21 = .ok (.iload_n 0, 1) := by decide +kernel
theorem dX11_isDeed_22 : decode cX11_isDeed 22 = .ok (.iconst 3, 1) := by decide +kernel
theorem dX11_isDeed_23 : decode cX11_isDeed 23 = .ok (.if_icmp .ge 7, 3) := by decide +kernel
theorem dX11_isDeed_26 : decode cX11_isDeed 26 = .ok (.iconst 5, 1) := by decide +kernel
theorem dX11_isDeed_27 : decode cX11_isDeed 27 = .ok (.goto 5, 3) := by decide +kernel
theorem dX11_isDeed_30 : decode cX11_isDeed 30 = .ok (.bipush 9, 2) := by decide +kernel
theorem dX11_isDeed_32 : decode cX11_isDeed 32 = .ok (.invokestatic 84, 3) := by decide +kernel
theorem dX11_isDeed_35 : decode cX11_isDeed 35 = .ok (.ifCond .eq 18, 3) := by decide +kernel
theorem dX11_isDeed_38 : decode cX11_isDeed 38 = .ok (.iload_n 2, 1) := by decide +kernel
theorem dX11_isDeed_39 : decode cX11_isDeed 39 = .ok (.bipush (-9), 2) := by decide +kernel
theorem dX11_isDeed_41 : decode cX11_isDeed 41 = .ok (.bipush 9, 2) := by decide +kernel
theorem dX11_isDeed_43 : decode cX11_isDeed 43 = .ok (.invokestatic 84, 3) := by decide +kernel
theorem dX11_isDeed_46 : decode cX11_isDeed 46 = .ok (.ifCond .eq 7, 3) := by decide +kernel
theorem dX11_isDeed_49 : decode cX11_isDeed 49 = .ok (.iconst 1, 1) := by decide +kernel
theorem dX11_isDeed_50 : decode cX11_isDeed 50 = .ok (.goto 4, 3) := by decide +kernel
theorem dX11_isDeed_53 : decode cX11_isDeed 53 = .ok (.iconst 0, 1) := by decide +kernel
theorem dX11_isDeed_54 : decode cX11_isDeed 54 = .ok (.ireturn, 1) := by decide +kernel
theorem dX11_lays_0 : decode cX11_lays 0 = .ok (.bipush 80, 2) := by decide +kernel
theorem dX11_lays_2 : decode cX11_lays 2 = .ok (.bipush 7, 2) := by decide +kernel
theorem dX11_lays_4 : decode cX11_lays 4 = .ok (.iload_n 1, 1) := by decide +kernel
theorem dX11_lays_5 : decode cX11_lays 5 = .ok (.imul, 1) := by decide +kernel
theorem dX11_lays_6 : decode cX11_lays 6 = .ok (.iadd, 1) := by decide +kernel
theorem dX11_lays_7 : decode cX11_lays 7 = .ok (.istore 7, 2) := by decide +kernel
theorem dX11_lays_9 : decode cX11_lays 9 = .ok (.aload_n 0, 1) := by decide +kernel
theorem dX11_lays_10 : decode cX11_lays 10 = .ok (.getfield 7, 3) := by decide +kernel
theorem dX11_lays_13 : decode cX11_lays 13 = .ok (.iload 7, 2) := by decide +kernel
theorem dX11_lays_15 : decode cX11_lays 15 = .ok (.iconst (-1), 1) := by decide +kernel
theorem dX11_lays_16 : decode cX11_lays 16 = .ok (.iastore, 1) := by decide +kernel
theorem dX11_lays_17 : decode cX11_lays 17 = .ok (.aload_n 0, 1) := by decide +kernel
theorem dX11_lays_18 : decode cX11_lays 18 = .ok (.getfield 7, 3) := by decide +kernel
theorem dX11_lays_21 : decode cX11_lays 21 = .ok (.iload 7, 2) := by decide +kernel
theorem dX11_lays_23 : decode cX11_lays 23 = .ok (.iconst 1, 1) := by decide +kernel
theorem dX11_lays_24 : decode cX11_lays 24 = .ok (.iadd, 1) := by decide +kernel
theorem dX11_lays_25 : decode cX11_lays 25 = .ok (.iload_n 2, 1) := by decide +kernel
theorem dX11_lays_26 : decode cX11_lays 26 = .ok (.iastore, 1) := by decide +kernel
theorem dX11_lays_27 : decode cX11_lays 27 = .ok (.aload_n 0, 1) := by decide +kernel
theorem dX11_lays_28 : decode cX11_lays 28 = .ok (.getfield 7, 3) := by decide +kernel
theorem dX11_lays_31 : decode cX11_lays 31 = .ok (.iload 7, 2) := by decide +kernel
theorem dX11_lays_33 : decode cX11_lays 33 = .ok (.iconst 2, 1) := by decide +kernel
theorem dX11_lays_34 : decode cX11_lays 34 = .ok (.iadd, 1) := by decide +kernel
theorem dX11_lays_35 : decode cX11_lays 35 = .ok (.iload_n 3, 1) := by decide +kernel
theorem dX11_lays_36 : decode cX11_lays 36 = .ok (.iastore, 1) := by decide +kernel
theorem dX11_lays_37 : decode cX11_lays 37 = .ok (.aload_n 0, 1) := by decide +kernel
theorem dX11_lays_38 : decode cX11_lays 38 = .ok (.getfield 7, 3) := by decide +kernel
theorem dX11_lays_41 : decode cX11_lays 41 = .ok (.iload 7, 2) := by decide +kernel
theorem dX11_lays_43 : decode cX11_lays 43 = .ok (.iconst 3, 1) := by decide +kernel
theorem dX11_lays_44 : decode cX11_lays 44 = .ok (.iadd, 1) := by decide +kernel
theorem dX11_lays_45 : decode cX11_lays 45 = .ok (.iload 4, 2) := by decide +kernel
theorem dX11_lays_47 : decode cX11_lays 47 = .ok (.iastore, 1) := by decide +kernel
theorem dX11_lays_48 : decode cX11_lays 48 = .ok (.aload_n 0, 1) := by decide +kernel
theorem dX11_lays_49 : decode cX11_lays 49 = .ok (.getfield 7, 3) := by decide +kernel
theorem dX11_lays_52 : decode cX11_lays 52 = .ok (.iload 7, 2) := by decide +kernel
theorem dX11_lays_54 : decode cX11_lays 54 = .ok (.iconst 4, 1) := by decide +kernel
theorem dX11_lays_55 : decode cX11_lays 55 = .ok (.iadd, 1) := by decide +kernel
theorem dX11_lays_56 : decode cX11_lays 56 = .ok (.iload 5, 2) := by decide +kernel
theorem dX11_lays_58 : decode cX11_lays 58 = .ok (.iastore, 1) := by decide +kernel
theorem dX11_lays_59 : decode cX11_lays 59 = .ok (.aload_n 0, 1) := by decide +kernel
theorem dX11_lays_60 : decode cX11_lays 60 = .ok (.getfield 7, 3) := by decide +kernel
theorem dX11_lays_63 : decode cX11_lays 63 = .ok (.iload 7, 2) := by decide +kernel
theorem dX11_lays_65 : decode cX11_lays 65 = .ok (.iconst 5, 1) := by decide +kernel
theorem dX11_lays_66 : decode cX11_lays 66 = .ok (.iadd, 1) := by decide +kernel
theorem dX11_lays_67 : decode cX11_lays 67 = .ok (.iload 6, 2) := by decide +kernel
theorem dX11_lays_69 : decode cX11_lays 69 = .ok (.iastore, 1) := by decide +kernel
theorem dX11_lays_70 : decode cX11_lays 70 = .ok (.aload_n 0, 1) := by decide +kernel
theorem dX11_lays_71 : decode cX11_lays 71 = .ok (.getfield 7, 3) := by decide +kernel
theorem dX11_lays_74 : decode cX11_lays 74 = .ok (.iload 7, 2) := by decide +kernel
theorem dX11_lays_76 : decode cX11_lays 76 = .ok (.bipush 6, 2) := by decide +kernel
theorem dX11_lays_78 : decode cX11_lays 78 = .ok (.iadd, 1) := by decide +kernel
theorem dX11_lays_79 : decode cX11_lays 79 = .ok (.iconst 0, 1) := by decide +kernel
theorem dX11_lays_80 : decode cX11_lays 80 = .ok (.iastore, 1) := by decide +kernel
theorem dX11_lays_81 : decode cX11_lays 81 = .ok (.return_, 1) := by decide +kernel
theorem dX11_effect_0 : decode cX11_effect 0 = .ok (.iload_n 1, 1) := by decide +kernel
theorem dX11_effect_1 : decode cX11_effect 1 = .ok (.iload 4, 2) := by decide +kernel
theorem dX11_effect_3 : decode cX11_effect 3 = .ok (.iload 5, 2) := by decide +kernel
theorem dX11_effect_5 : decode cX11_effect 5 = .ok (.invokestatic 176, 3) := by decide +kernel
theorem dX11_effect_8 : decode cX11_effect 8 = .ok (.ifCond .eq 11, 3) := by decide +kernel
theorem dX11_effect_11 : decode cX11_effect 11 = .ok (.iload_n 2, 1) := by decide +kernel
theorem dX11_effect_12 : decode cX11_effect 12 = .ok (.iload_n 3, 1) := by decide +kernel
theorem dX11_effect_13 : decode cX11_effect 13 = .ok (.invokestatic 173, 3) := by decide +kernel
theorem dX11_effect_16 : decode cX11_effect 16 = .ok (.ifCond .ne 6, 3) := by decide +kernel
theorem dX11_effect_19 : decode cX11_effect 19 = .ok (.bipush (-2), 2) := by decide +kernel
theorem dX11_effect_21 : decode cX11_effect 21 = .ok (.ireturn, 1) := by decide +kernel
theorem dX11_effect_22 : decode cX11_effect 22 = .ok (.aload_n 0, 1) := by decide +kernel
theorem dX11_effect_23 : decode cX11_effect 23 = .ok (.getfield 7, 3) := by decide +kernel
theorem dX11_effect_26 : decode cX11_effect 26 = .ok (.sipush 239, 3) := by decide +kernel
theorem dX11_effect_29 : decode cX11_effect 29 = .ok (.iaload, 1) := by decide +kernel
theorem dX11_effect_30 : decode cX11_effect 30 = .ok (.bipush 10, 2) := by decide +kernel
theorem dX11_effect_32 : decode cX11_effect 32 = .ok (.if_icmp .ne 6, 3) := by decide +kernel
theorem dX11_effect_35 : decode cX11_effect 35 = .ok (.bipush (-4), 2) := by decide +kernel
theorem dX11_effect_37 : decode cX11_effect 37 = .ok (.ireturn, 1) := by decide +kernel
theorem dX11_effect_38 : decode cX11_effect 38 = .ok (.aload_n 0, 1) := by decide +kernel
theorem dX11_effect_39 : decode cX11_effect 39 = .ok (.aload_n 0, 1) := by decide +kernel
theorem dX11_effect_40 : decode cX11_effect 40 = .ok (.getfield 7, 3) := by decide +kernel
theorem dX11_effect_43 : decode cX11_effect 43 = .ok (.sipush 239, 3) := by decide +kernel
theorem dX11_effect_46 : decode cX11_effect 46 = .ok (.iaload, 1) := by decide +kernel
theorem dX11_effect_47 : decode cX11_effect 47 = .ok (.iload_n 1, 1) := by decide +kernel
theorem dX11_effect_48 : decode cX11_effect 48 = .ok (.iload_n 2, 1) := by decide +kernel
theorem dX11_effect_49 : decode cX11_effect 49 = .ok (.iload_n 3, 1) := by decide +kernel
theorem dX11_effect_50 : decode cX11_effect 50 = .ok (.iload 4, 2) := by decide +kernel
theorem dX11_effect_52 : decode cX11_effect 52 = .ok (.iload 5, 2) := by decide +kernel
theorem dX11_effect_54 : decode cX11_effect 54 = .ok (.invokevirtual 179, 3) := by decide +kernel
theorem dX11_effect_57 : decode cX11_effect 57 = .ok (.aload_n 0, 1) := by decide +kernel
theorem dX11_effect_58 : decode cX11_effect 58 = .ok (.getfield 7, 3) := by decide +kernel
theorem dX11_effect_61 : decode cX11_effect 61 = .ok (.sipush 239, 3) := by decide +kernel
theorem dX11_effect_64 : decode cX11_effect 64 = .ok (.dup2, 1) := by decide +kernel
theorem dX11_effect_65 : decode cX11_effect 65 = .ok (.iaload, 1) := by decide +kernel
theorem dX11_effect_66 : decode cX11_effect 66 = .ok (.iconst 1, 1) := by decide +kernel
theorem dX11_effect_67 : decode cX11_effect 67 = .ok (.iadd, 1) := by decide +kernel
theorem dX11_effect_68 : decode cX11_effect 68 = .ok (.iastore, 1) := by decide +kernel
theorem dX11_effect_69 : decode cX11_effect 69 = .ok (.aload_n 0, 1) := by decide +kernel
theorem dX11_effect_70 : decode cX11_effect 70 = .ok (.aload_n 0, 1) := by decide +kernel
theorem dX11_effect_71 : decode cX11_effect 71 = .ok (.getfield 7, 3) := by decide +kernel
theorem dX11_effect_74 : decode cX11_effect 74 = .ok (.sipush 239, 3) := by decide +kernel
theorem dX11_effect_77 : decode cX11_effect 77 = .ok (.iaload, 1) := by decide +kernel
theorem dX11_effect_78 : decode cX11_effect 78 = .ok (.iconst 1, 1) := by decide +kernel
theorem dX11_effect_79 : decode cX11_effect 79 = .ok (.isub, 1) := by decide +kernel
theorem dX11_effect_80 : decode cX11_effect 80 = .ok (.invokevirtual 167, 3) := by decide +kernel
theorem dX11_effect_83 : decode cX11_effect 83 = .ok (.ireturn, 1) := by decide +kernel
theorem dX11_source_0 : decode cX11_source 0 = .ok (.aload_n 0, 1) := by decide +kernel
theorem dX11_source_1 : decode cX11_source 1 = .ok (.iload_n 1, 1) := by decide +kernel
theorem dX11_source_2 : decode cX11_source 2 = .ok (.invokevirtual 183, 3) := by decide +kernel
theorem dX11_source_5 : decode cX11_source 5 = .ok (.ifCond .eq 16, 3) := by decide +kernel
theorem dX11_source_8 : decode cX11_source 8 = .ok (.iload_n 2, 1) := by decide +kernel
theorem dX11_source_9 : decode cX11_source 9 = .ok (.iconst (-1), 1) := by decide +kernel
theorem dX11_source_10 : decode cX11_source 10 = .ok (.if_icmp .eq 14, 3) := by decide +kernel
theorem dX11_source_13 : decode cX11_source 13 = .ok (.aload_n 0, 1) := by decide +kernel
theorem dX11_source_14 : decode cX11_source 14 = .ok (.iload_n 2, 1) := by decide +kernel
theorem dX11_source_15 : decode cX11_source 15 = .ok (.invokevirtual 88, 3) := by decide +kernel
theorem dX11_source_18 : decode cX11_source 18 = .ok (.ifCond .ne 6, 3) := by decide +kernel
theorem dX11_source_21 : decode cX11_source 21 = .ok (.bipush (-2), 2) := by decide +kernel
theorem dX11_source_23 : decode cX11_source 23 = .ok (.ireturn, 1) := by decide +kernel
theorem dX11_source_24 : decode cX11_source 24 = .ok (.aload_n 0, 1) := by decide +kernel
theorem dX11_source_25 : decode cX11_source 25 = .ok (.iload_n 1, 1) := by decide +kernel
theorem dX11_source_26 : decode cX11_source 26 = .ok (.iconst 0, 1) := by decide +kernel
theorem dX11_source_27 : decode cX11_source 27 = .ok (.invokevirtual 103, 3) := by decide +kernel
theorem dX11_source_30 : decode cX11_source 30 = .ok (.istore_n 3, 1) := by decide +kernel
theorem dX11_source_31 : decode cX11_source 31 = .ok (.aload_n 0, 1) := by decide +kernel
theorem dX11_source_32 : decode cX11_source 32 = .ok (.getfield 7, 3) := by decide +kernel
theorem dX11_source_35 : decode cX11_source 35 = .ok (.bipush 80, 2) := by decide +kernel
theorem dX11_source_37 : decode cX11_source 37 = .ok (.bipush 7, 2) := by decide +kernel
theorem dX11_source_39 : decode cX11_source 39 = .ok (.iload_n 1, 1) := by decide +kernel
theorem dX11_source_40 : decode cX11_source 40 = .ok (.imul, 1) := by decide +kernel
theorem dX11_source_41 : decode cX11_source 41 = .ok (.iadd, 1) := by decide +kernel
theorem dX11_source_42 : decode cX11_source 42 = .ok (.iload_n 2, 1) := by decide +kernel
theorem dX11_source_43 : decode cX11_source 43 = .ok (.iastore, 1) := by decide +kernel
theorem dX11_source_44 : decode cX11_source 44 = .ok (.aload_n 0, 1) := by decide +kernel
theorem dX11_source_45 : decode cX11_source 45 = .ok (.iload_n 3, 1) := by decide +kernel
theorem dX11_source_46 : decode cX11_source 46 = .ok (.invokevirtual 167, 3) := by decide +kernel
theorem dX11_source_49 : decode cX11_source 49 = .ok (.ireturn, 1) := by decide +kernel
theorem dX11_lasts_0 : decode cX11_lasts 0 = .ok (.aload_n 0, 1) := by decide +kernel
theorem dX11_lasts_1 : decode cX11_lasts 1 = .ok (.iload_n 1, 1) := by decide +kernel
theorem dX11_lasts_2 : decode cX11_lasts 2 = .ok (.invokevirtual 183, 3) := by decide +kernel
theorem dX11_lasts_5 : decode cX11_lasts 5 = .ok (.ifCond .eq 13, 3) := by decide +kernel
theorem dX11_lasts_8 : decode cX11_lasts 8 = .ok (.iload_n 2, 1) := by decide +kernel
theorem dX11_lasts_9 : decode cX11_lasts 9 = .ok (.iconst 0, 1) := by decide +kernel
theorem dX11_lasts_10 : decode cX11_lasts 10 = .ok (.bipush 9, 2) := by decide +kernel
theorem dX11_lasts_12 : decode cX11_lasts 12 = .ok (.invokestatic 84, 3) := by decide +kernel
theorem dX11_lasts_15 : decode cX11_lasts 15 = .ok (.ifCond .ne 6, 3) := by decide +kernel
theorem dX11_lasts_18 : decode cX11_lasts 18 = .ok (.bipush (-2), 2) := by decide +kernel
theorem dX11_lasts_20 : decode cX11_lasts 20 = .ok (.ireturn, 1) := by decide +kernel
theorem dX11_lasts_21 : decode cX11_lasts 21 = .ok (.aload_n 0, 1) := by decide +kernel
theorem dX11_lasts_22 : decode cX11_lasts 22 = .ok (.iload_n 1, 1) := by decide +kernel
theorem dX11_lasts_23 : decode cX11_lasts 23 = .ok (.bipush 6, 2) := by decide +kernel
theorem dX11_lasts_25 : decode cX11_lasts 25 = .ok (.invokevirtual 103, 3) := by decide +kernel
theorem dX11_lasts_28 : decode cX11_lasts 28 = .ok (.istore_n 3, 1) := by decide +kernel
theorem dX11_lasts_29 : decode cX11_lasts 29 = .ok (.aload_n 0, 1) := by decide +kernel
theorem dX11_lasts_30 : decode cX11_lasts 30 = .ok (.getfield 7, 3) := by decide +kernel
theorem dX11_lasts_33 : decode cX11_lasts 33 = .ok (.bipush 80, 2) := by decide +kernel
theorem dX11_lasts_35 : decode cX11_lasts 35 = .ok (.bipush 7, 2) := by decide +kernel
theorem dX11_lasts_37 : decode cX11_lasts 37 = .ok (.iload_n 1, 1) := by decide +kernel
theorem dX11_lasts_38 : decode cX11_lasts 38 = .ok (.imul, 1) := by decide +kernel
theorem dX11_lasts_39 : decode cX11_lasts 39 = .ok (.iadd, 1) := by decide +kernel
theorem dX11_lasts_40 : decode cX11_lasts 40 = .ok (.bipush 6, 2) := by decide +kernel
theorem dX11_lasts_42 : decode cX11_lasts 42 = .ok (.iadd, 1) := by decide +kernel
theorem dX11_lasts_43 : decode cX11_lasts 43 = .ok (.iload_n 2, 1) := by decide +kernel
theorem dX11_lasts_44 : decode cX11_lasts 44 = .ok (.iastore, 1) := by decide +kernel
theorem dX11_lasts_45 : decode cX11_lasts 45 = .ok (.aload_n 0, 1) := by decide +kernel
theorem dX11_lasts_46 : decode cX11_lasts 46 = .ok (.iload_n 3, 1) := by decide +kernel
theorem dX11_lasts_47 : decode cX11_lasts 47 = .ok (.invokevirtual 167, 3) := by decide +kernel
theorem dX11_lasts_50 : decode cX11_lasts 50 = .ok (.ireturn, 1) := by decide +kernel
theorem dX11_goes_0 : decode cX11_goes 0 = .ok (.aload_n 0, 1) := by decide +kernel
theorem dX11_goes_1 : decode cX11_goes 1 = .ok (.getfield 7, 3) := by decide +kernel
theorem dX11_goes_4 : decode cX11_goes 4 = .ok (.iload_n 3, 1) := by decide +kernel
theorem dX11_goes_5 : decode cX11_goes 5 = .ok (.dup2, 1) := by decide +kernel
theorem dX11_goes_6 : decode cX11_goes 6 = .ok (.iaload, 1) := by decide +kernel
theorem dX11_goes_7 : decode cX11_goes 7 = .ok (.iconst 1, 1) := by decide +kernel
theorem dX11_goes_8 : decode cX11_goes 8 = .ok (.isub, 1) := by decide +kernel
theorem dX11_goes_9 : decode cX11_goes 9 = .ok (.iastore, 1) := by decide +kernel
theorem dX11_goes_10 : decode cX11_goes 10 = .ok (.iload_n 1, 1) := by decide +kernel
theorem dX11_goes_11 : decode cX11_goes 11 = .ok (.iload_n 2, 1) := by decide +kernel
theorem dX11_goes_12 : decode cX11_goes 12 = .ok (.iload 4, 2) := by decide +kernel
theorem dX11_goes_14 : decode cX11_goes 14 = .ok (.imul, 1) := by decide +kernel
theorem dX11_goes_15 : decode cX11_goes 15 = .ok (.iadd, 1) := by decide +kernel
theorem dX11_goes_16 : decode cX11_goes 16 = .ok (.istore 5, 2) := by decide +kernel
theorem dX11_goes_18 : decode cX11_goes 18 = .ok (.iload 5, 2) := by decide +kernel
theorem dX11_goes_20 : decode cX11_goes 20 = .ok (.iload_n 1, 1) := by decide +kernel
theorem dX11_goes_21 : decode cX11_goes 21 = .ok (.iload_n 2, 1) := by decide +kernel
theorem dX11_goes_22 : decode cX11_goes 22 = .ok (.aload_n 0, 1) := by decide +kernel
theorem dX11_goes_23 : decode cX11_goes 23 = .ok (.getfield 7, 3) := by decide +kernel
theorem dX11_goes_26 : decode cX11_goes 26 = .ok (.iload_n 3, 1) := by decide +kernel
theorem dX11_goes_27 : decode cX11_goes 27 = .ok (.iaload, 1) := by decide +kernel
theorem dX11_goes_28 : decode cX11_goes 28 = .ok (.imul, 1) := by decide +kernel
theorem dX11_goes_29 : decode cX11_goes 29 = .ok (.iadd, 1) := by decide +kernel
theorem dX11_goes_30 : decode cX11_goes 30 = .ok (.if_icmp .ge 25, 3) := by decide +kernel
theorem dX11_goes_33 : decode cX11_goes 33 = .ok (.aload_n 0, 1) := by decide +kernel
theorem dX11_goes_34 : decode cX11_goes 34 = .ok (.getfield 7, 3) := by decide +kernel
theorem dX11_goes_37 : decode cX11_goes 37 = .ok (.iload 5, 2) := by decide +kernel
theorem dX11_goes_39 : decode cX11_goes 39 = .ok (.aload_n 0, 1) := by decide +kernel
theorem dX11_goes_40 : decode cX11_goes 40 = .ok (.getfield 7, 3) := by decide +kernel
theorem dX11_goes_43 : decode cX11_goes 43 = .ok (.iload 5, 2) := by decide +kernel
theorem dX11_goes_45 : decode cX11_goes 45 = .ok (.iload_n 2, 1) := by decide +kernel
theorem dX11_goes_46 : decode cX11_goes 46 = .ok (.iadd, 1) := by decide +kernel
theorem dX11_goes_47 : decode cX11_goes 47 = .ok (.iaload, 1) := by decide +kernel
theorem dX11_goes_48 : decode cX11_goes 48 = .ok (.iastore, 1) := by decide +kernel
theorem dX11_goes_49 : decode cX11_goes 49 = .ok (.iinc 5 1, 3) := by decide +kernel
theorem dX11_goes_52 : decode cX11_goes 52 = .ok (.goto (-34), 3) := by decide +kernel
theorem dX11_goes_55 : decode cX11_goes 55 = .ok (.return_, 1) := by decide +kernel
theorem dX11_ends_0 : decode cX11_ends 0 = .ok (.aload_n 0, 1) := by decide +kernel
theorem dX11_ends_1 : decode cX11_ends 1 = .ok (.iload_n 1, 1) := by decide +kernel
theorem dX11_ends_2 : decode cX11_ends 2 = .ok (.invokevirtual 183, 3) := by decide +kernel
theorem dX11_ends_5 : decode cX11_ends 5 = .ok (.ifCond .ne 6, 3) := by decide +kernel
theorem dX11_ends_8 : decode cX11_ends 8 = .ok (.bipush (-2), 2) := by decide +kernel
theorem dX11_ends_10 : decode cX11_ends 10 = .ok (.ireturn, 1) := by decide +kernel
theorem dX11_ends_11 : decode cX11_ends 11 = .ok (.aload_n 0, 1) := by decide +kernel
theorem dX11_ends_12 : decode cX11_ends 12 = .ok (.bipush 80, 2) := by decide +kernel
theorem dX11_ends_14 : decode cX11_ends 14 = .ok (.bipush 7, 2) := by decide +kernel
theorem dX11_ends_16 : decode cX11_ends 16 = .ok (.sipush 239, 3) := by decide +kernel
theorem dX11_ends_19 : decode cX11_ends 19 = .ok (.iload_n 1, 1) := by decide +kernel
theorem dX11_ends_20 : decode cX11_ends 20 = .ok (.invokevirtual 186, 3) := by decide +kernel
theorem dX11_ends_23 : decode cX11_ends 23 = .ok (.aload_n 0, 1) := by decide +kernel
theorem dX11_ends_24 : decode cX11_ends 24 = .ok (.aload_n 0, 1) := by decide +kernel
theorem dX11_ends_25 : decode cX11_ends 25 = .ok (.getfield 7, 3) := by decide +kernel
theorem dX11_ends_28 : decode cX11_ends 28 = .ok (.sipush 239, 3) := by decide +kernel
theorem dX11_ends_31 : decode cX11_ends 31 = .ok (.iaload, 1) := by decide +kernel
theorem dX11_ends_32 : decode cX11_ends 32 = .ok (.invokevirtual 167, 3) := by decide +kernel
theorem dX11_ends_35 : decode cX11_ends 35 = .ok (.ireturn, 1) := by decide +kernel
theorem dX11_order_0 : decode cX11_order 0 = .ok (.iload_n 1, 1) := by decide +kernel
theorem dX11_order_1 : decode cX11_order 1 = .ok (.iconst (-1), 1) := by decide +kernel
theorem dX11_order_2 : decode cX11_order 2 = .ok (.if_icmp .ge 6, 3) := by decide +kernel
theorem dX11_order_5 : decode cX11_order 5 = .ok (.bipush (-2), 2) := by decide +kernel
theorem dX11_order_7 : decode cX11_order 7 = .ok (.ireturn, 1) := by decide +kernel
theorem dX11_order_8 : decode cX11_order 8 = .ok (.aload_n 0, 1) := by decide +kernel
theorem dX11_order_9 : decode cX11_order 9 = .ok (.iconst 5, 1) := by decide +kernel
theorem dX11_order_10 : decode cX11_order 10 = .ok (.invokevirtual 145, 3) := by decide +kernel
theorem dX11_order_13 : decode cX11_order 13 = .ok (.iload_n 1, 1) := by decide +kernel
theorem dX11_order_14 : decode cX11_order 14 = .ok (.iconst (-1), 1) := by decide +kernel
theorem dX11_order_15 : decode cX11_order 15 = .ok (.if_icmp .ne 10, 3) := by decide +kernel
theorem dX11_order_18 : decode cX11_order 18 = .ok (.aload_n 0, 1) := by decide +kernel
theorem dX11_order_19 : decode cX11_order 19 = .ok (.getfield 121, 3) := by decide +kernel
theorem dX11_order_22 : decode cX11_order 22 = .ok (.goto 21, 3) := by decide +kernel
theorem dX11_order_25 : decode cX11_order 25 = .ok (.iload_n 1, 1) := by decide +kernel
theorem dX11_order_26 : decode cX11_order 26 = .ok (.aload_n 0, 1) := by decide +kernel
theorem dX11_order_27 : decode cX11_order 27 = .ok (.getfield 121, 3) := by decide +kernel
theorem dX11_order_30 : decode cX11_order 30 = .ok (.if_icmp .ge 12, 3) := by decide +kernel
theorem dX11_order_33 : decode cX11_order 33 = .ok (.aload_n 0, 1) := by decide +kernel
theorem dX11_order_34 : decode cX11_order 34 = .ok (.getfield 25, 3) := by decide +kernel
theorem dX11_order_37 : decode cX11_order 37 = .ok (.iload_n 1, 1) := by decide +kernel
theorem dX11_order_38 : decode cX11_order 38 = .ok (.iaload, 1) := by decide +kernel
theorem dX11_order_39 : decode cX11_order 39 = .ok (.goto 4, 3) := by decide +kernel
theorem dX11_order_42 : decode cX11_order 42 = .ok (.iconst (-1), 1) := by decide +kernel
theorem dX11_order_43 : decode cX11_order 43 = .ok (.ireturn, 1) := by decide +kernel
theorem dX11_depends_0 : decode cX11_depends 0 = .ok (.aload_n 0, 1) := by decide +kernel
theorem dX11_depends_1 : decode cX11_depends 1 = .ok (.iload_n 1, 1) := by decide +kernel
theorem dX11_depends_2 : decode cX11_depends 2 = .ok (.invokevirtual 183, 3) := by decide +kernel
theorem dX11_depends_5 : decode cX11_depends 5 = .ok (.ifCond .eq 16, 3) := by decide +kernel
theorem dX11_depends_8 : decode cX11_depends 8 = .ok (.aload_n 0, 1) := by decide +kernel
theorem dX11_depends_9 : decode cX11_depends 9 = .ok (.iload_n 2, 1) := by decide +kernel
theorem dX11_depends_10 : decode cX11_depends 10 = .ok (.invokevirtual 183, 3) := by decide +kernel
theorem dX11_depends_13 : decode cX11_depends 13 = .ok (.ifCond .eq 8, 3) := by decide +kernel
theorem dX11_depends_16 : decode cX11_depends 16 = .ok (.iload_n 1, 1) := by decide +kernel
theorem dX11_depends_17 : decode cX11_depends 17 = .ok (.iload_n 2, 1) := by decide +kernel
theorem dX11_depends_18 : decode cX11_depends 18 = .ok (.if_icmp .ne 6, 3) := by decide +kernel
theorem dX11_depends_21 : decode cX11_depends 21 = .ok (.bipush (-2), 2) := by decide +kernel
theorem dX11_depends_23 : decode cX11_depends 23 = .ok (.ireturn, 1) := by decide +kernel
theorem dX11_depends_24 : decode cX11_depends 24 = .ok (.aload_n 0, 1) := by decide +kernel
theorem dX11_depends_25 : decode cX11_depends 25 = .ok (.iload_n 1, 1) := by decide +kernel
theorem dX11_depends_26 : decode cX11_depends 26 = .ok (.iconst 1, 1) := by decide +kernel
theorem dX11_depends_27 : decode cX11_depends 27 = .ok (.invokevirtual 103, 3) := by decide +kernel
theorem dX11_depends_30 : decode cX11_depends 30 = .ok (.invokestatic 125, 3) := by decide +kernel
theorem dX11_depends_33 : decode cX11_depends 33 = .ok (.istore_n 3, 1) := by decide +kernel
theorem dX11_depends_34 : decode cX11_depends 34 = .ok (.iload_n 3, 1) := by decide +kernel
theorem dX11_depends_35 : decode cX11_depends 35 = .ok (.aload_n 0, 1) := by decide +kernel
theorem dX11_depends_36 : decode cX11_depends 36 = .ok (.iload_n 2, 1) := by decide +kernel
theorem dX11_depends_37 : decode cX11_depends 37 = .ok (.iconst 1, 1) := by decide +kernel
theorem dX11_depends_38 : decode cX11_depends 38 = .ok (.invokevirtual 103, 3) := by decide +kernel
theorem dX11_depends_41 : decode cX11_depends 41 = .ok (.invokestatic 125, 3) := by decide +kernel
theorem dX11_depends_44 : decode cX11_depends 44 = .ok (.if_icmp .ne 19, 3) := by decide +kernel
theorem dX11_depends_47 : decode cX11_depends 47 = .ok (.aload_n 0, 1) := by decide +kernel
theorem dX11_depends_48 : decode cX11_depends 48 = .ok (.iload_n 1, 1) := by decide +kernel
theorem dX11_depends_49 : decode cX11_depends 49 = .ok (.invokevirtual 129, 3) := by decide +kernel
theorem dX11_depends_52 : decode cX11_depends 52 = .ok (.ifCond .eq 11, 3) := by decide +kernel
theorem dX11_depends_55 : decode cX11_depends 55 = .ok (.aload_n 0, 1) := by decide +kernel
theorem dX11_depends_56 : decode cX11_depends 56 = .ok (.iload_n 2, 1) := by decide +kernel
theorem dX11_depends_57 : decode cX11_depends 57 = .ok (.invokevirtual 129, 3) := by decide +kernel
theorem dX11_depends_60 : decode cX11_depends 60 = .ok (.ifCond .ne 6, 3) := by decide +kernel
theorem dX11_depends_63 : decode cX11_depends 63 = .ok (.bipush (-3), 2) := by decide +kernel
theorem dX11_depends_65 : decode cX11_depends 65 = .ok (.ireturn, 1) := by decide +kernel
theorem dX11_depends_66 : decode cX11_depends 66 = .ok (.aload_n 0, 1) := by decide +kernel
theorem dX11_depends_67 : decode cX11_depends 67 = .ok (.iload_n 3, 1) := by decide +kernel
theorem dX11_depends_68 : decode cX11_depends 68 = .ok (.invokevirtual 145, 3) := by decide +kernel
theorem dX11_depends_71 : decode cX11_depends 71 = .ok (.aload_n 0, 1) := by decide +kernel
theorem dX11_depends_72 : decode cX11_depends 72 = .ok (.iload_n 1, 1) := by decide +kernel
theorem dX11_depends_73 : decode cX11_depends 73 = .ok (.iload_n 2, 1) := by decide +kernel
theorem dX11_depends_74 : decode cX11_depends 74 = .ok (.invokevirtual 118, 3) := by decide +kernel
theorem dX11_depends_77 : decode cX11_depends 77 = .ok (.ifCond .eq 7, 3) := by decide +kernel
theorem dX11_depends_80 : decode cX11_depends 80 = .ok (.iconst 1, 1) := by decide +kernel
theorem dX11_depends_81 : decode cX11_depends 81 = .ok (.goto 4, 3) := by decide +kernel
theorem dX11_depends_84 : decode cX11_depends 84 = .ok (.iconst 0, 1) := by decide +kernel
theorem dX11_depends_85 : decode cX11_depends 85 = .ok (.ireturn, 1) := by decide +kernel
theorem dX11_ruleIs_0 : decode cX11_ruleIs 0 = .ok (.aload_n 0, 1) := by decide +kernel
theorem dX11_ruleIs_1 : decode cX11_ruleIs 1 = .ok (.getfield 7, 3) := by decide +kernel
theorem dX11_ruleIs_4 : decode cX11_ruleIs 4 = .ok (.sipush 150, 3) := by decide +kernel
theorem dX11_ruleIs_7 : decode cX11_ruleIs 7 = .ok (.iconst 4, 1) := by decide +kernel
theorem dX11_ruleIs_8 : decode cX11_ruleIs 8 = .ok (.iload_n 1, 1) := by decide +kernel
theorem dX11_ruleIs_9 : decode cX11_ruleIs 9 = .ok (.imul, 1) := by decide +kernel
theorem dX11_ruleIs_10 : decode cX11_ruleIs 10 = .ok (.iadd, 1) := by decide +kernel
theorem dX11_ruleIs_11 : decode cX11_ruleIs 11 = .ok (.iload_n 2, 1) := by decide +kernel
theorem dX11_ruleIs_12 : decode cX11_ruleIs 12 = .ok (.iadd, 1) := by decide +kernel
theorem dX11_ruleIs_13 : decode cX11_ruleIs 13 = .ok (.iaload, 1) := by decide +kernel
theorem dX11_ruleIs_14 : decode cX11_ruleIs 14 = .ok (.ireturn, 1) := by decide +kernel
theorem dX11_isRule_0 : decode cX11_isRule 0 = .ok (.iload_n 1, 1) := by decide +kernel
theorem dX11_isRule_1 : decode cX11_isRule 1 = .ok (.iconst 0, 1) := by decide +kernel
theorem dX11_isRule_2 : decode cX11_isRule 2 = .ok (.aload_n 0, 1) := by decide +kernel
theorem dX11_isRule_3 : decode cX11_isRule 3 = .ok (.getfield 7, 3) := by decide +kernel
theorem dX11_isRule_6 : decode cX11_isRule 6 = .ok (.sipush 240, 3) := by decide +kernel
theorem dX11_isRule_9 : decode cX11_isRule 9 = .ok (.iaload, 1) := by decide +kernel
theorem dX11_isRule_10 : decode cX11_isRule 10 = .ok (.iconst 1, 1) := by decide +kernel
theorem dX11_isRule_11 : decode cX11_isRule 11 = .ok (.isub, 1) := by decide +kernel
theorem dX11_isRule_12 : decode cX11_isRule 12 = .ok (.invokestatic 84, 3) := by decide +kernel
theorem dX11_isRule_15 : decode cX11_isRule 15 = .ok (.ireturn, 1) := by decide +kernel
theorem dX11_rule_0 : decode cX11_rule 0 = .ok (.iload_n 1, 1) := by decide +kernel
theorem dX11_rule_1 : decode cX11_rule 1 = .ok (.iconst 0, 1) := by decide +kernel
theorem dX11_rule_2 : decode cX11_rule 2 = .ok (.iconst 4, 1) := by decide +kernel
theorem dX11_rule_3 : decode cX11_rule 3 = .ok (.invokestatic 84, 3) := by decide +kernel
theorem dX11_rule_6 : decode cX11_rule 6 = .ok (.ifCond .eq 42, 3) := by decide +kernel
theorem dX11_rule_9 : decode cX11_rule 9 = .ok (.iload_n 2, 1) := by decide +kernel
theorem dX11_rule_10 : decode cX11_rule 10 = .ok (.iload_n 3, 1) := by decide +kernel
theorem dX11_rule_11 : decode cX11_rule 11 = .ok (.invokestatic 173, 3) := by decide +kernel
theorem dX11_rule_14 : decode cX11_rule 14 = .ok (.ifCond .eq 34, 3) := by decide +kernel
theorem dX11_rule_17 : decode cX11_rule 17 = .ok (.iload_n 1, 1) := by decide +kernel
theorem dX11_rule_18 : decode cX11_rule 18 = .ok (.ifCond .ne 14, 3) := by decide +kernel
end
section
theorem dX11_rule_21 : decode cX11_rule 21 = .ok (.iload 4, 2) := by decide +kernel
theorem dX11_rule_23 : decode cX11_rule 23 = .ok (.iconst 1, 1) := by decide +kernel
theorem dX11_rule_24 : decode cX11_rule 24 = .ok (.bipush 99, 2) := by decide +kernel
theorem dX11_rule_26 : decode cX11_rule 26 = .ok (.invokestatic 84, 3) := by decide +kernel
theorem dX11_rule_29 : decode cX11_rule 29 = .ok (.ifCond .eq 19, 3) := by decide +kernel
theorem dX11_rule_32 : decode cX11_rule 32 = .ok (.iload_n 1, 1) := by decide +kernel
theorem dX11_rule_33 : decode cX11_rule 33 = .ok (.iconst 3, 1) := by decide +kernel
theorem dX11_rule_34 : decode cX11_rule 34 = .ok (.if_icmp .ne 17, 3) := by decide +kernel
theorem dX11_rule_37 : decode cX11_rule 37 = .ok (.iload 4, 2) := by decide +kernel
theorem dX11_rule_39 : decode cX11_rule 39 = .ok (.iconst 0, 1) := by decide +kernel
theorem dX11_rule_40 : decode cX11_rule 40 = .ok (.bipush 7, 2) := by decide +kernel
theorem dX11_rule_42 : decode cX11_rule 42 = .ok (.invokestatic 84, 3) := by decide +kernel
theorem dX11_rule_45 : decode cX11_rule 45 = .ok (.ifCond .ne 6, 3) := by decide +kernel
theorem dX11_rule_48 : decode cX11_rule 48 = .ok (.bipush (-2), 2) := by decide +kernel
theorem dX11_rule_50 : decode cX11_rule 50 = .ok (.ireturn, 1) := by decide +kernel
theorem dX11_rule_51 : decode cX11_rule 51 = .ok (.aload_n 0, 1) := by decide +kernel
theorem dX11_rule_52 : decode cX11_rule 52 = .ok (.getfield 7, 3) := by decide +kernel
theorem dX11_rule_55 : decode cX11_rule 55 = .ok (.sipush 240, 3) := by decide +kernel
theorem dX11_rule_58 : decode cX11_rule 58 = .ok (.iaload, 1) := by decide +kernel
theorem dX11_rule_59 : decode cX11_rule 59 = .ok (.bipush 8, 2) := by decide +kernel
theorem dX11_rule_61 : decode cX11_rule 61 = .ok (.if_icmp .ne 6, 3) := by decide +kernel
theorem dX11_rule_64 : decode cX11_rule 64 = .ok (.bipush (-4), 2) := by decide +kernel
theorem dX11_rule_66 : decode cX11_rule 66 = .ok (.ireturn, 1) := by decide +kernel
theorem dX11_rule_67 : decode cX11_rule 67 = .ok (.sipush 150, 3) := by decide +kernel
theorem dX11_rule_70 : decode cX11_rule 70 = .ok (.iconst 4, 1) := by decide +kernel
theorem dX11_rule_71 : decode cX11_rule 71 = .ok (.aload_n 0, 1) := by decide +kernel
theorem dX11_rule_72 : decode cX11_rule 72 = .ok (.getfield 7, 3) := by decide +kernel
theorem dX11_rule_75 : decode cX11_rule 75 = .ok (.sipush 240, 3) := by decide +kernel
theorem dX11_rule_78 : decode cX11_rule 78 = .ok (.iaload, 1) := by decide +kernel
theorem dX11_rule_79 : decode cX11_rule 79 = .ok (.imul, 1) := by decide +kernel
theorem dX11_rule_80 : decode cX11_rule 80 = .ok (.iadd, 1) := by decide +kernel
theorem dX11_rule_81 : decode cX11_rule 81 = .ok (.istore 5, 2) := by decide +kernel
theorem dX11_rule_83 : decode cX11_rule 83 = .ok (.aload_n 0, 1) := by decide +kernel
theorem dX11_rule_84 : decode cX11_rule 84 = .ok (.getfield 7, 3) := by decide +kernel
theorem dX11_rule_87 : decode cX11_rule 87 = .ok (.iload 5, 2) := by decide +kernel
theorem dX11_rule_89 : decode cX11_rule 89 = .ok (.iload_n 1, 1) := by decide +kernel
theorem dX11_rule_90 : decode cX11_rule 90 = .ok (.iastore, 1) := by decide +kernel
theorem dX11_rule_91 : decode cX11_rule 91 = .ok (.aload_n 0, 1) := by decide +kernel
theorem dX11_rule_92 : decode cX11_rule 92 = .ok (.getfield 7, 3) := by decide +kernel
theorem dX11_rule_95 : decode cX11_rule 95 = .ok (.iload 5, 2) := by decide +kernel
theorem dX11_rule_97 : decode cX11_rule 97 = .ok (.iconst 1, 1) := by decide +kernel
theorem dX11_rule_98 : decode cX11_rule 98 = .ok (.iadd, 1) := by decide +kernel
theorem dX11_rule_99 : decode cX11_rule 99 = .ok (.iload_n 2, 1) := by decide +kernel
theorem dX11_rule_100 : decode cX11_rule 100 = .ok (.iastore, 1) := by decide +kernel
theorem dX11_rule_101 : decode cX11_rule 101 = .ok (.aload_n 0, 1) := by decide +kernel
theorem dX11_rule_102 : decode cX11_rule 102 = .ok (.getfield 7, 3) := by decide +kernel
theorem dX11_rule_105 : decode cX11_rule 105 = .ok (.iload 5, 2) := by decide +kernel
theorem dX11_rule_107 : decode cX11_rule 107 = .ok (.iconst 2, 1) := by decide +kernel
theorem dX11_rule_108 : decode cX11_rule 108 = .ok (.iadd, 1) := by decide +kernel
theorem dX11_rule_109 : decode cX11_rule 109 = .ok (.iload_n 3, 1) := by decide +kernel
theorem dX11_rule_110 : decode cX11_rule 110 = .ok (.iastore, 1) := by decide +kernel
theorem dX11_rule_111 : decode cX11_rule 111 = .ok (.aload_n 0, 1) := by decide +kernel
theorem dX11_rule_112 : decode cX11_rule 112 = .ok (.getfield 7, 3) := by decide +kernel
theorem dX11_rule_115 : decode cX11_rule 115 = .ok (.iload 5, 2) := by decide +kernel
theorem dX11_rule_117 : decode cX11_rule 117 = .ok (.iconst 3, 1) := by decide +kernel
theorem dX11_rule_118 : decode cX11_rule 118 = .ok (.iadd, 1) := by decide +kernel
theorem dX11_rule_119 : decode cX11_rule 119 = .ok (.iload 4, 2) := by decide +kernel
theorem dX11_rule_121 : decode cX11_rule 121 = .ok (.iastore, 1) := by decide +kernel
theorem dX11_rule_122 : decode cX11_rule 122 = .ok (.aload_n 0, 1) := by decide +kernel
theorem dX11_rule_123 : decode cX11_rule 123 = .ok (.getfield 7, 3) := by decide +kernel
theorem dX11_rule_126 : decode cX11_rule 126 = .ok (.sipush 240, 3) := by decide +kernel
theorem dX11_rule_129 : decode cX11_rule 129 = .ok (.dup2, 1) := by decide +kernel
theorem dX11_rule_130 : decode cX11_rule 130 = .ok (.iaload, 1) := by decide +kernel
theorem dX11_rule_131 : decode cX11_rule 131 = .ok (.iconst 1, 1) := by decide +kernel
theorem dX11_rule_132 : decode cX11_rule 132 = .ok (.iadd, 1) := by decide +kernel
theorem dX11_rule_133 : decode cX11_rule 133 = .ok (.iastore, 1) := by decide +kernel
theorem dX11_rule_134 : decode cX11_rule 134 = .ok (.aload_n 0, 1) := by decide +kernel
theorem dX11_rule_135 : decode cX11_rule 135 = .ok (.getfield 7, 3) := by decide +kernel
theorem dX11_rule_138 : decode cX11_rule 138 = .ok (.sipush 240, 3) := by decide +kernel
theorem dX11_rule_141 : decode cX11_rule 141 = .ok (.iaload, 1) := by decide +kernel
theorem dX11_rule_142 : decode cX11_rule 142 = .ok (.iconst 1, 1) := by decide +kernel
theorem dX11_rule_143 : decode cX11_rule 143 = .ok (.isub, 1) := by decide +kernel
theorem dX11_rule_144 : decode cX11_rule 144 = .ok (.ireturn, 1) := by decide +kernel
theorem dX11_ruleOf_0 : decode cX11_ruleOf 0 = .ok (.aload_n 0, 1) := by decide +kernel
theorem dX11_ruleOf_1 : decode cX11_ruleOf 1 = .ok (.iload_n 1, 1) := by decide +kernel
theorem dX11_ruleOf_2 : decode cX11_ruleOf 2 = .ok (.invokevirtual 189, 3) := by decide +kernel
theorem dX11_ruleOf_5 : decode cX11_ruleOf 5 = .ok (.ifCond .eq 23, 3) := by decide +kernel
theorem dX11_ruleOf_8 : decode cX11_ruleOf 8 = .ok (.iload_n 2, 1) := by decide +kernel
theorem dX11_ruleOf_9 : decode cX11_ruleOf 9 = .ok (.iconst 0, 1) := by decide +kernel
theorem dX11_ruleOf_10 : decode cX11_ruleOf 10 = .ok (.iconst 1, 1) := by decide +kernel
theorem dX11_ruleOf_11 : decode cX11_ruleOf 11 = .ok (.invokestatic 84, 3) := by decide +kernel
theorem dX11_ruleOf_14 : decode cX11_ruleOf 14 = .ok (.ifCond .eq 14, 3) := by decide +kernel
theorem dX11_ruleOf_17 : decode cX11_ruleOf 17 = .ok (.aload_n 0, 1) := by decide +kernel
theorem dX11_ruleOf_18 : decode cX11_ruleOf 18 = .ok (.iload_n 1, 1) := by decide +kernel
theorem dX11_ruleOf_19 : decode cX11_ruleOf 19 = .ok (.iconst 3, 1) := by decide +kernel
theorem dX11_ruleOf_20 : decode cX11_ruleOf 20 = .ok (.iload_n 2, 1) := by decide +kernel
theorem dX11_ruleOf_21 : decode cX11_ruleOf 21 = .ok (.imul, 1) := by decide +kernel
theorem dX11_ruleOf_22 : decode cX11_ruleOf 22 = .ok (.invokevirtual 192, 3) := by decide +kernel
theorem dX11_ruleOf_25 : decode cX11_ruleOf 25 = .ok (.goto 5, 3) := by decide +kernel
theorem dX11_ruleOf_28 : decode cX11_ruleOf 28 = .ok (.bipush (-2), 2) := by decide +kernel
theorem dX11_ruleOf_30 : decode cX11_ruleOf 30 = .ok (.ireturn, 1) := by decide +kernel
theorem dX11_unrule_0 : decode cX11_unrule 0 = .ok (.aload_n 0, 1) := by decide +kernel
theorem dX11_unrule_1 : decode cX11_unrule 1 = .ok (.iload_n 1, 1) := by decide +kernel
theorem dX11_unrule_2 : decode cX11_unrule 2 = .ok (.invokevirtual 189, 3) := by decide +kernel
theorem dX11_unrule_5 : decode cX11_unrule 5 = .ok (.ifCond .ne 6, 3) := by decide +kernel
theorem dX11_unrule_8 : decode cX11_unrule 8 = .ok (.bipush (-2), 2) := by decide +kernel
theorem dX11_unrule_10 : decode cX11_unrule 10 = .ok (.ireturn, 1) := by decide +kernel
theorem dX11_unrule_11 : decode cX11_unrule 11 = .ok (.aload_n 0, 1) := by decide +kernel
theorem dX11_unrule_12 : decode cX11_unrule 12 = .ok (.sipush 150, 3) := by decide +kernel
theorem dX11_unrule_15 : decode cX11_unrule 15 = .ok (.iconst 4, 1) := by decide +kernel
theorem dX11_unrule_16 : decode cX11_unrule 16 = .ok (.sipush 240, 3) := by decide +kernel
theorem dX11_unrule_19 : decode cX11_unrule 19 = .ok (.iload_n 1, 1) := by decide +kernel
theorem dX11_unrule_20 : decode cX11_unrule 20 = .ok (.invokevirtual 186, 3) := by decide +kernel
theorem dX11_unrule_23 : decode cX11_unrule 23 = .ok (.aload_n 0, 1) := by decide +kernel
theorem dX11_unrule_24 : decode cX11_unrule 24 = .ok (.getfield 7, 3) := by decide +kernel
theorem dX11_unrule_27 : decode cX11_unrule 27 = .ok (.sipush 240, 3) := by decide +kernel
theorem dX11_unrule_30 : decode cX11_unrule 30 = .ok (.iaload, 1) := by decide +kernel
theorem dX11_unrule_31 : decode cX11_unrule 31 = .ok (.ireturn, 1) := by decide +kernel
theorem dX11_choice_0 : decode cX11_choice 0 = .ok (.iload_n 1, 1) := by decide +kernel
theorem dX11_choice_1 : decode cX11_choice 1 = .ok (.iconst 0, 1) := by decide +kernel
theorem dX11_choice_2 : decode cX11_choice 2 = .ok (.iconst 1, 1) := by decide +kernel
theorem dX11_choice_3 : decode cX11_choice 3 = .ok (.invokestatic 84, 3) := by decide +kernel
theorem dX11_choice_6 : decode cX11_choice 6 = .ok (.ifCond .eq 12, 3) := by decide +kernel
theorem dX11_choice_9 : decode cX11_choice 9 = .ok (.iload_n 2, 1) := by decide +kernel
theorem dX11_choice_10 : decode cX11_choice 10 = .ok (.iconst 0, 1) := by decide +kernel
theorem dX11_choice_11 : decode cX11_choice 11 = .ok (.iconst 1, 1) := by decide +kernel
theorem dX11_choice_12 : decode cX11_choice 12 = .ok (.invokestatic 84, 3) := by decide +kernel
theorem dX11_choice_15 : decode cX11_choice 15 = .ok (.ifCond .ne 6, 3) := by decide +kernel
theorem dX11_choice_18 : decode cX11_choice 18 = .ok (.bipush (-2), 2) := by decide +kernel
theorem dX11_choice_20 : decode cX11_choice 20 = .ok (.ireturn, 1) := by decide +kernel
theorem dX11_choice_21 : decode cX11_choice 21 = .ok (.aload_n 0, 1) := by decide +kernel
theorem dX11_choice_22 : decode cX11_choice 22 = .ok (.getfield 7, 3) := by decide +kernel
theorem dX11_choice_25 : decode cX11_choice 25 = .ok (.sipush 242, 3) := by decide +kernel
theorem dX11_choice_28 : decode cX11_choice 28 = .ok (.iload_n 1, 1) := by decide +kernel
theorem dX11_choice_29 : decode cX11_choice 29 = .ok (.iadd, 1) := by decide +kernel
theorem dX11_choice_30 : decode cX11_choice 30 = .ok (.iaload, 1) := by decide +kernel
theorem dX11_choice_31 : decode cX11_choice 31 = .ok (.istore_n 3, 1) := by decide +kernel
theorem dX11_choice_32 : decode cX11_choice 32 = .ok (.aload_n 0, 1) := by decide +kernel
theorem dX11_choice_33 : decode cX11_choice 33 = .ok (.getfield 7, 3) := by decide +kernel
theorem dX11_choice_36 : decode cX11_choice 36 = .ok (.sipush 242, 3) := by decide +kernel
theorem dX11_choice_39 : decode cX11_choice 39 = .ok (.iload_n 1, 1) := by decide +kernel
theorem dX11_choice_40 : decode cX11_choice 40 = .ok (.iadd, 1) := by decide +kernel
theorem dX11_choice_41 : decode cX11_choice 41 = .ok (.iload_n 2, 1) := by decide +kernel
theorem dX11_choice_42 : decode cX11_choice 42 = .ok (.iastore, 1) := by decide +kernel
theorem dX11_choice_43 : decode cX11_choice 43 = .ok (.iload_n 3, 1) := by decide +kernel
theorem dX11_choice_44 : decode cX11_choice 44 = .ok (.ireturn, 1) := by decide +kernel
theorem dX11_isWatcher_0 : decode cX11_isWatcher 0 = .ok (.iload_n 1, 1) := by decide +kernel
theorem dX11_isWatcher_1 : decode cX11_isWatcher 1 = .ok (.iconst 0, 1) := by decide +kernel
theorem dX11_isWatcher_2 : decode cX11_isWatcher 2 = .ok (.aload_n 0, 1) := by decide +kernel
theorem dX11_isWatcher_3 : decode cX11_isWatcher 3 = .ok (.getfield 7, 3) := by decide +kernel
theorem dX11_isWatcher_6 : decode cX11_isWatcher 6 = .ok (.sipush 241, 3) := by decide +kernel
theorem dX11_isWatcher_9 : decode cX11_isWatcher 9 = .ok (.iaload, 1) := by decide +kernel
theorem dX11_isWatcher_10 : decode cX11_isWatcher 10 = .ok (.iconst 1, 1) := by decide +kernel
theorem dX11_isWatcher_11 : decode cX11_isWatcher 11 = .ok (.isub, 1) := by decide +kernel
theorem dX11_isWatcher_12 : decode cX11_isWatcher 12 = .ok (.invokestatic 84, 3) := by decide +kernel
theorem dX11_isWatcher_15 : decode cX11_isWatcher 15 = .ok (.ireturn, 1) := by decide +kernel
theorem dX11_watch_0 : decode cX11_watch 0 = .ok (.iload_n 1, 1) := by decide +kernel
theorem dX11_watch_1 : decode cX11_watch 1 = .ok (.iconst 0, 1) := by decide +kernel
theorem dX11_watch_2 : decode cX11_watch 2 = .ok (.iconst 1, 1) := by decide +kernel
theorem dX11_watch_3 : decode cX11_watch 3 = .ok (.invokestatic 84, 3) := by decide +kernel
theorem dX11_watch_6 : decode cX11_watch 6 = .ok (.ifCond .eq 43, 3) := by decide +kernel
theorem dX11_watch_9 : decode cX11_watch 9 = .ok (.iload_n 2, 1) := by decide +kernel
theorem dX11_watch_10 : decode cX11_watch 10 = .ok (.iconst 0, 1) := by decide +kernel
theorem dX11_watch_11 : decode cX11_watch 11 = .ok (.iconst 2, 1) := by decide +kernel
theorem dX11_watch_12 : decode cX11_watch 12 = .ok (.invokestatic 84, 3) := by decide +kernel
theorem dX11_watch_15 : decode cX11_watch 15 = .ok (.ifCond .eq 34, 3) := by decide +kernel
theorem dX11_watch_18 : decode cX11_watch 18 = .ok (.iload_n 3, 1) := by decide +kernel
theorem dX11_watch_19 : decode cX11_watch 19 = .ok (.iconst 0, 1) := by decide +kernel
theorem dX11_watch_20 : decode cX11_watch 20 = .ok (.iconst 2, 1) := by decide +kernel
theorem dX11_watch_21 : decode cX11_watch 21 = .ok (.invokestatic 84, 3) := by decide +kernel
theorem dX11_watch_24 : decode cX11_watch 24 = .ok (.ifCond .eq 25, 3) := by decide +kernel
theorem dX11_watch_27 : decode cX11_watch 27 = .ok (.iload 4, 2) := by decide +kernel
theorem dX11_watch_29 : decode cX11_watch 29 = .ok (.iconst (-1), 1) := by decide +kernel
theorem dX11_watch_30 : decode cX11_watch 30 = .ok (.bipush 7, 2) := by decide +kernel
theorem dX11_watch_32 : decode cX11_watch 32 = .ok (.invokestatic 84, 3) := by decide +kernel
theorem dX11_watch_35 : decode cX11_watch 35 = .ok (.ifCond .eq 14, 3) := by decide +kernel
theorem dX11_watch_38 : decode cX11_watch 38 = .ok (.iload 5, 2) := by decide +kernel
theorem dX11_watch_40 : decode cX11_watch 40 = .ok (.iconst 0, 1) := by decide +kernel
theorem dX11_watch_41 : decode cX11_watch 41 = .ok (.bipush 9, 2) := by decide +kernel
theorem dX11_watch_43 : decode cX11_watch 43 = .ok (.invokestatic 84, 3) := by decide +kernel
theorem dX11_watch_46 : decode cX11_watch 46 = .ok (.ifCond .ne 6, 3) := by decide +kernel
theorem dX11_watch_49 : decode cX11_watch 49 = .ok (.bipush (-2), 2) := by decide +kernel
theorem dX11_watch_51 : decode cX11_watch 51 = .ok (.ireturn, 1) := by decide +kernel
theorem dX11_watch_52 : decode cX11_watch 52 = .ok (.aload_n 0, 1) := by decide +kernel
theorem dX11_watch_53 : decode cX11_watch 53 = .ok (.getfield 7, 3) := by decide +kernel
theorem dX11_watch_56 : decode cX11_watch 56 = .ok (.sipush 241, 3) := by decide +kernel
theorem dX11_watch_59 : decode cX11_watch 59 = .ok (.iaload, 1) := by decide +kernel
theorem dX11_watch_60 : decode cX11_watch 60 = .ok (.bipush 8, 2) := by decide +kernel
theorem dX11_watch_62 : decode cX11_watch 62 = .ok (.if_icmp .ne 6, 3) := by decide +kernel
theorem dX11_watch_65 : decode cX11_watch 65 = .ok (.bipush (-4), 2) := by decide +kernel
theorem dX11_watch_67 : decode cX11_watch 67 = .ok (.ireturn, 1) := by decide +kernel
theorem dX11_watch_68 : decode cX11_watch 68 = .ok (.sipush 182, 3) := by decide +kernel
theorem dX11_watch_71 : decode cX11_watch 71 = .ok (.bipush 7, 2) := by decide +kernel
theorem dX11_watch_73 : decode cX11_watch 73 = .ok (.aload_n 0, 1) := by decide +kernel
theorem dX11_watch_74 : decode cX11_watch 74 = .ok (.getfield 7, 3) := by decide +kernel
theorem dX11_watch_77 : decode cX11_watch 77 = .ok (.sipush 241, 3) := by decide +kernel
theorem dX11_watch_80 : decode cX11_watch 80 = .ok (.iaload, 1) := by decide +kernel
theorem dX11_watch_81 : decode cX11_watch 81 = .ok (.imul, 1) := by decide +kernel
theorem dX11_watch_82 : decode cX11_watch 82 = .ok (.iadd, 1) := by decide +kernel
theorem dX11_watch_83 : decode cX11_watch 83 = .ok (.istore 6, 2) := by decide +kernel
theorem dX11_watch_85 : decode cX11_watch 85 = .ok (.aload_n 0, 1) := by decide +kernel
theorem dX11_watch_86 : decode cX11_watch 86 = .ok (.getfield 7, 3) := by decide +kernel
theorem dX11_watch_89 : decode cX11_watch 89 = .ok (.iload 6, 2) := by decide +kernel
theorem dX11_watch_91 : decode cX11_watch 91 = .ok (.iload_n 1, 1) := by decide +kernel
theorem dX11_watch_92 : decode cX11_watch 92 = .ok (.iastore, 1) := by decide +kernel
theorem dX11_watch_93 : decode cX11_watch 93 = .ok (.aload_n 0, 1) := by decide +kernel
theorem dX11_watch_94 : decode cX11_watch 94 = .ok (.getfield 7, 3) := by decide +kernel
theorem dX11_watch_97 : decode cX11_watch 97 = .ok (.iload 6, 2) := by decide +kernel
theorem dX11_watch_99 : decode cX11_watch 99 = .ok (.iconst 1, 1) := by decide +kernel
theorem dX11_watch_100 : decode cX11_watch 100 = .ok (.iadd, 1) := by decide +kernel
theorem dX11_watch_101 : decode cX11_watch 101 = .ok (.iload_n 2, 1) := by decide +kernel
theorem dX11_watch_102 : decode cX11_watch 102 = .ok (.iastore, 1) := by decide +kernel
theorem dX11_watch_103 : decode cX11_watch 103 = .ok (.aload_n 0, 1) := by decide +kernel
theorem dX11_watch_104 : decode cX11_watch 104 = .ok (.getfield 7, 3) := by decide +kernel
theorem dX11_watch_107 : decode cX11_watch 107 = .ok (.iload 6, 2) := by decide +kernel
theorem dX11_watch_109 : decode cX11_watch 109 = .ok (.iconst 2, 1) := by decide +kernel
theorem dX11_watch_110 : decode cX11_watch 110 = .ok (.iadd, 1) := by decide +kernel
theorem dX11_watch_111 : decode cX11_watch 111 = .ok (.iload_n 3, 1) := by decide +kernel
theorem dX11_watch_112 : decode cX11_watch 112 = .ok (.iastore, 1) := by decide +kernel
theorem dX11_watch_113 : decode cX11_watch 113 = .ok (.aload_n 0, 1) := by decide +kernel
theorem dX11_watch_114 : decode cX11_watch 114 = .ok (.getfield 7, 3) := by decide +kernel
theorem dX11_watch_117 : decode cX11_watch 117 = .ok (.iload 6, 2) := by decide +kernel
theorem dX11_watch_119 : decode cX11_watch 119 = .ok (.iconst 3, 1) := by decide +kernel
theorem dX11_watch_120 : decode cX11_watch 120 = .ok (.iadd, 1) := by decide +kernel
theorem dX11_watch_121 : decode cX11_watch 121 = .ok (.iload 4, 2) := by decide +kernel
theorem dX11_watch_123 : decode cX11_watch 123 = .ok (.iastore, 1) := by decide +kernel
theorem dX11_watch_124 : decode cX11_watch 124 = .ok (.aload_n 0, 1) := by decide +kernel
theorem dX11_watch_125 : decode cX11_watch 125 = .ok (.getfield 7, 3) := by decide +kernel
theorem dX11_watch_128 : decode cX11_watch 128 = .ok (.iload 6, 2) := by decide +kernel
theorem dX11_watch_130 : decode cX11_watch 130 = .ok (.iconst 4, 1) := by decide +kernel
theorem dX11_watch_131 : decode cX11_watch 131 = .ok (.iadd, 1) := by decide +kernel
theorem dX11_watch_132 : decode cX11_watch 132 = .ok (.iload 5, 2) := by decide +kernel
theorem dX11_watch_134 : decode cX11_watch 134 = .ok (.iastore, 1) := by decide +kernel
theorem dX11_watch_135 : decode cX11_watch 135 = .ok (.aload_n 0, 1) := by decide +kernel
theorem dX11_watch_136 : decode cX11_watch 136 = .ok (.getfield 7, 3) := by decide +kernel
theorem dX11_watch_139 : decode cX11_watch 139 = .ok (.iload 6, 2) := by decide +kernel
theorem dX11_watch_141 : decode cX11_watch 141 = .ok (.iconst 5, 1) := by decide +kernel
theorem dX11_watch_142 : decode cX11_watch 142 = .ok (.iadd, 1) := by decide +kernel
theorem dX11_watch_143 : decode cX11_watch 143 = .ok (.iconst 0, 1) := by decide +kernel
theorem dX11_watch_144 : decode cX11_watch 144 = .ok (.iastore, 1) := by decide +kernel
theorem dX11_watch_145 : decode cX11_watch 145 = .ok (.aload_n 0, 1) := by decide +kernel
theorem dX11_watch_146 : decode cX11_watch 146 = .ok (.getfield 7, 3) := by decide +kernel
theorem dX11_watch_149 : decode cX11_watch 149 = .ok (.iload 6, 2) := by decide +kernel
theorem dX11_watch_151 : decode cX11_watch 151 = .ok (.bipush 6, 2) := by decide +kernel
theorem dX11_watch_153 : decode cX11_watch 153 = .ok (.iadd, 1) := by decide +kernel
theorem dX11_watch_154 : decode cX11_watch 154 = .ok (.iconst 0, 1) := by decide +kernel
theorem dX11_watch_155 : decode cX11_watch 155 = .ok (.iastore, 1) := by decide +kernel
theorem dX11_watch_156 : decode cX11_watch 156 = .ok (.aload_n 0, 1) := by decide +kernel
theorem dX11_watch_157 : decode cX11_watch 157 = .ok (.getfield 7, 3) := by decide +kernel
theorem dX11_watch_160 : decode cX11_watch 160 = .ok (.sipush 241, 3) := by decide +kernel
theorem dX11_watch_163 : decode cX11_watch 163 = .ok (.dup2, 1) := by decide +kernel
theorem dX11_watch_164 : decode cX11_watch 164 = .ok (.iaload, 1) := by decide +kernel
theorem dX11_watch_165 : decode cX11_watch 165 = .ok (.iconst 1, 1) := by decide +kernel
theorem dX11_watch_166 : decode cX11_watch 166 = .ok (.iadd, 1) := by decide +kernel
theorem dX11_watch_167 : decode cX11_watch 167 = .ok (.iastore, 1) := by decide +kernel
theorem dX11_watch_168 : decode cX11_watch 168 = .ok (.aload_n 0, 1) := by decide +kernel
theorem dX11_watch_169 : decode cX11_watch 169 = .ok (.getfield 7, 3) := by decide +kernel
theorem dX11_watch_172 : decode cX11_watch 172 = .ok (.sipush 241, 3) := by decide +kernel
theorem dX11_watch_175 : decode cX11_watch 175 = .ok (.iaload, 1) := by decide +kernel
theorem dX11_watch_176 : decode cX11_watch 176 = .ok (.iconst 1, 1) := by decide +kernel
theorem dX11_watch_177 : decode cX11_watch 177 = .ok (.isub, 1) := by decide +kernel
theorem dX11_watch_178 : decode cX11_watch 178 = .ok (.ireturn, 1) := by decide +kernel
theorem dX11_watches_0 : decode cX11_watches 0 = .ok (.aload_n 0, 1) := by decide +kernel
theorem dX11_watches_1 : decode cX11_watches 1 = .ok (.iload_n 1, 1) := by decide +kernel
theorem dX11_watches_2 : decode cX11_watches 2 = .ok (.invokevirtual 195, 3) := by decide +kernel
theorem dX11_watches_5 : decode cX11_watches 5 = .ok (.ifCond .eq 11, 3) := by decide +kernel
theorem dX11_watches_8 : decode cX11_watches 8 = .ok (.iload_n 2, 1) := by decide +kernel
theorem dX11_watches_9 : decode cX11_watches 9 = .ok (.iload_n 3, 1) := by decide +kernel
theorem dX11_watches_10 : decode cX11_watches 10 = .ok (.invokestatic 173, 3) := by decide +kernel
theorem dX11_watches_13 : decode cX11_watches 13 = .ok (.ifCond .ne 6, 3) := by decide +kernel
theorem dX11_watches_16 : decode cX11_watches 16 = .ok (.bipush (-2), 2) := by decide +kernel
theorem dX11_watches_18 : decode cX11_watches 18 = .ok (.ireturn, 1) := by decide +kernel
theorem dX11_watches_19 : decode cX11_watches 19 = .ok (.aload_n 0, 1) := by decide +kernel
theorem dX11_watches_20 : decode cX11_watches 20 = .ok (.iload_n 1, 1) := by decide +kernel
theorem dX11_watches_21 : decode cX11_watches 21 = .ok (.iconst 5, 1) := by decide +kernel
theorem dX11_watches_22 : decode cX11_watches 22 = .ok (.invokevirtual 139, 3) := by decide +kernel
theorem dX11_watches_25 : decode cX11_watches 25 = .ok (.istore 4, 2) := by decide +kernel
theorem dX11_watches_27 : decode cX11_watches 27 = .ok (.aload_n 0, 1) := by decide +kernel
theorem dX11_watches_28 : decode cX11_watches 28 = .ok (.getfield 7, 3) := by decide +kernel
theorem dX11_watches_31 : decode cX11_watches 31 = .ok (.sipush 182, 3) := by decide +kernel
theorem dX11_watches_34 : decode cX11_watches 34 = .ok (.bipush 7, 2) := by decide +kernel
theorem dX11_watches_36 : decode cX11_watches 36 = .ok (.iload_n 1, 1) := by decide +kernel
theorem dX11_watches_37 : decode cX11_watches 37 = .ok (.imul, 1) := by decide +kernel
theorem dX11_watches_38 : decode cX11_watches 38 = .ok (.iadd, 1) := by decide +kernel
theorem dX11_watches_39 : decode cX11_watches 39 = .ok (.iconst 5, 1) := by decide +kernel
theorem dX11_watches_40 : decode cX11_watches 40 = .ok (.iadd, 1) := by decide +kernel
theorem dX11_watches_41 : decode cX11_watches 41 = .ok (.iload_n 2, 1) := by decide +kernel
theorem dX11_watches_42 : decode cX11_watches 42 = .ok (.iastore, 1) := by decide +kernel
theorem dX11_watches_43 : decode cX11_watches 43 = .ok (.aload_n 0, 1) := by decide +kernel
theorem dX11_watches_44 : decode cX11_watches 44 = .ok (.getfield 7, 3) := by decide +kernel
theorem dX11_watches_47 : decode cX11_watches 47 = .ok (.sipush 182, 3) := by decide +kernel
theorem dX11_watches_50 : decode cX11_watches 50 = .ok (.bipush 7, 2) := by decide +kernel
theorem dX11_watches_52 : decode cX11_watches 52 = .ok (.iload_n 1, 1) := by decide +kernel
theorem dX11_watches_53 : decode cX11_watches 53 = .ok (.imul, 1) := by decide +kernel
theorem dX11_watches_54 : decode cX11_watches 54 = .ok (.iadd, 1) := by decide +kernel
theorem dX11_watches_55 : decode cX11_watches 55 = .ok (.bipush 6, 2) := by decide +kernel
theorem dX11_watches_57 : decode cX11_watches 57 = .ok (.iadd, 1) := by decide +kernel
theorem dX11_watches_58 : decode cX11_watches 58 = .ok (.iload_n 3, 1) := by decide +kernel
theorem dX11_watches_59 : decode cX11_watches 59 = .ok (.iastore, 1) := by decide +kernel
theorem dX11_watches_60 : decode cX11_watches 60 = .ok (.iload 4, 2) := by decide +kernel
theorem dX11_watches_62 : decode cX11_watches 62 = .ok (.ireturn, 1) := by decide +kernel
theorem dX11_unwatch_0 : decode cX11_unwatch 0 = .ok (.aload_n 0, 1) := by decide +kernel
theorem dX11_unwatch_1 : decode cX11_unwatch 1 = .ok (.iload_n 1, 1) := by decide +kernel
theorem dX11_unwatch_2 : decode cX11_unwatch 2 = .ok (.invokevirtual 195, 3) := by decide +kernel
theorem dX11_unwatch_5 : decode cX11_unwatch 5 = .ok (.ifCond .ne 6, 3) := by decide +kernel
theorem dX11_unwatch_8 : decode cX11_unwatch 8 = .ok (.bipush (-2), 2) := by decide +kernel
theorem dX11_unwatch_10 : decode cX11_unwatch 10 = .ok (.ireturn, 1) := by decide +kernel
theorem dX11_unwatch_11 : decode cX11_unwatch 11 = .ok (.aload_n 0, 1) := by decide +kernel
theorem dX11_unwatch_12 : decode cX11_unwatch 12 = .ok (.sipush 182, 3) := by decide +kernel
theorem dX11_unwatch_15 : decode cX11_unwatch 15 = .ok (.bipush 7, 2) := by decide +kernel
theorem dX11_unwatch_17 : decode cX11_unwatch 17 = .ok (.sipush 241, 3) := by decide +kernel
theorem dX11_unwatch_20 : decode cX11_unwatch 20 = .ok (.iload_n 1, 1) := by decide +kernel
theorem dX11_unwatch_21 : decode cX11_unwatch 21 = .ok (.invokevirtual 186, 3) := by decide +kernel
theorem dX11_unwatch_24 : decode cX11_unwatch 24 = .ok (.aload_n 0, 1) := by decide +kernel
theorem dX11_unwatch_25 : decode cX11_unwatch 25 = .ok (.getfield 7, 3) := by decide +kernel
theorem dX11_unwatch_28 : decode cX11_unwatch 28 = .ok (.sipush 241, 3) := by decide +kernel
theorem dX11_unwatch_31 : decode cX11_unwatch 31 = .ok (.iaload, 1) := by decide +kernel
theorem dX11_unwatch_32 : decode cX11_unwatch 32 = .ok (.ireturn, 1) := by decide +kernel
theorem dX11_ruleFor_0 : decode cX11_ruleFor 0 = .ok (.iconst (-1), 1) := by decide +kernel
theorem dX11_ruleFor_1 : decode cX11_ruleFor 1 = .ok (.istore_n 1, 1) := by decide +kernel
theorem dX11_ruleFor_2 : decode cX11_ruleFor 2 = .ok (.iconst 0, 1) := by decide +kernel
theorem dX11_ruleFor_3 : decode cX11_ruleFor 3 = .ok (.istore_n 2, 1) := by decide +kernel
theorem dX11_ruleFor_4 : decode cX11_ruleFor 4 = .ok (.iload_n 2, 1) := by decide +kernel
theorem dX11_ruleFor_5 : decode cX11_ruleFor 5 = .ok (.aload_n 0, 1) := by decide +kernel
theorem dX11_ruleFor_6 : decode cX11_ruleFor 6 = .ok (.getfield 7, 3) := by decide +kernel
theorem dX11_ruleFor_9 : decode cX11_ruleFor 9 = .ok (.sipush 240, 3) := by decide +kernel
theorem dX11_ruleFor_12 : decode cX11_ruleFor 12 = .ok (.iaload, 1) := by decide +kernel
theorem dX11_ruleFor_13 : decode cX11_ruleFor 13 = .ok (.if_icmp .ge 135, 3) := by decide +kernel
theorem dX11_ruleFor_16 : decode cX11_ruleFor 16 = .ok (.aload_n 0, 1) := by decide +kernel
theorem dX11_ruleFor_17 : decode cX11_ruleFor 17 = .ok (.getfield 198, 3) := by decide +kernel
theorem dX11_ruleFor_20 : decode cX11_ruleFor 20 = .ok (.iload_n 2, 1) := by decide +kernel
theorem dX11_ruleFor_21 : decode cX11_ruleFor 21 = .ok (.invokestatic 96, 3) := by decide +kernel
theorem dX11_ruleFor_24 : decode cX11_ruleFor 24 = .ok (.ifCond .ne 37, 3) := by decide +kernel
theorem dX11_ruleFor_27 : decode cX11_ruleFor 27 = .ok (.aload_n 0, 1) := by decide +kernel
theorem dX11_ruleFor_28 : decode cX11_ruleFor 28 = .ok (.aload_n 0, 1) := by decide +kernel
theorem dX11_ruleFor_29 : decode cX11_ruleFor 29 = .ok (.getfield 19, 3) := by decide +kernel
theorem dX11_ruleFor_32 : decode cX11_ruleFor 32 = .ok (.aload_n 0, 1) := by decide +kernel
theorem dX11_ruleFor_33 : decode cX11_ruleFor 33 = .ok (.iload_n 2, 1) := by decide +kernel
theorem dX11_ruleFor_34 : decode cX11_ruleFor 34 = .ok (.iconst 1, 1) := by decide +kernel
theorem dX11_ruleFor_35 : decode cX11_ruleFor 35 = .ok (.invokevirtual 192, 3) := by decide +kernel
theorem dX11_ruleFor_38 : decode cX11_ruleFor 38 = .ok (.aload_n 0, 1) := by decide +kernel
theorem dX11_ruleFor_39 : decode cX11_ruleFor 39 = .ok (.iload_n 2, 1) := by decide +kernel
theorem dX11_ruleFor_40 : decode cX11_ruleFor 40 = .ok (.iconst 2, 1) := by decide +kernel
theorem dX11_ruleFor_41 : decode cX11_ruleFor 41 = .ok (.invokevirtual 192, 3) := by decide +kernel
theorem dX11_ruleFor_44 : decode cX11_ruleFor 44 = .ok (.invokevirtual 106, 3) := by decide +kernel
theorem dX11_ruleFor_47 : decode cX11_ruleFor 47 = .ok (.aload_n 0, 1) := by decide +kernel
theorem dX11_ruleFor_48 : decode cX11_ruleFor 48 = .ok (.getfield 201, 3) := by decide +kernel
theorem dX11_ruleFor_51 : decode cX11_ruleFor 51 = .ok (.invokestatic 96, 3) := by decide +kernel
theorem dX11_ruleFor_54 : decode cX11_ruleFor 54 = .ok (.ifCond .eq 7, 3) := by decide +kernel
theorem dX11_ruleFor_57 : decode cX11_ruleFor 57 = .ok (.iconst 1, 1) := by decide +kernel
theorem dX11_ruleFor_58 : decode cX11_ruleFor 58 = .ok (.goto 4, 3) := by decide +kernel
theorem dX11_ruleFor_61 : decode cX11_ruleFor 61 = .ok (.iconst 0, 1) := by decide +kernel
theorem dX11_ruleFor_62 : decode cX11_ruleFor 62 = .ok (.istore_n 3, 1) := by decide +kernel
theorem dX11_ruleFor_63 : decode cX11_ruleFor 63 = .ok (.iload_n 3, 1) := by decide +kernel
theorem dX11_ruleFor_64 : decode cX11_ruleFor 64 = .ok (.ifCond .eq 43, 3) := by decide +kernel
theorem dX11_ruleFor_67 : decode cX11_ruleFor 67 = .ok (.aload_n 0, 1) := by decide +kernel
theorem dX11_ruleFor_68 : decode cX11_ruleFor 68 = .ok (.iload_n 2, 1) := by decide +kernel
theorem dX11_ruleFor_69 : decode cX11_ruleFor 69 = .ok (.iconst 0, 1) := by decide +kernel
theorem dX11_ruleFor_70 : decode cX11_ruleFor 70 = .ok (.invokevirtual 192, 3) := by decide +kernel
theorem dX11_ruleFor_73 : decode cX11_ruleFor 73 = .ok (.iconst 3, 1) := by decide +kernel
theorem dX11_ruleFor_74 : decode cX11_ruleFor 74 = .ok (.if_icmp .ne 29, 3) := by decide +kernel
theorem dX11_ruleFor_77 : decode cX11_ruleFor 77 = .ok (.aload_n 0, 1) := by decide +kernel
theorem dX11_ruleFor_78 : decode cX11_ruleFor 78 = .ok (.iload_n 2, 1) := by decide +kernel
theorem dX11_ruleFor_79 : decode cX11_ruleFor 79 = .ok (.iconst 3, 1) := by decide +kernel
theorem dX11_ruleFor_80 : decode cX11_ruleFor 80 = .ok (.invokevirtual 192, 3) := by decide +kernel
theorem dX11_ruleFor_83 : decode cX11_ruleFor 83 = .ok (.aload_n 0, 1) := by decide +kernel
theorem dX11_ruleFor_84 : decode cX11_ruleFor 84 = .ok (.getfield 201, 3) := by decide +kernel
theorem dX11_ruleFor_87 : decode cX11_ruleFor 87 = .ok (.if_icmp .eq 20, 3) := by decide +kernel
theorem dX11_ruleFor_90 : decode cX11_ruleFor 90 = .ok (.aload_n 0, 1) := by decide +kernel
theorem dX11_ruleFor_91 : decode cX11_ruleFor 91 = .ok (.aload_n 0, 1) := by decide +kernel
theorem dX11_ruleFor_92 : decode cX11_ruleFor 92 = .ok (.iload_n 2, 1) := by decide +kernel
theorem dX11_ruleFor_93 : decode cX11_ruleFor 93 = .ok (.iconst 3, 1) := by decide +kernel
theorem dX11_ruleFor_94 : decode cX11_ruleFor 94 = .ok (.invokevirtual 192, 3) := by decide +kernel
theorem dX11_ruleFor_97 : decode cX11_ruleFor 97 = .ok (.invokevirtual 100, 3) := by decide +kernel
theorem dX11_ruleFor_100 : decode cX11_ruleFor 100 = .ok (.ifCond .eq 7, 3) := by decide +kernel
theorem dX11_ruleFor_103 : decode cX11_ruleFor 103 = .ok (.iconst 1, 1) := by decide +kernel
theorem dX11_ruleFor_104 : decode cX11_ruleFor 104 = .ok (.goto 4, 3) := by decide +kernel
theorem dX11_ruleFor_107 : decode cX11_ruleFor 107 = .ok (.iconst 0, 1) := by decide +kernel
theorem dX11_ruleFor_108 : decode cX11_ruleFor 108 = .ok (.istore_n 3, 1) := by decide +kernel
theorem dX11_ruleFor_109 : decode cX11_ruleFor 109 = .ok (.iload_n 3, 1) := by decide +kernel
theorem dX11_ruleFor_110 : decode cX11_ruleFor 110 = .ok (.ifCond .eq 32, 3) := by decide +kernel
theorem dX11_ruleFor_113 : decode cX11_ruleFor 113 = .ok (.iload_n 1, 1) := by decide +kernel
theorem dX11_ruleFor_114 : decode cX11_ruleFor 114 = .ok (.iconst (-1), 1) := by decide +kernel
theorem dX11_ruleFor_115 : decode cX11_ruleFor 115 = .ok (.if_icmp .eq 25, 3) := by decide +kernel
theorem dX11_ruleFor_118 : decode cX11_ruleFor 118 = .ok (.aload_n 0, 1) := by decide +kernel
theorem dX11_ruleFor_119 : decode cX11_ruleFor 119 = .ok (.getfield 7, 3) := by decide +kernel
theorem dX11_ruleFor_122 : decode cX11_ruleFor 122 = .ok (.sipush 242, 3) := by decide +kernel
theorem dX11_ruleFor_125 : decode cX11_ruleFor 125 = .ok (.aload_n 0, 1) := by decide +kernel
theorem dX11_ruleFor_126 : decode cX11_ruleFor 126 = .ok (.aload_n 0, 1) := by decide +kernel
theorem dX11_ruleFor_127 : decode cX11_ruleFor 127 = .ok (.getfield 201, 3) := by decide +kernel
theorem dX11_ruleFor_130 : decode cX11_ruleFor 130 = .ok (.iconst 0, 1) := by decide +kernel
theorem dX11_ruleFor_131 : decode cX11_ruleFor 131 = .ok (.invokevirtual 92, 3) := by decide +kernel
theorem dX11_ruleFor_134 : decode cX11_ruleFor 134 = .ok (.iadd, 1) := by decide +kernel
theorem dX11_ruleFor_135 : decode cX11_ruleFor 135 = .ok (.iaload, 1) := by decide +kernel
theorem dX11_ruleFor_136 : decode cX11_ruleFor 136 = .ok (.iconst 1, 1) := by decide +kernel
theorem dX11_ruleFor_137 : decode cX11_ruleFor 137 = .ok (.if_icmp .ne 5, 3) := by decide +kernel
theorem dX11_ruleFor_140 : decode cX11_ruleFor 140 = .ok (.iload_n 2, 1) := by decide +kernel
theorem dX11_ruleFor_141 : decode cX11_ruleFor 141 = .ok (.istore_n 1, 1) := by decide +kernel
theorem dX11_ruleFor_142 : decode cX11_ruleFor 142 = .ok (.iinc 2 1, 3) := by decide +kernel
theorem dX11_ruleFor_145 : decode cX11_ruleFor 145 = .ok (.goto (-141), 3) := by decide +kernel
theorem dX11_ruleFor_148 : decode cX11_ruleFor 148 = .ok (.iload_n 1, 1) := by decide +kernel
theorem dX11_ruleFor_149 : decode cX11_ruleFor 149 = .ok (.ireturn, 1) := by decide +kernel
theorem dX11_leads_0 : decode cX11_leads 0 = .ok (.aload_n 0, 1) := by decide +kernel
theorem dX11_leads_1 : decode cX11_leads 1 = .ok (.iconst 5, 1) := by decide +kernel
theorem dX11_leads_2 : decode cX11_leads 2 = .ok (.invokevirtual 145, 3) := by decide +kernel
theorem dX11_leads_5 : decode cX11_leads 5 = .ok (.aload_n 0, 1) := by decide +kernel
theorem dX11_leads_6 : decode cX11_leads 6 = .ok (.iload_n 1, 1) := by decide +kernel
theorem dX11_leads_7 : decode cX11_leads 7 = .ok (.putfield 201, 3) := by decide +kernel
theorem dX11_leads_10 : decode cX11_leads 10 = .ok (.aload_n 0, 1) := by decide +kernel
theorem dX11_leads_11 : decode cX11_leads 11 = .ok (.iload_n 2, 1) := by decide +kernel
end
section
theorem dX11_leads_12 : decode cX11_leads 12 = .ok (.putfield 204, 3) := by decide +kernel
theorem dX11_leads_15 : decode cX11_leads 15 = .ok (.aload_n 0, 1) := by decide +kernel
theorem dX11_leads_16 : decode cX11_leads 16 = .ok (.iconst 0, 1) := by decide +kernel
theorem dX11_leads_17 : decode cX11_leads 17 = .ok (.putfield 198, 3) := by decide +kernel
theorem dX11_leads_20 : decode cX11_leads 20 = .ok (.aload_n 0, 1) := by decide +kernel
theorem dX11_leads_21 : decode cX11_leads 21 = .ok (.iconst 0, 1) := by decide +kernel
theorem dX11_leads_22 : decode cX11_leads 22 = .ok (.putfield 207, 3) := by decide +kernel
theorem dX11_leads_25 : decode cX11_leads 25 = .ok (.aload_n 0, 1) := by decide +kernel
theorem dX11_leads_26 : decode cX11_leads 26 = .ok (.iconst 0, 1) := by decide +kernel
theorem dX11_leads_27 : decode cX11_leads 27 = .ok (.putfield 210, 3) := by decide +kernel
theorem dX11_leads_30 : decode cX11_leads 30 = .ok (.aload_n 0, 1) := by decide +kernel
theorem dX11_leads_31 : decode cX11_leads 31 = .ok (.invokevirtual 213, 3) := by decide +kernel
theorem dX11_leads_34 : decode cX11_leads 34 = .ok (.istore 4, 2) := by decide +kernel
theorem dX11_leads_36 : decode cX11_leads 36 = .ok (.aload_n 0, 1) := by decide +kernel
theorem dX11_leads_37 : decode cX11_leads 37 = .ok (.getfield 204, 3) := by decide +kernel
theorem dX11_leads_40 : decode cX11_leads 40 = .ok (.ifCond .le 218, 3) := by decide +kernel
theorem dX11_leads_43 : decode cX11_leads 43 = .ok (.aload_n 0, 1) := by decide +kernel
theorem dX11_leads_44 : decode cX11_leads 44 = .ok (.getfield 210, 3) := by decide +kernel
theorem dX11_leads_47 : decode cX11_leads 47 = .ok (.ifCond .ne 211, 3) := by decide +kernel
theorem dX11_leads_50 : decode cX11_leads 50 = .ok (.iload 4, 2) := by decide +kernel
theorem dX11_leads_52 : decode cX11_leads 52 = .ok (.iconst (-1), 1) := by decide +kernel
theorem dX11_leads_53 : decode cX11_leads 53 = .ok (.if_icmp .eq 205, 3) := by decide +kernel
theorem dX11_leads_56 : decode cX11_leads 56 = .ok (.aload_n 0, 1) := by decide +kernel
theorem dX11_leads_57 : decode cX11_leads 57 = .ok (.dup, 1) := by decide +kernel
theorem dX11_leads_58 : decode cX11_leads 58 = .ok (.getfield 198, 3) := by decide +kernel
theorem dX11_leads_61 : decode cX11_leads 61 = .ok (.iconst 1, 1) := by decide +kernel
theorem dX11_leads_62 : decode cX11_leads 62 = .ok (.iload 4, 2) := by decide +kernel
theorem dX11_leads_64 : decode cX11_leads 64 = .ok (.ishl, 1) := by decide +kernel
theorem dX11_leads_65 : decode cX11_leads 65 = .ok (.ior, 1) := by decide +kernel
theorem dX11_leads_66 : decode cX11_leads 66 = .ok (.putfield 198, 3) := by decide +kernel
theorem dX11_leads_69 : decode cX11_leads 69 = .ok (.aload_n 0, 1) := by decide +kernel
theorem dX11_leads_70 : decode cX11_leads 70 = .ok (.dup, 1) := by decide +kernel
theorem dX11_leads_71 : decode cX11_leads 71 = .ok (.getfield 207, 3) := by decide +kernel
theorem dX11_leads_74 : decode cX11_leads 74 = .ok (.iconst 1, 1) := by decide +kernel
theorem dX11_leads_75 : decode cX11_leads 75 = .ok (.iadd, 1) := by decide +kernel
theorem dX11_leads_76 : decode cX11_leads 76 = .ok (.putfield 207, 3) := by decide +kernel
theorem dX11_leads_79 : decode cX11_leads 79 = .ok (.aload_n 0, 1) := by decide +kernel
theorem dX11_leads_80 : decode cX11_leads 80 = .ok (.iload 4, 2) := by decide +kernel
theorem dX11_leads_82 : decode cX11_leads 82 = .ok (.iconst 3, 1) := by decide +kernel
theorem dX11_leads_83 : decode cX11_leads 83 = .ok (.invokevirtual 192, 3) := by decide +kernel
theorem dX11_leads_86 : decode cX11_leads 86 = .ok (.istore 5, 2) := by decide +kernel
theorem dX11_leads_88 : decode cX11_leads 88 = .ok (.aload_n 0, 1) := by decide +kernel
theorem dX11_leads_89 : decode cX11_leads 89 = .ok (.iload 4, 2) := by decide +kernel
theorem dX11_leads_91 : decode cX11_leads 91 = .ok (.iconst 0, 1) := by decide +kernel
theorem dX11_leads_92 : decode cX11_leads 92 = .ok (.invokevirtual 192, 3) := by decide +kernel
theorem dX11_leads_95 : decode cX11_leads 95 = .ok (.tableswitch 149 0 3 #[29, 91, 109, 140], 29) := by decide +kernel
theorem dX11_leads_124 : decode cX11_leads 124 = .ok (.iload 5, 2) := by decide +kernel
theorem dX11_leads_126 : decode cX11_leads 126 = .ok (.aload_n 0, 1) := by decide +kernel
theorem dX11_leads_127 : decode cX11_leads 127 = .ok (.getfield 204, 3) := by decide +kernel
theorem dX11_leads_130 : decode cX11_leads 130 = .ok (.if_icmp .ge 8, 3) := by decide +kernel
theorem dX11_leads_133 : decode cX11_leads 133 = .ok (.iload 5, 2) := by decide +kernel
theorem dX11_leads_135 : decode cX11_leads 135 = .ok (.goto 7, 3) := by decide +kernel
theorem dX11_leads_138 : decode cX11_leads 138 = .ok (.aload_n 0, 1) := by decide +kernel
theorem dX11_leads_139 : decode cX11_leads 139 = .ok (.getfield 204, 3) := by decide +kernel
theorem dX11_leads_142 : decode cX11_leads 142 = .ok (.istore 6, 2) := by decide +kernel
theorem dX11_leads_144 : decode cX11_leads 144 = .ok (.aload_n 0, 1) := by decide +kernel
theorem dX11_leads_145 : decode cX11_leads 145 = .ok (.dup, 1) := by decide +kernel
theorem dX11_leads_146 : decode cX11_leads 146 = .ok (.getfield 204, 3) := by decide +kernel
theorem dX11_leads_149 : decode cX11_leads 149 = .ok (.iload 6, 2) := by decide +kernel
theorem dX11_leads_151 : decode cX11_leads 151 = .ok (.isub, 1) := by decide +kernel
theorem dX11_leads_152 : decode cX11_leads 152 = .ok (.putfield 204, 3) := by decide +kernel
theorem dX11_leads_155 : decode cX11_leads 155 = .ok (.aload_n 0, 1) := by decide +kernel
theorem dX11_leads_156 : decode cX11_leads 156 = .ok (.getfield 7, 3) := by decide +kernel
theorem dX11_leads_159 : decode cX11_leads 159 = .ok (.sipush 150, 3) := by decide +kernel
theorem dX11_leads_162 : decode cX11_leads 162 = .ok (.iconst 4, 1) := by decide +kernel
theorem dX11_leads_163 : decode cX11_leads 163 = .ok (.iload 4, 2) := by decide +kernel
theorem dX11_leads_165 : decode cX11_leads 165 = .ok (.imul, 1) := by decide +kernel
theorem dX11_leads_166 : decode cX11_leads 166 = .ok (.iadd, 1) := by decide +kernel
theorem dX11_leads_167 : decode cX11_leads 167 = .ok (.iconst 3, 1) := by decide +kernel
theorem dX11_leads_168 : decode cX11_leads 168 = .ok (.iadd, 1) := by decide +kernel
theorem dX11_leads_169 : decode cX11_leads 169 = .ok (.dup2, 1) := by decide +kernel
theorem dX11_leads_170 : decode cX11_leads 170 = .ok (.iaload, 1) := by decide +kernel
theorem dX11_leads_171 : decode cX11_leads 171 = .ok (.iload_n 3, 1) := by decide +kernel
theorem dX11_leads_172 : decode cX11_leads 172 = .ok (.ifCond .eq 8, 3) := by decide +kernel
theorem dX11_leads_175 : decode cX11_leads 175 = .ok (.iload 6, 2) := by decide +kernel
theorem dX11_leads_177 : decode cX11_leads 177 = .ok (.goto 4, 3) := by decide +kernel
theorem dX11_leads_180 : decode cX11_leads 180 = .ok (.iconst 0, 1) := by decide +kernel
theorem dX11_leads_181 : decode cX11_leads 181 = .ok (.isub, 1) := by decide +kernel
theorem dX11_leads_182 : decode cX11_leads 182 = .ok (.iastore, 1) := by decide +kernel
theorem dX11_leads_183 : decode cX11_leads 183 = .ok (.goto 66, 3) := by decide +kernel
theorem dX11_leads_186 : decode cX11_leads 186 = .ok (.aload_n 0, 1) := by decide +kernel
theorem dX11_leads_187 : decode cX11_leads 187 = .ok (.dup, 1) := by decide +kernel
theorem dX11_leads_188 : decode cX11_leads 188 = .ok (.getfield 204, 3) := by decide +kernel
theorem dX11_leads_191 : decode cX11_leads 191 = .ok (.aload_n 0, 1) := by decide +kernel
theorem dX11_leads_192 : decode cX11_leads 192 = .ok (.getfield 204, 3) := by decide +kernel
theorem dX11_leads_195 : decode cX11_leads 195 = .ok (.iconst 2, 1) := by decide +kernel
theorem dX11_leads_196 : decode cX11_leads 196 = .ok (.idiv, 1) := by decide +kernel
theorem dX11_leads_197 : decode cX11_leads 197 = .ok (.isub, 1) := by decide +kernel
theorem dX11_leads_198 : decode cX11_leads 198 = .ok (.putfield 204, 3) := by decide +kernel
theorem dX11_leads_201 : decode cX11_leads 201 = .ok (.goto 48, 3) := by decide +kernel
theorem dX11_leads_204 : decode cX11_leads 204 = .ok (.aload_n 0, 1) := by decide +kernel
theorem dX11_leads_205 : decode cX11_leads 205 = .ok (.iconst 2, 1) := by decide +kernel
theorem dX11_leads_206 : decode cX11_leads 206 = .ok (.aload_n 0, 1) := by decide +kernel
theorem dX11_leads_207 : decode cX11_leads 207 = .ok (.getfield 204, 3) := by decide +kernel
theorem dX11_leads_210 : decode cX11_leads 210 = .ok (.imul, 1) := by decide +kernel
theorem dX11_leads_211 : decode cX11_leads 211 = .ok (.sipush 999, 3) := by decide +kernel
theorem dX11_leads_214 : decode cX11_leads 214 = .ok (.if_icmp .le 9, 3) := by decide +kernel
theorem dX11_leads_217 : decode cX11_leads 217 = .ok (.sipush 999, 3) := by decide +kernel
theorem dX11_leads_220 : decode cX11_leads 220 = .ok (.goto 9, 3) := by decide +kernel
theorem dX11_leads_223 : decode cX11_leads 223 = .ok (.iconst 2, 1) := by decide +kernel
theorem dX11_leads_224 : decode cX11_leads 224 = .ok (.aload_n 0, 1) := by decide +kernel
theorem dX11_leads_225 : decode cX11_leads 225 = .ok (.getfield 204, 3) := by decide +kernel
theorem dX11_leads_228 : decode cX11_leads 228 = .ok (.imul, 1) := by decide +kernel
theorem dX11_leads_229 : decode cX11_leads 229 = .ok (.putfield 204, 3) := by decide +kernel
theorem dX11_leads_232 : decode cX11_leads 232 = .ok (.goto 17, 3) := by decide +kernel
theorem dX11_leads_235 : decode cX11_leads 235 = .ok (.aload_n 0, 1) := by decide +kernel
theorem dX11_leads_236 : decode cX11_leads 236 = .ok (.iload 5, 2) := by decide +kernel
theorem dX11_leads_238 : decode cX11_leads 238 = .ok (.putfield 201, 3) := by decide +kernel
theorem dX11_leads_241 : decode cX11_leads 241 = .ok (.goto 8, 3) := by decide +kernel
theorem dX11_leads_244 : decode cX11_leads 244 = .ok (.aload_n 0, 1) := by decide +kernel
theorem dX11_leads_245 : decode cX11_leads 245 = .ok (.iconst 1, 1) := by decide +kernel
theorem dX11_leads_246 : decode cX11_leads 246 = .ok (.putfield 210, 3) := by decide +kernel
theorem dX11_leads_249 : decode cX11_leads 249 = .ok (.aload_n 0, 1) := by decide +kernel
theorem dX11_leads_250 : decode cX11_leads 250 = .ok (.invokevirtual 213, 3) := by decide +kernel
theorem dX11_leads_253 : decode cX11_leads 253 = .ok (.istore 4, 2) := by decide +kernel
theorem dX11_leads_255 : decode cX11_leads 255 = .ok (.goto (-219), 3) := by decide +kernel
theorem dX11_leads_258 : decode cX11_leads 258 = .ok (.return_, 1) := by decide +kernel
theorem dX11_wounds_0 : decode cX11_wounds 0 = .ok (.iconst 0, 1) := by decide +kernel
theorem dX11_wounds_1 : decode cX11_wounds 1 = .ok (.bipush 10, 2) := by decide +kernel
theorem dX11_wounds_3 : decode cX11_wounds 3 = .ok (.iload_n 1, 1) := by decide +kernel
theorem dX11_wounds_4 : decode cX11_wounds 4 = .ok (.imul, 1) := by decide +kernel
theorem dX11_wounds_5 : decode cX11_wounds 5 = .ok (.iadd, 1) := by decide +kernel
theorem dX11_wounds_6 : decode cX11_wounds 6 = .ok (.iconst 4, 1) := by decide +kernel
theorem dX11_wounds_7 : decode cX11_wounds 7 = .ok (.iadd, 1) := by decide +kernel
theorem dX11_wounds_8 : decode cX11_wounds 8 = .ok (.istore_n 3, 1) := by decide +kernel
theorem dX11_wounds_9 : decode cX11_wounds 9 = .ok (.aload_n 0, 1) := by decide +kernel
theorem dX11_wounds_10 : decode cX11_wounds 10 = .ok (.getfield 7, 3) := by decide +kernel
theorem dX11_wounds_13 : decode cX11_wounds 13 = .ok (.iload_n 3, 1) := by decide +kernel
theorem dX11_wounds_14 : decode cX11_wounds 14 = .ok (.aload_n 0, 1) := by decide +kernel
theorem dX11_wounds_15 : decode cX11_wounds 15 = .ok (.getfield 7, 3) := by decide +kernel
theorem dX11_wounds_18 : decode cX11_wounds 18 = .ok (.iload_n 3, 1) := by decide +kernel
theorem dX11_wounds_19 : decode cX11_wounds 19 = .ok (.iaload, 1) := by decide +kernel
theorem dX11_wounds_20 : decode cX11_wounds 20 = .ok (.iload_n 2, 1) := by decide +kernel
theorem dX11_wounds_21 : decode cX11_wounds 21 = .ok (.iadd, 1) := by decide +kernel
theorem dX11_wounds_22 : decode cX11_wounds 22 = .ok (.ifCond .ge 7, 3) := by decide +kernel
theorem dX11_wounds_25 : decode cX11_wounds 25 = .ok (.iconst 0, 1) := by decide +kernel
theorem dX11_wounds_26 : decode cX11_wounds 26 = .ok (.goto 31, 3) := by decide +kernel
theorem dX11_wounds_29 : decode cX11_wounds 29 = .ok (.aload_n 0, 1) := by decide +kernel
theorem dX11_wounds_30 : decode cX11_wounds 30 = .ok (.getfield 7, 3) := by decide +kernel
theorem dX11_wounds_33 : decode cX11_wounds 33 = .ok (.iload_n 3, 1) := by decide +kernel
theorem dX11_wounds_34 : decode cX11_wounds 34 = .ok (.iaload, 1) := by decide +kernel
theorem dX11_wounds_35 : decode cX11_wounds 35 = .ok (.iload_n 2, 1) := by decide +kernel
theorem dX11_wounds_36 : decode cX11_wounds 36 = .ok (.iadd, 1) := by decide +kernel
theorem dX11_wounds_37 : decode cX11_wounds 37 = .ok (.sipush 999, 3) := by decide +kernel
theorem dX11_wounds_40 : decode cX11_wounds 40 = .ok (.if_icmp .le 9, 3) := by decide +kernel
theorem dX11_wounds_43 : decode cX11_wounds 43 = .ok (.sipush 999, 3) := by decide +kernel
theorem dX11_wounds_46 : decode cX11_wounds 46 = .ok (.goto 11, 3) := by decide +kernel
theorem dX11_wounds_49 : decode cX11_wounds 49 = .ok (.aload_n 0, 1) := by decide +kernel
theorem dX11_wounds_50 : decode cX11_wounds 50 = .ok (.getfield 7, 3) := by decide +kernel
theorem dX11_wounds_53 : decode cX11_wounds 53 = .ok (.iload_n 3, 1) := by decide +kernel
theorem dX11_wounds_54 : decode cX11_wounds 54 = .ok (.iaload, 1) := by decide +kernel
theorem dX11_wounds_55 : decode cX11_wounds 55 = .ok (.iload_n 2, 1) := by decide +kernel
theorem dX11_wounds_56 : decode cX11_wounds 56 = .ok (.iadd, 1) := by decide +kernel
theorem dX11_wounds_57 : decode cX11_wounds 57 = .ok (.iastore, 1) := by decide +kernel
theorem dX11_wounds_58 : decode cX11_wounds 58 = .ok (.return_, 1) := by decide +kernel
theorem dX11_hurts_0 : decode cX11_hurts 0 = .ok (.aload_n 0, 1) := by decide +kernel
theorem dX11_hurts_1 : decode cX11_hurts 1 = .ok (.iload_n 1, 1) := by decide +kernel
theorem dX11_hurts_2 : decode cX11_hurts 2 = .ok (.iload_n 2, 1) := by decide +kernel
theorem dX11_hurts_3 : decode cX11_hurts 3 = .ok (.iconst 1, 1) := by decide +kernel
theorem dX11_hurts_4 : decode cX11_hurts 4 = .ok (.invokevirtual 217, 3) := by decide +kernel
theorem dX11_hurts_7 : decode cX11_hurts 7 = .ok (.aload_n 0, 1) := by decide +kernel
theorem dX11_hurts_8 : decode cX11_hurts 8 = .ok (.getfield 210, 3) := by decide +kernel
theorem dX11_hurts_11 : decode cX11_hurts 11 = .ok (.ifCond .eq 19, 3) := by decide +kernel
theorem dX11_hurts_14 : decode cX11_hurts 14 = .ok (.aload_n 0, 1) := by decide +kernel
theorem dX11_hurts_15 : decode cX11_hurts 15 = .ok (.aload_n 0, 1) := by decide +kernel
theorem dX11_hurts_16 : decode cX11_hurts 16 = .ok (.getfield 201, 3) := by decide +kernel
theorem dX11_hurts_19 : decode cX11_hurts 19 = .ok (.aload_n 0, 1) := by decide +kernel
theorem dX11_hurts_20 : decode cX11_hurts 20 = .ok (.getfield 204, 3) := by decide +kernel
theorem dX11_hurts_23 : decode cX11_hurts 23 = .ok (.ineg, 1) := by decide +kernel
theorem dX11_hurts_24 : decode cX11_hurts 24 = .ok (.invokevirtual 221, 3) := by decide +kernel
theorem dX11_hurts_27 : decode cX11_hurts 27 = .ok (.goto 22, 3) := by decide +kernel
theorem dX11_hurts_30 : decode cX11_hurts 30 = .ok (.aload_n 0, 1) := by decide +kernel
theorem dX11_hurts_31 : decode cX11_hurts 31 = .ok (.getfield 204, 3) := by decide +kernel
theorem dX11_hurts_34 : decode cX11_hurts 34 = .ok (.ifCond .le 15, 3) := by decide +kernel
theorem dX11_hurts_37 : decode cX11_hurts 37 = .ok (.aload_n 0, 1) := by decide +kernel
theorem dX11_hurts_38 : decode cX11_hurts 38 = .ok (.aload_n 0, 1) := by decide +kernel
theorem dX11_hurts_39 : decode cX11_hurts 39 = .ok (.getfield 201, 3) := by decide +kernel
theorem dX11_hurts_42 : decode cX11_hurts 42 = .ok (.aload_n 0, 1) := by decide +kernel
theorem dX11_hurts_43 : decode cX11_hurts 43 = .ok (.getfield 204, 3) := by decide +kernel
theorem dX11_hurts_46 : decode cX11_hurts 46 = .ok (.invokevirtual 221, 3) := by decide +kernel
theorem dX11_hurts_49 : decode cX11_hurts 49 = .ok (.aload_n 0, 1) := by decide +kernel
theorem dX11_hurts_50 : decode cX11_hurts 50 = .ok (.getfield 7, 3) := by decide +kernel
theorem dX11_hurts_53 : decode cX11_hurts 53 = .ok (.sipush 240, 3) := by decide +kernel
theorem dX11_hurts_56 : decode cX11_hurts 56 = .ok (.iaload, 1) := by decide +kernel
theorem dX11_hurts_57 : decode cX11_hurts 57 = .ok (.iconst 1, 1) := by decide +kernel
theorem dX11_hurts_58 : decode cX11_hurts 58 = .ok (.isub, 1) := by decide +kernel
theorem dX11_hurts_59 : decode cX11_hurts 59 = .ok (.istore_n 3, 1) := by decide +kernel
theorem dX11_hurts_60 : decode cX11_hurts 60 = .ok (.iload_n 3, 1) := by decide +kernel
theorem dX11_hurts_61 : decode cX11_hurts 61 = .ok (.ifCond .lt 39, 3) := by decide +kernel
theorem dX11_hurts_64 : decode cX11_hurts 64 = .ok (.aload_n 0, 1) := by decide +kernel
theorem dX11_hurts_65 : decode cX11_hurts 65 = .ok (.iload_n 3, 1) := by decide +kernel
theorem dX11_hurts_66 : decode cX11_hurts 66 = .ok (.iconst 0, 1) := by decide +kernel
theorem dX11_hurts_67 : decode cX11_hurts 67 = .ok (.invokevirtual 192, 3) := by decide +kernel
theorem dX11_hurts_70 : decode cX11_hurts 70 = .ok (.ifCond .ne 24, 3) := by decide +kernel
theorem dX11_hurts_73 : decode cX11_hurts 73 = .ok (.aload_n 0, 1) := by decide +kernel
theorem dX11_hurts_74 : decode cX11_hurts 74 = .ok (.iload_n 3, 1) := by decide +kernel
theorem dX11_hurts_75 : decode cX11_hurts 75 = .ok (.iconst 3, 1) := by decide +kernel
theorem dX11_hurts_76 : decode cX11_hurts 76 = .ok (.invokevirtual 192, 3) := by decide +kernel
theorem dX11_hurts_79 : decode cX11_hurts 79 = .ok (.ifCond .ne 15, 3) := by decide +kernel
theorem dX11_hurts_82 : decode cX11_hurts 82 = .ok (.aload_n 0, 1) := by decide +kernel
theorem dX11_hurts_83 : decode cX11_hurts 83 = .ok (.sipush 150, 3) := by decide +kernel
theorem dX11_hurts_86 : decode cX11_hurts 86 = .ok (.iconst 4, 1) := by decide +kernel
theorem dX11_hurts_87 : decode cX11_hurts 87 = .ok (.sipush 240, 3) := by decide +kernel
theorem dX11_hurts_90 : decode cX11_hurts 90 = .ok (.iload_n 3, 1) := by decide +kernel
theorem dX11_hurts_91 : decode cX11_hurts 91 = .ok (.invokevirtual 186, 3) := by decide +kernel
theorem dX11_hurts_94 : decode cX11_hurts 94 = .ok (.iinc 3 (-1), 3) := by decide +kernel
theorem dX11_hurts_97 : decode cX11_hurts 97 = .ok (.goto (-37), 3) := by decide +kernel
theorem dX11_hurts_100 : decode cX11_hurts 100 = .ok (.aload_n 0, 1) := by decide +kernel
theorem dX11_hurts_101 : decode cX11_hurts 101 = .ok (.getfield 204, 3) := by decide +kernel
theorem dX11_hurts_104 : decode cX11_hurts 104 = .ok (.ifCond .le 21, 3) := by decide +kernel
theorem dX11_hurts_107 : decode cX11_hurts 107 = .ok (.aload_n 0, 1) := by decide +kernel
theorem dX11_hurts_108 : decode cX11_hurts 108 = .ok (.getfield 210, 3) := by decide +kernel
theorem dX11_hurts_111 : decode cX11_hurts 111 = .ok (.ifCond .ne 14, 3) := by decide +kernel
theorem dX11_hurts_114 : decode cX11_hurts 114 = .ok (.aload_n 0, 1) := by decide +kernel
theorem dX11_hurts_115 : decode cX11_hurts 115 = .ok (.iconst 0, 1) := by decide +kernel
theorem dX11_hurts_116 : decode cX11_hurts 116 = .ok (.iconst 1, 1) := by decide +kernel
theorem dX11_hurts_117 : decode cX11_hurts 117 = .ok (.aload_n 0, 1) := by decide +kernel
theorem dX11_hurts_118 : decode cX11_hurts 118 = .ok (.getfield 201, 3) := by decide +kernel
theorem dX11_hurts_121 : decode cX11_hurts 121 = .ok (.ishl, 1) := by decide +kernel
theorem dX11_hurts_122 : decode cX11_hurts 122 = .ok (.invokevirtual 149, 3) := by decide +kernel
theorem dX11_hurts_125 : decode cX11_hurts 125 = .ok (.aload_n 0, 1) := by decide +kernel
theorem dX11_hurts_126 : decode cX11_hurts 126 = .ok (.invokevirtual 153, 3) := by decide +kernel
theorem dX11_hurts_129 : decode cX11_hurts 129 = .ok (.return_, 1) := by decide +kernel
theorem dX11_aim_0 : decode cX11_aim 0 = .ok (.aload_n 0, 1) := by decide +kernel
theorem dX11_aim_1 : decode cX11_aim 1 = .ok (.iload_n 1, 1) := by decide +kernel
theorem dX11_aim_2 : decode cX11_aim 2 = .ok (.invokevirtual 88, 3) := by decide +kernel
theorem dX11_aim_5 : decode cX11_aim 5 = .ok (.ifCond .eq 22, 3) := by decide +kernel
theorem dX11_aim_8 : decode cX11_aim 8 = .ok (.iload_n 2, 1) := by decide +kernel
theorem dX11_aim_9 : decode cX11_aim 9 = .ok (.iconst 1, 1) := by decide +kernel
theorem dX11_aim_10 : decode cX11_aim 10 = .ok (.bipush 99, 2) := by decide +kernel
theorem dX11_aim_12 : decode cX11_aim 12 = .ok (.invokestatic 84, 3) := by decide +kernel
theorem dX11_aim_15 : decode cX11_aim 15 = .ok (.ifCond .eq 12, 3) := by decide +kernel
theorem dX11_aim_18 : decode cX11_aim 18 = .ok (.iload_n 3, 1) := by decide +kernel
theorem dX11_aim_19 : decode cX11_aim 19 = .ok (.iconst 0, 1) := by decide +kernel
theorem dX11_aim_20 : decode cX11_aim 20 = .ok (.iconst 2, 1) := by decide +kernel
theorem dX11_aim_21 : decode cX11_aim 21 = .ok (.invokestatic 84, 3) := by decide +kernel
theorem dX11_aim_24 : decode cX11_aim 24 = .ok (.ifCond .ne 6, 3) := by decide +kernel
theorem dX11_aim_27 : decode cX11_aim 27 = .ok (.bipush (-2), 2) := by decide +kernel
theorem dX11_aim_29 : decode cX11_aim 29 = .ok (.ireturn, 1) := by decide +kernel
theorem dX11_aim_30 : decode cX11_aim 30 = .ok (.aload_n 0, 1) := by decide +kernel
theorem dX11_aim_31 : decode cX11_aim 31 = .ok (.iload_n 1, 1) := by decide +kernel
theorem dX11_aim_32 : decode cX11_aim 32 = .ok (.invokevirtual 100, 3) := by decide +kernel
theorem dX11_aim_35 : decode cX11_aim 35 = .ok (.ifCond .ne 6, 3) := by decide +kernel
theorem dX11_aim_38 : decode cX11_aim 38 = .ok (.bipush (-3), 2) := by decide +kernel
theorem dX11_aim_40 : decode cX11_aim 40 = .ok (.ireturn, 1) := by decide +kernel
theorem dX11_aim_41 : decode cX11_aim 41 = .ok (.aload_n 0, 1) := by decide +kernel
theorem dX11_aim_42 : decode cX11_aim 42 = .ok (.iload_n 1, 1) := by decide +kernel
theorem dX11_aim_43 : decode cX11_aim 43 = .ok (.iload_n 2, 1) := by decide +kernel
theorem dX11_aim_44 : decode cX11_aim 44 = .ok (.iconst 0, 1) := by decide +kernel
theorem dX11_aim_45 : decode cX11_aim 45 = .ok (.invokevirtual 217, 3) := by decide +kernel
theorem dX11_aim_48 : decode cX11_aim 48 = .ok (.iload_n 3, 1) := by decide +kernel
theorem dX11_aim_49 : decode cX11_aim 49 = .ok (.ifCond .ne 10, 3) := by decide +kernel
theorem dX11_aim_52 : decode cX11_aim 52 = .ok (.aload_n 0, 1) := by decide +kernel
theorem dX11_aim_53 : decode cX11_aim 53 = .ok (.getfield 201, 3) := by decide +kernel
theorem dX11_aim_56 : decode cX11_aim 56 = .ok (.goto 30, 3) := by decide +kernel
theorem dX11_aim_59 : decode cX11_aim 59 = .ok (.iload_n 3, 1) := by decide +kernel
theorem dX11_aim_60 : decode cX11_aim 60 = .ok (.iconst 2, 1) := by decide +kernel
theorem dX11_aim_61 : decode cX11_aim 61 = .ok (.if_icmp .ne 10, 3) := by decide +kernel
theorem dX11_aim_64 : decode cX11_aim 64 = .ok (.aload_n 0, 1) := by decide +kernel
theorem dX11_aim_65 : decode cX11_aim 65 = .ok (.getfield 207, 3) := by decide +kernel
theorem dX11_aim_68 : decode cX11_aim 68 = .ok (.goto 18, 3) := by decide +kernel
theorem dX11_aim_71 : decode cX11_aim 71 = .ok (.aload_n 0, 1) := by decide +kernel
theorem dX11_aim_72 : decode cX11_aim 72 = .ok (.getfield 210, 3) := by decide +kernel
theorem dX11_aim_75 : decode cX11_aim 75 = .ok (.ifCond .eq 7, 3) := by decide +kernel
theorem dX11_aim_78 : decode cX11_aim 78 = .ok (.iconst 0, 1) := by decide +kernel
theorem dX11_aim_79 : decode cX11_aim 79 = .ok (.goto 7, 3) := by decide +kernel
theorem dX11_aim_82 : decode cX11_aim 82 = .ok (.aload_n 0, 1) := by decide +kernel
theorem dX11_aim_83 : decode cX11_aim 83 = .ok (.getfield 204, 3) := by decide +kernel
theorem dX11_aim_86 : decode cX11_aim 86 = .ok (.ireturn, 1) := by decide +kernel
theorem dX11_acts_0 : decode cX11_acts 0 = .ok (.aload_n 0, 1) := by decide +kernel
theorem dX11_acts_1 : decode cX11_acts 1 = .ok (.iload_n 1, 1) := by decide +kernel
theorem dX11_acts_2 : decode cX11_acts 2 = .ok (.iconst 3, 1) := by decide +kernel
theorem dX11_acts_3 : decode cX11_acts 3 = .ok (.invokevirtual 139, 3) := by decide +kernel
theorem dX11_acts_6 : decode cX11_acts 6 = .ok (.iconst (-1), 1) := by decide +kernel
theorem dX11_acts_7 : decode cX11_acts 7 = .ok (.if_icmp .ne 7, 3) := by decide +kernel
theorem dX11_acts_10 : decode cX11_acts 10 = .ok (.iload_n 2, 1) := by decide +kernel
theorem dX11_acts_11 : decode cX11_acts 11 = .ok (.goto 9, 3) := by decide +kernel
theorem dX11_acts_14 : decode cX11_acts 14 = .ok (.aload_n 0, 1) := by decide +kernel
theorem dX11_acts_15 : decode cX11_acts 15 = .ok (.iload_n 1, 1) := by decide +kernel
theorem dX11_acts_16 : decode cX11_acts 16 = .ok (.iconst 3, 1) := by decide +kernel
theorem dX11_acts_17 : decode cX11_acts 17 = .ok (.invokevirtual 139, 3) := by decide +kernel
theorem dX11_acts_20 : decode cX11_acts 20 = .ok (.istore_n 3, 1) := by decide +kernel
theorem dX11_acts_21 : decode cX11_acts 21 = .ok (.aload_n 0, 1) := by decide +kernel
theorem dX11_acts_22 : decode cX11_acts 22 = .ok (.iload_n 1, 1) := by decide +kernel
theorem dX11_acts_23 : decode cX11_acts 23 = .ok (.iconst 4, 1) := by decide +kernel
theorem dX11_acts_24 : decode cX11_acts 24 = .ok (.invokevirtual 139, 3) := by decide +kernel
theorem dX11_acts_27 : decode cX11_acts 27 = .ok (.istore 4, 2) := by decide +kernel
theorem dX11_acts_29 : decode cX11_acts 29 = .ok (.iload 4, 2) := by decide +kernel
theorem dX11_acts_31 : decode cX11_acts 31 = .ok (.ifCond .ne 21, 3) := by decide +kernel
theorem dX11_acts_34 : decode cX11_acts 34 = .ok (.iload_n 2, 1) := by decide +kernel
theorem dX11_acts_35 : decode cX11_acts 35 = .ok (.iconst (-1), 1) := by decide +kernel
theorem dX11_acts_36 : decode cX11_acts 36 = .ok (.if_icmp .eq 16, 3) := by decide +kernel
theorem dX11_acts_39 : decode cX11_acts 39 = .ok (.aload_n 0, 1) := by decide +kernel
theorem dX11_acts_40 : decode cX11_acts 40 = .ok (.iconst 5, 1) := by decide +kernel
theorem dX11_acts_41 : decode cX11_acts 41 = .ok (.invokevirtual 145, 3) := by decide +kernel
theorem dX11_acts_44 : decode cX11_acts 44 = .ok (.aload_n 0, 1) := by decide +kernel
theorem dX11_acts_45 : decode cX11_acts 45 = .ok (.iload_n 2, 1) := by decide +kernel
theorem dX11_acts_46 : decode cX11_acts 46 = .ok (.iconst 2, 1) := by decide +kernel
theorem dX11_acts_47 : decode cX11_acts 47 = .ok (.invokevirtual 170, 3) := by decide +kernel
theorem dX11_acts_50 : decode cX11_acts 50 = .ok (.istore 4, 2) := by decide +kernel
theorem dX11_acts_52 : decode cX11_acts 52 = .ok (.iload 4, 2) := by decide +kernel
theorem dX11_acts_54 : decode cX11_acts 54 = .ok (.ifCond .le 11, 3) := by decide +kernel
theorem dX11_acts_57 : decode cX11_acts 57 = .ok (.aload_n 0, 1) := by decide +kernel
theorem dX11_acts_58 : decode cX11_acts 58 = .ok (.iload_n 3, 1) := by decide +kernel
theorem dX11_acts_59 : decode cX11_acts 59 = .ok (.invokevirtual 100, 3) := by decide +kernel
theorem dX11_acts_62 : decode cX11_acts 62 = .ok (.ifCond .ne 4, 3) := by decide +kernel
theorem dX11_acts_65 : decode cX11_acts 65 = .ok (.return_, 1) := by decide +kernel
theorem dX11_acts_66 : decode cX11_acts 66 = .ok (.aload_n 0, 1) := by decide +kernel
theorem dX11_acts_67 : decode cX11_acts 67 = .ok (.iload_n 1, 1) := by decide +kernel
theorem dX11_acts_68 : decode cX11_acts 68 = .ok (.iconst 2, 1) := by decide +kernel
theorem dX11_acts_69 : decode cX11_acts 69 = .ok (.invokevirtual 139, 3) := by decide +kernel
theorem dX11_acts_72 : decode cX11_acts 72 = .ok (.lookupswitch 49 #[(0, 28), (1, 38)], 28) := by decide +kernel
theorem dX11_acts_100 : decode cX11_acts 100 = .ok (.aload_n 0, 1) := by decide +kernel
theorem dX11_acts_101 : decode cX11_acts 101 = .ok (.iload_n 3, 1) := by decide +kernel
theorem dX11_acts_102 : decode cX11_acts 102 = .ok (.iload 4, 2) := by decide +kernel
theorem dX11_acts_104 : decode cX11_acts 104 = .ok (.invokevirtual 224, 3) := by decide +kernel
theorem dX11_acts_107 : decode cX11_acts 107 = .ok (.goto 73, 3) := by decide +kernel
theorem dX11_acts_110 : decode cX11_acts 110 = .ok (.aload_n 0, 1) := by decide +kernel
theorem dX11_acts_111 : decode cX11_acts 111 = .ok (.iload_n 3, 1) := by decide +kernel
theorem dX11_acts_112 : decode cX11_acts 112 = .ok (.iload 4, 2) := by decide +kernel
theorem dX11_acts_114 : decode cX11_acts 114 = .ok (.ineg, 1) := by decide +kernel
theorem dX11_acts_115 : decode cX11_acts 115 = .ok (.invokevirtual 221, 3) := by decide +kernel
theorem dX11_acts_118 : decode cX11_acts 118 = .ok (.goto 62, 3) := by decide +kernel
theorem dX11_acts_121 : decode cX11_acts 121 = .ok (.iconst 2, 1) := by decide +kernel
theorem dX11_acts_122 : decode cX11_acts 122 = .ok (.istore 5, 2) := by decide +kernel
theorem dX11_acts_124 : decode cX11_acts 124 = .ok (.iload 5, 2) := by decide +kernel
theorem dX11_acts_126 : decode cX11_acts 126 = .ok (.iconst 4, 1) := by decide +kernel
theorem dX11_acts_127 : decode cX11_acts 127 = .ok (.if_icmp .ge 53, 3) := by decide +kernel
theorem dX11_acts_130 : decode cX11_acts 130 = .ok (.aload_n 0, 1) := by decide +kernel
theorem dX11_acts_131 : decode cX11_acts 131 = .ok (.getfield 7, 3) := by decide +kernel
theorem dX11_acts_134 : decode cX11_acts 134 = .ok (.iconst 0, 1) := by decide +kernel
theorem dX11_acts_135 : decode cX11_acts 135 = .ok (.bipush 10, 2) := by decide +kernel
theorem dX11_acts_137 : decode cX11_acts 137 = .ok (.iload_n 3, 1) := by decide +kernel
theorem dX11_acts_138 : decode cX11_acts 138 = .ok (.imul, 1) := by decide +kernel
theorem dX11_acts_139 : decode cX11_acts 139 = .ok (.iadd, 1) := by decide +kernel
theorem dX11_acts_140 : decode cX11_acts 140 = .ok (.iload 5, 2) := by decide +kernel
theorem dX11_acts_142 : decode cX11_acts 142 = .ok (.iadd, 1) := by decide +kernel
theorem dX11_acts_143 : decode cX11_acts 143 = .ok (.aload_n 0, 1) := by decide +kernel
theorem dX11_acts_144 : decode cX11_acts 144 = .ok (.iload_n 3, 1) := by decide +kernel
theorem dX11_acts_145 : decode cX11_acts 145 = .ok (.iload 5, 2) := by decide +kernel
theorem dX11_acts_147 : decode cX11_acts 147 = .ok (.invokevirtual 92, 3) := by decide +kernel
theorem dX11_acts_150 : decode cX11_acts 150 = .ok (.iload 4, 2) := by decide +kernel
theorem dX11_acts_152 : decode cX11_acts 152 = .ok (.iadd, 1) := by decide +kernel
theorem dX11_acts_153 : decode cX11_acts 153 = .ok (.bipush 99, 2) := by decide +kernel
theorem dX11_acts_155 : decode cX11_acts 155 = .ok (.if_icmp .le 8, 3) := by decide +kernel
theorem dX11_acts_158 : decode cX11_acts 158 = .ok (.bipush 99, 2) := by decide +kernel
theorem dX11_acts_160 : decode cX11_acts 160 = .ok (.goto 13, 3) := by decide +kernel
theorem dX11_acts_163 : decode cX11_acts 163 = .ok (.aload_n 0, 1) := by decide +kernel
theorem dX11_acts_164 : decode cX11_acts 164 = .ok (.iload_n 3, 1) := by decide +kernel
theorem dX11_acts_165 : decode cX11_acts 165 = .ok (.iload 5, 2) := by decide +kernel
theorem dX11_acts_167 : decode cX11_acts 167 = .ok (.invokevirtual 92, 3) := by decide +kernel
theorem dX11_acts_170 : decode cX11_acts 170 = .ok (.iload 4, 2) := by decide +kernel
theorem dX11_acts_172 : decode cX11_acts 172 = .ok (.iadd, 1) := by decide +kernel
theorem dX11_acts_173 : decode cX11_acts 173 = .ok (.iastore, 1) := by decide +kernel
theorem dX11_acts_174 : decode cX11_acts 174 = .ok (.iinc 5 1, 3) := by decide +kernel
theorem dX11_acts_177 : decode cX11_acts 177 = .ok (.goto (-53), 3) := by decide +kernel
theorem dX11_acts_180 : decode cX11_acts 180 = .ok (.return_, 1) := by decide +kernel
theorem dX11_goesThrough_0 : decode cX11_goesThrough 0 = .ok (.aload_n 0, 1) := by decide +kernel
theorem dX11_goesThrough_1 : decode cX11_goesThrough 1 = .ok (.getfield 142, 3) := by decide +kernel
theorem dX11_goesThrough_4 : decode cX11_goesThrough 4 = .ok (.ifCond .le 137, 3) := by decide +kernel
theorem dX11_goesThrough_7 : decode cX11_goesThrough 7 = .ok (.aload_n 0, 1) := by decide +kernel
theorem dX11_goesThrough_8 : decode cX11_goesThrough 8 = .ok (.getfield 227, 3) := by decide +kernel
theorem dX11_goesThrough_11 : decode cX11_goesThrough 11 = .ok (.bipush 40, 2) := by decide +kernel
theorem dX11_goesThrough_13 : decode cX11_goesThrough 13 = .ok (.if_icmp .ne 53, 3) := by decide +kernel
theorem dX11_goesThrough_16 : decode cX11_goesThrough 16 = .ok (.aload_n 0, 1) := by decide +kernel
theorem dX11_goesThrough_17 : decode cX11_goesThrough 17 = .ok (.getfield 16, 3) := by decide +kernel
theorem dX11_goesThrough_20 : decode cX11_goesThrough 20 = .ok (.aload_n 0, 1) := by decide +kernel
theorem dX11_goesThrough_21 : decode cX11_goesThrough 21 = .ok (.getfield 7, 3) := by decide +kernel
theorem dX11_goesThrough_24 : decode cX11_goesThrough 24 = .ok (.invokestatic 230, 3) := by decide +kernel
theorem dX11_goesThrough_27 : decode cX11_goesThrough 27 = .ok (.aload_n 0, 1) := by decide +kernel
theorem dX11_goesThrough_28 : decode cX11_goesThrough 28 = .ok (.aload_n 0, 1) := by decide +kernel
theorem dX11_goesThrough_29 : decode cX11_goesThrough 29 = .ok (.getfield 227, 3) := by decide +kernel
theorem dX11_goesThrough_32 : decode cX11_goesThrough 32 = .ok (.putfield 156, 3) := by decide +kernel
theorem dX11_goesThrough_35 : decode cX11_goesThrough 35 = .ok (.iconst 0, 1) := by decide +kernel
theorem dX11_goesThrough_36 : decode cX11_goesThrough 36 = .ok (.istore_n 1, 1) := by decide +kernel
theorem dX11_goesThrough_37 : decode cX11_goesThrough 37 = .ok (.iload_n 1, 1) := by decide +kernel
theorem dX11_goesThrough_38 : decode cX11_goesThrough 38 = .ok (.aload_n 0, 1) := by decide +kernel
theorem dX11_goesThrough_39 : decode cX11_goesThrough 39 = .ok (.getfield 227, 3) := by decide +kernel
theorem dX11_goesThrough_42 : decode cX11_goesThrough 42 = .ok (.if_icmp .ge 21, 3) := by decide +kernel
theorem dX11_goesThrough_45 : decode cX11_goesThrough 45 = .ok (.aload_n 0, 1) := by decide +kernel
theorem dX11_goesThrough_46 : decode cX11_goesThrough 46 = .ok (.getfield 34, 3) := by decide +kernel
theorem dX11_goesThrough_49 : decode cX11_goesThrough 49 = .ok (.iload_n 1, 1) := by decide +kernel
theorem dX11_goesThrough_50 : decode cX11_goesThrough 50 = .ok (.aload_n 0, 1) := by decide +kernel
theorem dX11_goesThrough_51 : decode cX11_goesThrough 51 = .ok (.getfield 31, 3) := by decide +kernel
theorem dX11_goesThrough_54 : decode cX11_goesThrough 54 = .ok (.iload_n 1, 1) := by decide +kernel
theorem dX11_goesThrough_55 : decode cX11_goesThrough 55 = .ok (.iaload, 1) := by decide +kernel
theorem dX11_goesThrough_56 : decode cX11_goesThrough 56 = .ok (.iastore, 1) := by decide +kernel
theorem dX11_goesThrough_57 : decode cX11_goesThrough 57 = .ok (.iinc 1 1, 3) := by decide +kernel
theorem dX11_goesThrough_60 : decode cX11_goesThrough 60 = .ok (.goto (-23), 3) := by decide +kernel
theorem dX11_goesThrough_63 : decode cX11_goesThrough 63 = .ok (.bipush (-5), 2) := by decide +kernel
theorem dX11_goesThrough_65 : decode cX11_goesThrough 65 = .ok (.ireturn, 1) := by decide +kernel
theorem dX11_goesThrough_66 : decode cX11_goesThrough 66 = .ok (.aload_n 0, 1) := by decide +kernel
theorem dX11_goesThrough_67 : decode cX11_goesThrough 67 = .ok (.dup, 1) := by decide +kernel
theorem dX11_goesThrough_68 : decode cX11_goesThrough 68 = .ok (.getfield 142, 3) := by decide +kernel
theorem dX11_goesThrough_71 : decode cX11_goesThrough 71 = .ok (.iconst 1, 1) := by decide +kernel
theorem dX11_goesThrough_72 : decode cX11_goesThrough 72 = .ok (.isub, 1) := by decide +kernel
theorem dX11_goesThrough_73 : decode cX11_goesThrough 73 = .ok (.putfield 142, 3) := by decide +kernel
theorem dX11_goesThrough_76 : decode cX11_goesThrough 76 = .ok (.aload_n 0, 1) := by decide +kernel
theorem dX11_goesThrough_77 : decode cX11_goesThrough 77 = .ok (.getfield 31, 3) := by decide +kernel
theorem dX11_goesThrough_80 : decode cX11_goesThrough 80 = .ok (.aload_n 0, 1) := by decide +kernel
end
section
theorem dX11_goesThrough_81 : decode cX11_goesThrough 81 = .ok (.getfield 227, 3) := by decide +kernel
theorem dX11_goesThrough_84 : decode cX11_goesThrough 84 = .ok (.aload_n 0, 1) := by decide +kernel
theorem dX11_goesThrough_85 : decode cX11_goesThrough 85 = .ok (.getfield 28, 3) := by decide +kernel
theorem dX11_goesThrough_88 : decode cX11_goesThrough 88 = .ok (.iconst 2, 1) := by decide +kernel
theorem dX11_goesThrough_89 : decode cX11_goesThrough 89 = .ok (.aload_n 0, 1) := by decide +kernel
theorem dX11_goesThrough_90 : decode cX11_goesThrough 90 = .ok (.getfield 142, 3) := by decide +kernel
theorem dX11_goesThrough_93 : decode cX11_goesThrough 93 = .ok (.imul, 1) := by decide +kernel
theorem dX11_goesThrough_94 : decode cX11_goesThrough 94 = .ok (.iaload, 1) := by decide +kernel
theorem dX11_goesThrough_95 : decode cX11_goesThrough 95 = .ok (.iastore, 1) := by decide +kernel
theorem dX11_goesThrough_96 : decode cX11_goesThrough 96 = .ok (.aload_n 0, 1) := by decide +kernel
theorem dX11_goesThrough_97 : decode cX11_goesThrough 97 = .ok (.dup, 1) := by decide +kernel
theorem dX11_goesThrough_98 : decode cX11_goesThrough 98 = .ok (.getfield 227, 3) := by decide +kernel
theorem dX11_goesThrough_101 : decode cX11_goesThrough 101 = .ok (.iconst 1, 1) := by decide +kernel
theorem dX11_goesThrough_102 : decode cX11_goesThrough 102 = .ok (.iadd, 1) := by decide +kernel
theorem dX11_goesThrough_103 : decode cX11_goesThrough 103 = .ok (.putfield 227, 3) := by decide +kernel
theorem dX11_goesThrough_106 : decode cX11_goesThrough 106 = .ok (.aload_n 0, 1) := by decide +kernel
theorem dX11_goesThrough_107 : decode cX11_goesThrough 107 = .ok (.aload_n 0, 1) := by decide +kernel
theorem dX11_goesThrough_108 : decode cX11_goesThrough 108 = .ok (.getfield 28, 3) := by decide +kernel
theorem dX11_goesThrough_111 : decode cX11_goesThrough 111 = .ok (.iconst 2, 1) := by decide +kernel
theorem dX11_goesThrough_112 : decode cX11_goesThrough 112 = .ok (.aload_n 0, 1) := by decide +kernel
theorem dX11_goesThrough_113 : decode cX11_goesThrough 113 = .ok (.getfield 142, 3) := by decide +kernel
theorem dX11_goesThrough_116 : decode cX11_goesThrough 116 = .ok (.imul, 1) := by decide +kernel
theorem dX11_goesThrough_117 : decode cX11_goesThrough 117 = .ok (.iaload, 1) := by decide +kernel
theorem dX11_goesThrough_118 : decode cX11_goesThrough 118 = .ok (.aload_n 0, 1) := by decide +kernel
theorem dX11_goesThrough_119 : decode cX11_goesThrough 119 = .ok (.getfield 28, 3) := by decide +kernel
theorem dX11_goesThrough_122 : decode cX11_goesThrough 122 = .ok (.iconst 2, 1) := by decide +kernel
theorem dX11_goesThrough_123 : decode cX11_goesThrough 123 = .ok (.aload_n 0, 1) := by decide +kernel
theorem dX11_goesThrough_124 : decode cX11_goesThrough 124 = .ok (.getfield 142, 3) := by decide +kernel
theorem dX11_goesThrough_127 : decode cX11_goesThrough 127 = .ok (.imul, 1) := by decide +kernel
theorem dX11_goesThrough_128 : decode cX11_goesThrough 128 = .ok (.iconst 1, 1) := by decide +kernel
theorem dX11_goesThrough_129 : decode cX11_goesThrough 129 = .ok (.iadd, 1) := by decide +kernel
theorem dX11_goesThrough_130 : decode cX11_goesThrough 130 = .ok (.iaload, 1) := by decide +kernel
theorem dX11_goesThrough_131 : decode cX11_goesThrough 131 = .ok (.invokevirtual 234, 3) := by decide +kernel
theorem dX11_goesThrough_134 : decode cX11_goesThrough 134 = .ok (.aload_n 0, 1) := by decide +kernel
theorem dX11_goesThrough_135 : decode cX11_goesThrough 135 = .ok (.invokevirtual 153, 3) := by decide +kernel
theorem dX11_goesThrough_138 : decode cX11_goesThrough 138 = .ok (.goto (-138), 3) := by decide +kernel
theorem dX11_goesThrough_141 : decode cX11_goesThrough 141 = .ok (.aload_n 0, 1) := by decide +kernel
theorem dX11_goesThrough_142 : decode cX11_goesThrough 142 = .ok (.getfield 227, 3) := by decide +kernel
theorem dX11_goesThrough_145 : decode cX11_goesThrough 145 = .ok (.ireturn, 1) := by decide +kernel
theorem dX11_begins_0 : decode cX11_begins 0 = .ok (.aload_n 0, 1) := by decide +kernel
theorem dX11_begins_1 : decode cX11_begins 1 = .ok (.getfield 7, 3) := by decide +kernel
theorem dX11_begins_4 : decode cX11_begins 4 = .ok (.aload_n 0, 1) := by decide +kernel
theorem dX11_begins_5 : decode cX11_begins 5 = .ok (.getfield 16, 3) := by decide +kernel
theorem dX11_begins_8 : decode cX11_begins 8 = .ok (.invokestatic 230, 3) := by decide +kernel
theorem dX11_begins_11 : decode cX11_begins 11 = .ok (.aload_n 0, 1) := by decide +kernel
theorem dX11_begins_12 : decode cX11_begins 12 = .ok (.iconst 1, 1) := by decide +kernel
theorem dX11_begins_13 : decode cX11_begins 13 = .ok (.putfield 135, 3) := by decide +kernel
theorem dX11_begins_16 : decode cX11_begins 16 = .ok (.aload_n 0, 1) := by decide +kernel
theorem dX11_begins_17 : decode cX11_begins 17 = .ok (.iconst 0, 1) := by decide +kernel
theorem dX11_begins_18 : decode cX11_begins 18 = .ok (.putfield 142, 3) := by decide +kernel
theorem dX11_begins_21 : decode cX11_begins 21 = .ok (.aload_n 0, 1) := by decide +kernel
theorem dX11_begins_22 : decode cX11_begins 22 = .ok (.iconst 0, 1) := by decide +kernel
theorem dX11_begins_23 : decode cX11_begins 23 = .ok (.putfield 227, 3) := by decide +kernel
theorem dX11_begins_26 : decode cX11_begins 26 = .ok (.return_, 1) := by decide +kernel
theorem dX11_hurt_0 : decode cX11_hurt 0 = .ok (.aload_n 0, 1) := by decide +kernel
theorem dX11_hurt_1 : decode cX11_hurt 1 = .ok (.iload_n 1, 1) := by decide +kernel
theorem dX11_hurt_2 : decode cX11_hurt 2 = .ok (.invokevirtual 88, 3) := by decide +kernel
theorem dX11_hurt_5 : decode cX11_hurt 5 = .ok (.ifCond .eq 13, 3) := by decide +kernel
theorem dX11_hurt_8 : decode cX11_hurt 8 = .ok (.iload_n 2, 1) := by decide +kernel
theorem dX11_hurt_9 : decode cX11_hurt 9 = .ok (.iconst 1, 1) := by decide +kernel
theorem dX11_hurt_10 : decode cX11_hurt 10 = .ok (.bipush 99, 2) := by decide +kernel
theorem dX11_hurt_12 : decode cX11_hurt 12 = .ok (.invokestatic 84, 3) := by decide +kernel
theorem dX11_hurt_15 : decode cX11_hurt 15 = .ok (.ifCond .ne 6, 3) := by decide +kernel
theorem dX11_hurt_18 : decode cX11_hurt 18 = .ok (.bipush (-2), 2) := by decide +kernel
theorem dX11_hurt_20 : decode cX11_hurt 20 = .ok (.ireturn, 1) := by decide +kernel
theorem dX11_hurt_21 : decode cX11_hurt 21 = .ok (.aload_n 0, 1) := by decide +kernel
theorem dX11_hurt_22 : decode cX11_hurt 22 = .ok (.iload_n 1, 1) := by decide +kernel
theorem dX11_hurt_23 : decode cX11_hurt 23 = .ok (.invokevirtual 100, 3) := by decide +kernel
theorem dX11_hurt_26 : decode cX11_hurt 26 = .ok (.ifCond .ne 6, 3) := by decide +kernel
theorem dX11_hurt_29 : decode cX11_hurt 29 = .ok (.bipush (-3), 2) := by decide +kernel
theorem dX11_hurt_31 : decode cX11_hurt 31 = .ok (.ireturn, 1) := by decide +kernel
theorem dX11_hurt_32 : decode cX11_hurt 32 = .ok (.aload_n 0, 1) := by decide +kernel
theorem dX11_hurt_33 : decode cX11_hurt 33 = .ok (.invokevirtual 236, 3) := by decide +kernel
theorem dX11_hurt_36 : decode cX11_hurt 36 = .ok (.aload_n 0, 1) := by decide +kernel
theorem dX11_hurt_37 : decode cX11_hurt 37 = .ok (.iload_n 1, 1) := by decide +kernel
theorem dX11_hurt_38 : decode cX11_hurt 38 = .ok (.iload_n 2, 1) := by decide +kernel
theorem dX11_hurt_39 : decode cX11_hurt 39 = .ok (.invokevirtual 224, 3) := by decide +kernel
theorem dX11_hurt_42 : decode cX11_hurt 42 = .ok (.aload_n 0, 1) := by decide +kernel
theorem dX11_hurt_43 : decode cX11_hurt 43 = .ok (.invokevirtual 239, 3) := by decide +kernel
theorem dX11_hurt_46 : decode cX11_hurt 46 = .ok (.ireturn, 1) := by decide +kernel
theorem dX11_next_0 : decode cX11_next 0 = .ok (.aload_n 0, 1) := by decide +kernel
theorem dX11_next_1 : decode cX11_next 1 = .ok (.invokevirtual 236, 3) := by decide +kernel
theorem dX11_next_4 : decode cX11_next 4 = .ok (.aload_n 0, 1) := by decide +kernel
theorem dX11_next_5 : decode cX11_next 5 = .ok (.getfield 7, 3) := by decide +kernel
theorem dX11_next_8 : decode cX11_next 8 = .ok (.sipush 244, 3) := by decide +kernel
theorem dX11_next_11 : decode cX11_next 11 = .ok (.iconst 1, 1) := by decide +kernel
theorem dX11_next_12 : decode cX11_next 12 = .ok (.aload_n 0, 1) := by decide +kernel
theorem dX11_next_13 : decode cX11_next 13 = .ok (.getfield 7, 3) := by decide +kernel
theorem dX11_next_16 : decode cX11_next 16 = .ok (.sipush 244, 3) := by decide +kernel
theorem dX11_next_19 : decode cX11_next 19 = .ok (.iaload, 1) := by decide +kernel
theorem dX11_next_20 : decode cX11_next 20 = .ok (.isub, 1) := by decide +kernel
theorem dX11_next_21 : decode cX11_next 21 = .ok (.iastore, 1) := by decide +kernel
theorem dX11_next_22 : decode cX11_next 22 = .ok (.aload_n 0, 1) := by decide +kernel
theorem dX11_next_23 : decode cX11_next 23 = .ok (.getfield 7, 3) := by decide +kernel
theorem dX11_next_26 : decode cX11_next 26 = .ok (.sipush 239, 3) := by decide +kernel
theorem dX11_next_29 : decode cX11_next 29 = .ok (.iaload, 1) := by decide +kernel
theorem dX11_next_30 : decode cX11_next 30 = .ok (.iconst 1, 1) := by decide +kernel
theorem dX11_next_31 : decode cX11_next 31 = .ok (.isub, 1) := by decide +kernel
theorem dX11_next_32 : decode cX11_next 32 = .ok (.istore_n 1, 1) := by decide +kernel
theorem dX11_next_33 : decode cX11_next 33 = .ok (.iload_n 1, 1) := by decide +kernel
theorem dX11_next_34 : decode cX11_next 34 = .ok (.ifCond .lt 60, 3) := by decide +kernel
theorem dX11_next_37 : decode cX11_next 37 = .ok (.aload_n 0, 1) := by decide +kernel
theorem dX11_next_38 : decode cX11_next 38 = .ok (.iload_n 1, 1) := by decide +kernel
theorem dX11_next_39 : decode cX11_next 39 = .ok (.bipush 6, 2) := by decide +kernel
theorem dX11_next_41 : decode cX11_next 41 = .ok (.invokevirtual 103, 3) := by decide +kernel
theorem dX11_next_44 : decode cX11_next 44 = .ok (.istore_n 2, 1) := by decide +kernel
theorem dX11_next_45 : decode cX11_next 45 = .ok (.aload_n 0, 1) := by decide +kernel
theorem dX11_next_46 : decode cX11_next 46 = .ok (.getfield 7, 3) := by decide +kernel
theorem dX11_next_49 : decode cX11_next 49 = .ok (.bipush 80, 2) := by decide +kernel
theorem dX11_next_51 : decode cX11_next 51 = .ok (.bipush 7, 2) := by decide +kernel
theorem dX11_next_53 : decode cX11_next 53 = .ok (.iload_n 1, 1) := by decide +kernel
theorem dX11_next_54 : decode cX11_next 54 = .ok (.imul, 1) := by decide +kernel
theorem dX11_next_55 : decode cX11_next 55 = .ok (.iadd, 1) := by decide +kernel
theorem dX11_next_56 : decode cX11_next 56 = .ok (.bipush 6, 2) := by decide +kernel
theorem dX11_next_58 : decode cX11_next 58 = .ok (.iadd, 1) := by decide +kernel
theorem dX11_next_59 : decode cX11_next 59 = .ok (.iload_n 2, 1) := by decide +kernel
theorem dX11_next_60 : decode cX11_next 60 = .ok (.ifCond .ne 7, 3) := by decide +kernel
theorem dX11_next_63 : decode cX11_next 63 = .ok (.iconst 0, 1) := by decide +kernel
theorem dX11_next_64 : decode cX11_next 64 = .ok (.goto 6, 3) := by decide +kernel
theorem dX11_next_67 : decode cX11_next 67 = .ok (.iload_n 2, 1) := by decide +kernel
theorem dX11_next_68 : decode cX11_next 68 = .ok (.iconst 1, 1) := by decide +kernel
theorem dX11_next_69 : decode cX11_next 69 = .ok (.isub, 1) := by decide +kernel
theorem dX11_next_70 : decode cX11_next 70 = .ok (.iastore, 1) := by decide +kernel
theorem dX11_next_71 : decode cX11_next 71 = .ok (.iload_n 2, 1) := by decide +kernel
theorem dX11_next_72 : decode cX11_next 72 = .ok (.iconst 1, 1) := by decide +kernel
theorem dX11_next_73 : decode cX11_next 73 = .ok (.if_icmp .ne 15, 3) := by decide +kernel
theorem dX11_next_76 : decode cX11_next 76 = .ok (.aload_n 0, 1) := by decide +kernel
theorem dX11_next_77 : decode cX11_next 77 = .ok (.bipush 80, 2) := by decide +kernel
theorem dX11_next_79 : decode cX11_next 79 = .ok (.bipush 7, 2) := by decide +kernel
theorem dX11_next_81 : decode cX11_next 81 = .ok (.sipush 239, 3) := by decide +kernel
theorem dX11_next_84 : decode cX11_next 84 = .ok (.iload_n 1, 1) := by decide +kernel
theorem dX11_next_85 : decode cX11_next 85 = .ok (.invokevirtual 186, 3) := by decide +kernel
theorem dX11_next_88 : decode cX11_next 88 = .ok (.iinc 1 (-1), 3) := by decide +kernel
theorem dX11_next_91 : decode cX11_next 91 = .ok (.goto (-58), 3) := by decide +kernel
theorem dX11_next_94 : decode cX11_next 94 = .ok (.aload_n 0, 1) := by decide +kernel
theorem dX11_next_95 : decode cX11_next 95 = .ok (.iconst 2, 1) := by decide +kernel
theorem dX11_next_96 : decode cX11_next 96 = .ok (.iconst 0, 1) := by decide +kernel
theorem dX11_next_97 : decode cX11_next 97 = .ok (.invokevirtual 149, 3) := by decide +kernel
theorem dX11_next_100 : decode cX11_next 100 = .ok (.aload_n 0, 1) := by decide +kernel
theorem dX11_next_101 : decode cX11_next 101 = .ok (.invokevirtual 153, 3) := by decide +kernel
theorem dX11_next_104 : decode cX11_next 104 = .ok (.aload_n 0, 1) := by decide +kernel
theorem dX11_next_105 : decode cX11_next 105 = .ok (.invokevirtual 239, 3) := by decide +kernel
theorem dX11_next_108 : decode cX11_next 108 = .ok (.ireturn, 1) := by decide +kernel
theorem dX11_shown_0 : decode cX11_shown 0 = .ok (.iload_n 1, 1) := by decide +kernel
theorem dX11_shown_1 : decode cX11_shown 1 = .ok (.iconst (-1), 1) := by decide +kernel
theorem dX11_shown_2 : decode cX11_shown 2 = .ok (.if_icmp .ge 8, 3) := by decide +kernel
theorem dX11_shown_5 : decode cX11_shown 5 = .ok (.bipush (-2), 2) := by decide +kernel
theorem dX11_shown_7 : decode cX11_shown 7 = .ok (.goto 33, 3) := by decide +kernel
theorem dX11_shown_10 : decode cX11_shown 10 = .ok (.iload_n 1, 1) := by decide +kernel
theorem dX11_shown_11 : decode cX11_shown 11 = .ok (.iconst (-1), 1) := by decide +kernel
theorem dX11_shown_12 : decode cX11_shown 12 = .ok (.if_icmp .ne 10, 3) := by decide +kernel
theorem dX11_shown_15 : decode cX11_shown 15 = .ok (.aload_n 0, 1) := by decide +kernel
theorem dX11_shown_16 : decode cX11_shown 16 = .ok (.getfield 156, 3) := by decide +kernel
theorem dX11_shown_19 : decode cX11_shown 19 = .ok (.goto 21, 3) := by decide +kernel
theorem dX11_shown_22 : decode cX11_shown 22 = .ok (.iload_n 1, 1) := by decide +kernel
theorem dX11_shown_23 : decode cX11_shown 23 = .ok (.aload_n 0, 1) := by decide +kernel
theorem dX11_shown_24 : decode cX11_shown 24 = .ok (.getfield 156, 3) := by decide +kernel
theorem dX11_shown_27 : decode cX11_shown 27 = .ok (.if_icmp .ge 12, 3) := by decide +kernel
theorem dX11_shown_30 : decode cX11_shown 30 = .ok (.aload_n 0, 1) := by decide +kernel
theorem dX11_shown_31 : decode cX11_shown 31 = .ok (.getfield 34, 3) := by decide +kernel
theorem dX11_shown_34 : decode cX11_shown 34 = .ok (.iload_n 1, 1) := by decide +kernel
theorem dX11_shown_35 : decode cX11_shown 35 = .ok (.iaload, 1) := by decide +kernel
theorem dX11_shown_36 : decode cX11_shown 36 = .ok (.goto 4, 3) := by decide +kernel
theorem dX11_shown_39 : decode cX11_shown 39 = .ok (.iconst (-1), 1) := by decide +kernel
theorem dX11_shown_40 : decode cX11_shown 40 = .ok (.ireturn, 1) := by decide +kernel
theorem dX11_feed_0 : decode cX11_feed 0 = .ok (.iload_n 2, 1) := by decide +kernel
theorem dX11_feed_1 : decode cX11_feed 1 = .ok (.iconst 1, 1) := by decide +kernel
theorem dX11_feed_2 : decode cX11_feed 2 = .ok (.iconst 4, 1) := by decide +kernel
theorem dX11_feed_3 : decode cX11_feed 3 = .ok (.invokestatic 84, 3) := by decide +kernel
theorem dX11_feed_6 : decode cX11_feed 6 = .ok (.ifCond .ne 6, 3) := by decide +kernel
theorem dX11_feed_9 : decode cX11_feed 9 = .ok (.bipush (-2), 2) := by decide +kernel
theorem dX11_feed_11 : decode cX11_feed 11 = .ok (.ireturn, 1) := by decide +kernel
theorem dX11_feed_12 : decode cX11_feed 12 = .ok (.aload_n 0, 1) := by decide +kernel
theorem dX11_feed_13 : decode cX11_feed 13 = .ok (.getfield 242, 3) := by decide +kernel
theorem dX11_feed_16 : decode cX11_feed 16 = .ok (.iload_n 2, 1) := by decide +kernel
theorem dX11_feed_17 : decode cX11_feed 17 = .ok (.iadd, 1) := by decide +kernel
theorem dX11_feed_18 : decode cX11_feed 18 = .ok (.bipush 120, 2) := by decide +kernel
theorem dX11_feed_20 : decode cX11_feed 20 = .ok (.if_icmp .le 6, 3) := by decide +kernel
theorem dX11_feed_23 : decode cX11_feed 23 = .ok (.bipush (-4), 2) := by decide +kernel
theorem dX11_feed_25 : decode cX11_feed 25 = .ok (.ireturn, 1) := by decide +kernel
theorem dX11_feed_26 : decode cX11_feed 26 = .ok (.iload_n 2, 1) := by decide +kernel
theorem dX11_feed_27 : decode cX11_feed 27 = .ok (.iconst 1, 1) := by decide +kernel
theorem dX11_feed_28 : decode cX11_feed 28 = .ok (.isub, 1) := by decide +kernel
theorem dX11_feed_29 : decode cX11_feed 29 = .ok (.istore_n 3, 1) := by decide +kernel
theorem dX11_feed_30 : decode cX11_feed 30 = .ok (.iload_n 3, 1) := by decide +kernel
theorem dX11_feed_31 : decode cX11_feed 31 = .ok (.ifCond .lt 38, 3) := by decide +kernel
theorem dX11_feed_34 : decode cX11_feed 34 = .ok (.aload_n 0, 1) := by decide +kernel
theorem dX11_feed_35 : decode cX11_feed 35 = .ok (.getfield 37, 3) := by decide +kernel
theorem dX11_feed_38 : decode cX11_feed 38 = .ok (.aload_n 0, 1) := by decide +kernel
theorem dX11_feed_39 : decode cX11_feed 39 = .ok (.getfield 242, 3) := by decide +kernel
theorem dX11_feed_42 : decode cX11_feed 42 = .ok (.iload_n 1, 1) := by decide +kernel
theorem dX11_feed_43 : decode cX11_feed 43 = .ok (.bipush 8, 2) := by decide +kernel
theorem dX11_feed_45 : decode cX11_feed 45 = .ok (.iload_n 3, 1) := by decide +kernel
theorem dX11_feed_46 : decode cX11_feed 46 = .ok (.imul, 1) := by decide +kernel
theorem dX11_feed_47 : decode cX11_feed 47 = .ok (.ishr, 1) := by decide +kernel
theorem dX11_feed_48 : decode cX11_feed 48 = .ok (.sipush 255, 3) := by decide +kernel
theorem dX11_feed_51 : decode cX11_feed 51 = .ok (.iand, 1) := by decide +kernel
theorem dX11_feed_52 : decode cX11_feed 52 = .ok (.iastore, 1) := by decide +kernel
theorem dX11_feed_53 : decode cX11_feed 53 = .ok (.aload_n 0, 1) := by decide +kernel
theorem dX11_feed_54 : decode cX11_feed 54 = .ok (.dup, 1) := by decide +kernel
theorem dX11_feed_55 : decode cX11_feed 55 = .ok (.getfield 242, 3) := by decide +kernel
theorem dX11_feed_58 : decode cX11_feed 58 = .ok (.iconst 1, 1) := by decide +kernel
theorem dX11_feed_59 : decode cX11_feed 59 = .ok (.iadd, 1) := by decide +kernel
theorem dX11_feed_60 : decode cX11_feed 60 = .ok (.putfield 242, 3) := by decide +kernel
theorem dX11_feed_63 : decode cX11_feed 63 = .ok (.iinc 3 (-1), 3) := by decide +kernel
theorem dX11_feed_66 : decode cX11_feed 66 = .ok (.goto (-36), 3) := by decide +kernel
theorem dX11_feed_69 : decode cX11_feed 69 = .ok (.aload_n 0, 1) := by decide +kernel
theorem dX11_feed_70 : decode cX11_feed 70 = .ok (.getfield 242, 3) := by decide +kernel
theorem dX11_feed_73 : decode cX11_feed 73 = .ok (.ireturn, 1) := by decide +kernel
theorem dX11_wipe_0 : decode cX11_wipe 0 = .ok (.aload_n 0, 1) := by decide +kernel
theorem dX11_wipe_1 : decode cX11_wipe 1 = .ok (.getfield 242, 3) := by decide +kernel
theorem dX11_wipe_4 : decode cX11_wipe 4 = .ok (.istore_n 1, 1) := by decide +kernel
theorem dX11_wipe_5 : decode cX11_wipe 5 = .ok (.aload_n 0, 1) := by decide +kernel
theorem dX11_wipe_6 : decode cX11_wipe 6 = .ok (.iconst 0, 1) := by decide +kernel
theorem dX11_wipe_7 : decode cX11_wipe 7 = .ok (.putfield 242, 3) := by decide +kernel
theorem dX11_wipe_10 : decode cX11_wipe 10 = .ok (.iload_n 1, 1) := by decide +kernel
theorem dX11_wipe_11 : decode cX11_wipe 11 = .ok (.ireturn, 1) := by decide +kernel
theorem dX11_isAt_0 : decode cX11_isAt 0 = .ok (.aload_n 0, 1) := by decide +kernel
theorem dX11_isAt_1 : decode cX11_isAt 1 = .ok (.getfield 245, 3) := by decide +kernel
theorem dX11_isAt_4 : decode cX11_isAt 4 = .ok (.aload_n 0, 1) := by decide +kernel
theorem dX11_isAt_5 : decode cX11_isAt 5 = .ok (.getfield 242, 3) := by decide +kernel
theorem dX11_isAt_8 : decode cX11_isAt 8 = .ok (.if_icmp .ge 24, 3) := by decide +kernel
theorem dX11_isAt_11 : decode cX11_isAt 11 = .ok (.aload_n 0, 1) := by decide +kernel
theorem dX11_isAt_12 : decode cX11_isAt 12 = .ok (.getfield 37, 3) := by decide +kernel
theorem dX11_isAt_15 : decode cX11_isAt 15 = .ok (.aload_n 0, 1) := by decide +kernel
theorem dX11_isAt_16 : decode cX11_isAt 16 = .ok (.getfield 245, 3) := by decide +kernel
theorem dX11_isAt_19 : decode cX11_isAt 19 = .ok (.iaload, 1) := by decide +kernel
theorem dX11_isAt_20 : decode cX11_isAt 20 = .ok (.iload_n 1, 1) := by decide +kernel
theorem dX11_isAt_21 : decode cX11_isAt 21 = .ok (.iload_n 2, 1) := by decide +kernel
theorem dX11_isAt_22 : decode cX11_isAt 22 = .ok (.invokestatic 84, 3) := by decide +kernel
theorem dX11_isAt_25 : decode cX11_isAt 25 = .ok (.ifCond .eq 7, 3) := by decide +kernel
theorem dX11_isAt_28 : decode cX11_isAt 28 = .ok (.iconst 1, 1) := by decide +kernel
theorem dX11_isAt_29 : decode cX11_isAt 29 = .ok (.goto 4, 3) := by decide +kernel
theorem dX11_isAt_32 : decode cX11_isAt 32 = .ok (.iconst 0, 1) := by decide +kernel
theorem dX11_isAt_33 : decode cX11_isAt 33 = .ok (.ireturn, 1) := by decide +kernel
theorem dX11_goesOn_0 : decode cX11_goesOn 0 = .ok (.aload_n 0, 1) := by decide +kernel
theorem dX11_goesOn_1 : decode cX11_goesOn 1 = .ok (.bipush 32, 2) := by decide +kernel
theorem dX11_goesOn_3 : decode cX11_goesOn 3 = .ok (.bipush 32, 2) := by decide +kernel
theorem dX11_goesOn_5 : decode cX11_goesOn 5 = .ok (.invokevirtual 248, 3) := by decide +kernel
theorem dX11_goesOn_8 : decode cX11_goesOn 8 = .ok (.ifCond .eq 16, 3) := by decide +kernel
theorem dX11_goesOn_11 : decode cX11_goesOn 11 = .ok (.aload_n 0, 1) := by decide +kernel
theorem dX11_goesOn_12 : decode cX11_goesOn 12 = .ok (.dup, 1) := by decide +kernel
theorem dX11_goesOn_13 : decode cX11_goesOn 13 = .ok (.getfield 245, 3) := by decide +kernel
theorem dX11_goesOn_16 : decode cX11_goesOn 16 = .ok (.iconst 1, 1) := by decide +kernel
theorem dX11_goesOn_17 : decode cX11_goesOn 17 = .ok (.iadd, 1) := by decide +kernel
theorem dX11_goesOn_18 : decode cX11_goesOn 18 = .ok (.putfield 245, 3) := by decide +kernel
theorem dX11_goesOn_21 : decode cX11_goesOn 21 = .ok (.goto (-21), 3) := by decide +kernel
theorem dX11_goesOn_24 : decode cX11_goesOn 24 = .ok (.aload_n 0, 1) := by decide +kernel
theorem dX11_goesOn_25 : decode cX11_goesOn 25 = .ok (.aload_n 0, 1) := by decide +kernel
theorem dX11_goesOn_26 : decode cX11_goesOn 26 = .ok (.getfield 245, 3) := by decide +kernel
theorem dX11_goesOn_29 : decode cX11_goesOn 29 = .ok (.putfield 251, 3) := by decide +kernel
theorem dX11_goesOn_32 : decode cX11_goesOn 32 = .ok (.aload_n 0, 1) := by decide +kernel
theorem dX11_goesOn_33 : decode cX11_goesOn 33 = .ok (.iconst 0, 1) := by decide +kernel
theorem dX11_goesOn_34 : decode cX11_goesOn 34 = .ok (.putfield 254, 3) := by decide +kernel
theorem dX11_goesOn_37 : decode cX11_goesOn 37 = .ok (.aload_n 0, 1) := by decide +kernel
theorem dX11_goesOn_38 : decode cX11_goesOn 38 = .ok (.getfield 245, 3) := by decide +kernel
theorem dX11_goesOn_41 : decode cX11_goesOn 41 = .ok (.aload_n 0, 1) := by decide +kernel
theorem dX11_goesOn_42 : decode cX11_goesOn 42 = .ok (.getfield 242, 3) := by decide +kernel
theorem dX11_goesOn_45 : decode cX11_goesOn 45 = .ok (.if_icmp .ne 11, 3) := by decide +kernel
theorem dX11_goesOn_48 : decode cX11_goesOn 48 = .ok (.aload_n 0, 1) := by decide +kernel
theorem dX11_goesOn_49 : decode cX11_goesOn 49 = .ok (.iconst 0, 1) := by decide +kernel
theorem dX11_goesOn_50 : decode cX11_goesOn 50 = .ok (.putfield 257, 3) := by decide +kernel
theorem dX11_goesOn_53 : decode cX11_goesOn 53 = .ok (.goto 172, 3) := by decide +kernel
theorem dX11_goesOn_56 : decode cX11_goesOn 56 = .ok (.aload_n 0, 1) := by decide +kernel
theorem dX11_goesOn_57 : decode cX11_goesOn 57 = .ok (.bipush 97, 2) := by decide +kernel
theorem dX11_goesOn_59 : decode cX11_goesOn 59 = .ok (.bipush 122, 2) := by decide +kernel
theorem dX11_goesOn_61 : decode cX11_goesOn 61 = .ok (.invokevirtual 248, 3) := by decide +kernel
theorem dX11_goesOn_64 : decode cX11_goesOn 64 = .ok (.ifCond .eq 32, 3) := by decide +kernel
theorem dX11_goesOn_67 : decode cX11_goesOn 67 = .ok (.aload_n 0, 1) := by decide +kernel
theorem dX11_goesOn_68 : decode cX11_goesOn 68 = .ok (.iconst 1, 1) := by decide +kernel
theorem dX11_goesOn_69 : decode cX11_goesOn 69 = .ok (.putfield 257, 3) := by decide +kernel
theorem dX11_goesOn_72 : decode cX11_goesOn 72 = .ok (.aload_n 0, 1) := by decide +kernel
theorem dX11_goesOn_73 : decode cX11_goesOn 73 = .ok (.bipush 97, 2) := by decide +kernel
theorem dX11_goesOn_75 : decode cX11_goesOn 75 = .ok (.bipush 122, 2) := by decide +kernel
theorem dX11_goesOn_77 : decode cX11_goesOn 77 = .ok (.invokevirtual 248, 3) := by decide +kernel
theorem dX11_goesOn_80 : decode cX11_goesOn 80 = .ok (.ifCond .eq 145, 3) := by decide +kernel
theorem dX11_goesOn_83 : decode cX11_goesOn 83 = .ok (.aload_n 0, 1) := by decide +kernel
theorem dX11_goesOn_84 : decode cX11_goesOn 84 = .ok (.dup, 1) := by decide +kernel
theorem dX11_goesOn_85 : decode cX11_goesOn 85 = .ok (.getfield 245, 3) := by decide +kernel
theorem dX11_goesOn_88 : decode cX11_goesOn 88 = .ok (.iconst 1, 1) := by decide +kernel
theorem dX11_goesOn_89 : decode cX11_goesOn 89 = .ok (.iadd, 1) := by decide +kernel
theorem dX11_goesOn_90 : decode cX11_goesOn 90 = .ok (.putfield 245, 3) := by decide +kernel
theorem dX11_goesOn_93 : decode cX11_goesOn 93 = .ok (.goto (-21), 3) := by decide +kernel
theorem dX11_goesOn_96 : decode cX11_goesOn 96 = .ok (.aload_n 0, 1) := by decide +kernel
theorem dX11_goesOn_97 : decode cX11_goesOn 97 = .ok (.bipush 48, 2) := by decide +kernel
theorem dX11_goesOn_99 : decode cX11_goesOn 99 = .ok (.bipush 57, 2) := by decide +kernel
theorem dX11_goesOn_101 : decode cX11_goesOn 101 = .ok (.invokevirtual 248, 3) := by decide +kernel
theorem dX11_goesOn_104 : decode cX11_goesOn 104 = .ok (.ifCond .eq 72, 3) := by decide +kernel
theorem dX11_goesOn_107 : decode cX11_goesOn 107 = .ok (.aload_n 0, 1) := by decide +kernel
theorem dX11_goesOn_108 : decode cX11_goesOn 108 = .ok (.iconst 2, 1) := by decide +kernel
theorem dX11_goesOn_109 : decode cX11_goesOn 109 = .ok (.putfield 257, 3) := by decide +kernel
theorem dX11_goesOn_112 : decode cX11_goesOn 112 = .ok (.aload_n 0, 1) := by decide +kernel
theorem dX11_goesOn_113 : decode cX11_goesOn 113 = .ok (.bipush 48, 2) := by decide +kernel
theorem dX11_goesOn_115 : decode cX11_goesOn 115 = .ok (.bipush 57, 2) := by decide +kernel
theorem dX11_goesOn_117 : decode cX11_goesOn 117 = .ok (.invokevirtual 248, 3) := by decide +kernel
theorem dX11_goesOn_120 : decode cX11_goesOn 120 = .ok (.ifCond .eq 105, 3) := by decide +kernel
theorem dX11_goesOn_123 : decode cX11_goesOn 123 = .ok (.aload_n 0, 1) := by decide +kernel
theorem dX11_goesOn_124 : decode cX11_goesOn 124 = .ok (.aload_n 0, 1) := by decide +kernel
theorem dX11_goesOn_125 : decode cX11_goesOn 125 = .ok (.getfield 254, 3) := by decide +kernel
theorem dX11_goesOn_128 : decode cX11_goesOn 128 = .ok (.bipush 9, 2) := by decide +kernel
theorem dX11_goesOn_130 : decode cX11_goesOn 130 = .ok (.if_icmp .le 10, 3) := by decide +kernel
theorem dX11_goesOn_133 : decode cX11_goesOn 133 = .ok (.aload_n 0, 1) := by decide +kernel
theorem dX11_goesOn_134 : decode cX11_goesOn 134 = .ok (.getfield 254, 3) := by decide +kernel
theorem dX11_goesOn_137 : decode cX11_goesOn 137 = .ok (.goto 23, 3) := by decide +kernel
theorem dX11_goesOn_140 : decode cX11_goesOn 140 = .ok (.bipush 10, 2) := by decide +kernel
theorem dX11_goesOn_142 : decode cX11_goesOn 142 = .ok (.aload_n 0, 1) := by decide +kernel
theorem dX11_goesOn_143 : decode cX11_goesOn 143 = .ok (.getfield 254, 3) := by decide +kernel
theorem dX11_goesOn_146 : decode cX11_goesOn 146 = .ok (.imul, 1) := by decide +kernel
theorem dX11_goesOn_147 : decode cX11_goesOn 147 = .ok (.aload_n 0, 1) := by decide +kernel
theorem dX11_goesOn_148 : decode cX11_goesOn 148 = .ok (.getfield 37, 3) := by decide +kernel
theorem dX11_goesOn_151 : decode cX11_goesOn 151 = .ok (.aload_n 0, 1) := by decide +kernel
theorem dX11_goesOn_152 : decode cX11_goesOn 152 = .ok (.getfield 245, 3) := by decide +kernel
theorem dX11_goesOn_155 : decode cX11_goesOn 155 = .ok (.iaload, 1) := by decide +kernel
theorem dX11_goesOn_156 : decode cX11_goesOn 156 = .ok (.iadd, 1) := by decide +kernel
theorem dX11_goesOn_157 : decode cX11_goesOn 157 = .ok (.bipush 48, 2) := by decide +kernel
theorem dX11_goesOn_159 : decode cX11_goesOn 159 = .ok (.isub, 1) := by decide +kernel
theorem dX11_goesOn_160 : decode cX11_goesOn 160 = .ok (.putfield 254, 3) := by decide +kernel
theorem dX11_goesOn_163 : decode cX11_goesOn 163 = .ok (.aload_n 0, 1) := by decide +kernel
theorem dX11_goesOn_164 : decode cX11_goesOn 164 = .ok (.dup, 1) := by decide +kernel
theorem dX11_goesOn_165 : decode cX11_goesOn 165 = .ok (.getfield 245, 3) := by decide +kernel
theorem dX11_goesOn_168 : decode cX11_goesOn 168 = .ok (.iconst 1, 1) := by decide +kernel
theorem dX11_goesOn_169 : decode cX11_goesOn 169 = .ok (.iadd, 1) := by decide +kernel
theorem dX11_goesOn_170 : decode cX11_goesOn 170 = .ok (.putfield 245, 3) := by decide +kernel
theorem dX11_goesOn_173 : decode cX11_goesOn 173 = .ok (.goto (-61), 3) := by decide +kernel
theorem dX11_goesOn_176 : decode cX11_goesOn 176 = .ok (.aload_n 0, 1) := by decide +kernel
theorem dX11_goesOn_177 : decode cX11_goesOn 177 = .ok (.aload_n 0, 1) := by decide +kernel
theorem dX11_goesOn_178 : decode cX11_goesOn 178 = .ok (.bipush 59, 2) := by decide +kernel
theorem dX11_goesOn_180 : decode cX11_goesOn 180 = .ok (.bipush 59, 2) := by decide +kernel
theorem dX11_goesOn_182 : decode cX11_goesOn 182 = .ok (.invokevirtual 248, 3) := by decide +kernel
theorem dX11_goesOn_185 : decode cX11_goesOn 185 = .ok (.ifCond .ne 14, 3) := by decide +kernel
theorem dX11_goesOn_188 : decode cX11_goesOn 188 = .ok (.aload_n 0, 1) := by decide +kernel
theorem dX11_goesOn_189 : decode cX11_goesOn 189 = .ok (.bipush 45, 2) := by decide +kernel
theorem dX11_goesOn_191 : decode cX11_goesOn 191 = .ok (.bipush 45, 2) := by decide +kernel
theorem dX11_goesOn_193 : decode cX11_goesOn 193 = .ok (.invokevirtual 248, 3) := by decide +kernel
theorem dX11_goesOn_196 : decode cX11_goesOn 196 = .ok (.ifCond .eq 15, 3) := by decide +kernel
theorem dX11_goesOn_199 : decode cX11_goesOn 199 = .ok (.aload_n 0, 1) := by decide +kernel
theorem dX11_goesOn_200 : decode cX11_goesOn 200 = .ok (.getfield 37, 3) := by decide +kernel
theorem dX11_goesOn_203 : decode cX11_goesOn 203 = .ok (.aload_n 0, 1) := by decide +kernel
theorem dX11_goesOn_204 : decode cX11_goesOn 204 = .ok (.getfield 245, 3) := by decide +kernel
theorem dX11_goesOn_207 : decode cX11_goesOn 207 = .ok (.iaload, 1) := by decide +kernel
theorem dX11_goesOn_208 : decode cX11_goesOn 208 = .ok (.goto 4, 3) := by decide +kernel
theorem dX11_goesOn_211 : decode cX11_goesOn 211 = .ok (.iconst 3, 1) := by decide +kernel
theorem dX11_goesOn_212 : decode cX11_goesOn 212 = .ok (.putfield 257, 3) := by decide +kernel
theorem dX11_goesOn_215 : decode cX11_goesOn 215 = .ok (.aload_n 0, 1) := by decide +kernel
theorem dX11_goesOn_216 : decode cX11_goesOn 216 = .ok (.dup, 1) := by decide +kernel
theorem dX11_goesOn_217 : decode cX11_goesOn 217 = .ok (.getfield 245, 3) := by decide +kernel
theorem dX11_goesOn_220 : decode cX11_goesOn 220 = .ok (.iconst 1, 1) := by decide +kernel
theorem dX11_goesOn_221 : decode cX11_goesOn 221 = .ok (.iadd, 1) := by decide +kernel
theorem dX11_goesOn_222 : decode cX11_goesOn 222 = .ok (.putfield 245, 3) := by decide +kernel
theorem dX11_goesOn_225 : decode cX11_goesOn 225 = .ok (.return_, 1) := by decide +kernel
theorem dX11_isWord_0 : decode cX11_isWord 0 = .ok (.aload_n 0, 1) := by decide +kernel
theorem dX11_isWord_1 : decode cX11_isWord 1 = .ok (.getfield 257, 3) := by decide +kernel
theorem dX11_isWord_4 : decode cX11_isWord 4 = .ok (.iconst 1, 1) := by decide +kernel
theorem dX11_isWord_5 : decode cX11_isWord 5 = .ok (.if_icmp .ne 23, 3) := by decide +kernel
theorem dX11_isWord_8 : decode cX11_isWord 8 = .ok (.aload_n 0, 1) := by decide +kernel
theorem dX11_isWord_9 : decode cX11_isWord 9 = .ok (.getfield 245, 3) := by decide +kernel
theorem dX11_isWord_12 : decode cX11_isWord 12 = .ok (.aload_n 0, 1) := by decide +kernel
theorem dX11_isWord_13 : decode cX11_isWord 13 = .ok (.getfield 251, 3) := by decide +kernel
theorem dX11_isWord_16 : decode cX11_isWord 16 = .ok (.isub, 1) := by decide +kernel
theorem dX11_isWord_17 : decode cX11_isWord 17 = .ok (.aload_n 1, 1) := by decide +kernel
theorem dX11_isWord_18 : decode cX11_isWord 18 = .ok (.invokevirtual 260, 3) := by decide +kernel
theorem dX11_isWord_21 : decode cX11_isWord 21 = .ok (.if_icmp .ne 7, 3) := by decide +kernel
theorem dX11_isWord_24 : decode cX11_isWord 24 = .ok (.iconst 1, 1) := by decide +kernel
theorem dX11_isWord_25 : decode cX11_isWord 25 = .ok (.goto 4, 3) := by decide +kernel
theorem dX11_isWord_28 : decode cX11_isWord 28 = .ok (.iconst 0, 1) := by decide +kernel
theorem dX11_isWord_29 : decode cX11_isWord 29 = .ok (.istore_n 2, 1) := by decide +kernel
theorem dX11_isWord_30 : decode cX11_isWord 30 = .ok (.iconst 0, 1) := by decide +kernel
theorem dX11_isWord_31 : decode cX11_isWord 31 = .ok (.istore_n 3, 1) := by decide +kernel
theorem dX11_isWord_32 : decode cX11_isWord 32 = .ok (.iload_n 3, 1) := by decide +kernel
theorem dX11_isWord_33 : decode cX11_isWord 33 = .ok (.aload_n 1, 1) := by decide +kernel
theorem dX11_isWord_34 : decode cX11_isWord 34 = .ok (.invokevirtual 260, 3) := by decide +kernel
theorem dX11_isWord_37 : decode cX11_isWord 37 = .ok (.if_icmp .ge 38, 3) := by decide +kernel
theorem dX11_isWord_40 : decode cX11_isWord 40 = .ok (.iload_n 2, 1) := by decide +kernel
theorem dX11_isWord_41 : decode cX11_isWord 41 = .ok (.ifCond .eq 34, 3) := by decide +kernel
theorem dX11_isWord_44 : decode cX11_isWord 44 = .ok (.aload_n 0, 1) := by decide +kernel
theorem dX11_isWord_45 : decode cX11_isWord 45 = .ok (.getfield 37, 3) := by decide +kernel
theorem dX11_isWord_48 : decode cX11_isWord 48 = .ok (.aload_n 0, 1) := by decide +kernel
theorem dX11_isWord_49 : decode cX11_isWord 49 = .ok (.getfield 251, 3) := by decide +kernel
theorem dX11_isWord_52 : decode cX11_isWord 52 = .ok (.iload_n 3, 1) := by decide +kernel
theorem dX11_isWord_53 : decode cX11_isWord 53 = .ok (.iadd, 1) := by decide +kernel
theorem dX11_isWord_54 : decode cX11_isWord 54 = .ok (.iaload, 1) := by decide +kernel
theorem dX11_isWord_55 : decode cX11_isWord 55 = .ok (.aload_n 1, 1) := by decide +kernel
theorem dX11_isWord_56 : decode cX11_isWord 56 = .ok (.iload_n 3, 1) := by decide +kernel
theorem dX11_isWord_57 : decode cX11_isWord 57 = .ok (.invokevirtual 263, 3) := by decide +kernel
theorem dX11_isWord_60 : decode cX11_isWord 60 = .ok (.if_icmp .ne 7, 3) := by decide +kernel
theorem dX11_isWord_63 : decode cX11_isWord 63 = .ok (.iconst 1, 1) := by decide +kernel
theorem dX11_isWord_64 : decode cX11_isWord 64 = .ok (.goto 4, 3) := by decide +kernel
theorem dX11_isWord_67 : decode cX11_isWord 67 = .ok (.iconst 0, 1) := by decide +kernel
theorem dX11_isWord_68 : decode cX11_isWord 68 = .ok (.istore_n 2, 1) := by decide +kernel
theorem dX11_isWord_69 : decode cX11_isWord 69 = .ok (.iinc 3 1, 3) := by decide +kernel
theorem dX11_isWord_72 : decode cX11_isWord 72 = .ok (.goto (-40), 3) := by decide +kernel
theorem dX11_isWord_75 : decode cX11_isWord 75 = .ok (.iload_n 2, 1) := by decide +kernel
theorem dX11_isWord_76 : decode cX11_isWord 76 = .ok (.ireturn, 1) := by decide +kernel
theorem dX11_wordOf_0 : decode cX11_wordOf 0 = .ok (.iconst (-1), 1) := by decide +kernel
theorem dX11_wordOf_1 : decode cX11_wordOf 1 = .ok (.istore_n 2, 1) := by decide +kernel
theorem dX11_wordOf_2 : decode cX11_wordOf 2 = .ok (.iconst 0, 1) := by decide +kernel
theorem dX11_wordOf_3 : decode cX11_wordOf 3 = .ok (.istore_n 3, 1) := by decide +kernel
theorem dX11_wordOf_4 : decode cX11_wordOf 4 = .ok (.iload_n 3, 1) := by decide +kernel
theorem dX11_wordOf_5 : decode cX11_wordOf 5 = .ok (.aload_n 1, 1) := by decide +kernel
theorem dX11_wordOf_6 : decode cX11_wordOf 6 = .ok (.arraylength, 1) := by decide +kernel
end
section
theorem dX11_wordOf_7 : decode cX11_wordOf 7 = .ok (.if_icmp .ge 25, 3) := by decide +kernel
theorem dX11_wordOf_10 : decode cX11_wordOf 10 = .ok (.aload_n 0, 1) := by decide +kernel
theorem dX11_wordOf_11 : decode cX11_wordOf 11 = .ok (.aload_n 1, 1) := by decide +kernel
theorem dX11_wordOf_12 : decode cX11_wordOf 12 = .ok (.iload_n 3, 1) := by decide +kernel
theorem dX11_wordOf_13 : decode cX11_wordOf 13 = .ok (.aaload, 1) := by decide +kernel
theorem dX11_wordOf_14 : decode cX11_wordOf 14 = .ok (.invokevirtual 267, 3) := by decide +kernel
theorem dX11_wordOf_17 : decode cX11_wordOf 17 = .ok (.ifCond .eq 7, 3) := by decide +kernel
theorem dX11_wordOf_20 : decode cX11_wordOf 20 = .ok (.iload_n 3, 1) := by decide +kernel
theorem dX11_wordOf_21 : decode cX11_wordOf 21 = .ok (.goto 4, 3) := by decide +kernel
theorem dX11_wordOf_24 : decode cX11_wordOf 24 = .ok (.iload_n 2, 1) := by decide +kernel
theorem dX11_wordOf_25 : decode cX11_wordOf 25 = .ok (.istore_n 2, 1) := by decide +kernel
theorem dX11_wordOf_26 : decode cX11_wordOf 26 = .ok (.iinc 3 1, 3) := by decide +kernel
theorem dX11_wordOf_29 : decode cX11_wordOf 29 = .ok (.goto (-25), 3) := by decide +kernel
theorem dX11_wordOf_32 : decode cX11_wordOf 32 = .ok (.iload_n 2, 1) := by decide +kernel
theorem dX11_wordOf_33 : decode cX11_wordOf 33 = .ok (.ireturn, 1) := by decide +kernel
theorem dX11_isNumber_0 : decode cX11_isNumber 0 = .ok (.aload_n 0, 1) := by decide +kernel
theorem dX11_isNumber_1 : decode cX11_isNumber 1 = .ok (.getfield 257, 3) := by decide +kernel
theorem dX11_isNumber_4 : decode cX11_isNumber 4 = .ok (.iconst 2, 1) := by decide +kernel
theorem dX11_isNumber_5 : decode cX11_isNumber 5 = .ok (.if_icmp .ne 11, 3) := by decide +kernel
theorem dX11_isNumber_8 : decode cX11_isNumber 8 = .ok (.aload_n 0, 1) := by decide +kernel
theorem dX11_isNumber_9 : decode cX11_isNumber 9 = .ok (.getfield 254, 3) := by decide +kernel
theorem dX11_isNumber_12 : decode cX11_isNumber 12 = .ok (.iload_n 2, 1) := by decide +kernel
theorem dX11_isNumber_13 : decode cX11_isNumber 13 = .ok (.if_icmp .le 5, 3) := by decide +kernel
theorem dX11_isNumber_16 : decode cX11_isNumber 16 = .ok (.iconst 0, 1) := by decide +kernel
theorem dX11_isNumber_17 : decode cX11_isNumber 17 = .ok (.ireturn, 1) := by decide +kernel
theorem dX11_isNumber_18 : decode cX11_isNumber 18 = .ok (.aload_n 0, 1) := by decide +kernel
theorem dX11_isNumber_19 : decode cX11_isNumber 19 = .ok (.getfield 72, 3) := by decide +kernel
theorem dX11_isNumber_22 : decode cX11_isNumber 22 = .ok (.iload_n 1, 1) := by decide +kernel
theorem dX11_isNumber_23 : decode cX11_isNumber 23 = .ok (.aload_n 0, 1) := by decide +kernel
theorem dX11_isNumber_24 : decode cX11_isNumber 24 = .ok (.getfield 254, 3) := by decide +kernel
theorem dX11_isNumber_27 : decode cX11_isNumber 27 = .ok (.iastore, 1) := by decide +kernel
theorem dX11_isNumber_28 : decode cX11_isNumber 28 = .ok (.aload_n 0, 1) := by decide +kernel
theorem dX11_isNumber_29 : decode cX11_isNumber 29 = .ok (.invokevirtual 271, 3) := by decide +kernel
theorem dX11_isNumber_32 : decode cX11_isNumber 32 = .ok (.iconst 1, 1) := by decide +kernel
theorem dX11_isNumber_33 : decode cX11_isNumber 33 = .ok (.ireturn, 1) := by decide +kernel
theorem dX11_isValue_0 : decode cX11_isValue 0 = .ok (.aload_n 0, 1) := by decide +kernel
theorem dX11_isValue_1 : decode cX11_isValue 1 = .ok (.getfield 257, 3) := by decide +kernel
theorem dX11_isValue_4 : decode cX11_isValue 4 = .ok (.bipush 45, 2) := by decide +kernel
theorem dX11_isValue_6 : decode cX11_isValue 6 = .ok (.if_icmp .ne 7, 3) := by decide +kernel
theorem dX11_isValue_9 : decode cX11_isValue 9 = .ok (.iconst 1, 1) := by decide +kernel
theorem dX11_isValue_10 : decode cX11_isValue 10 = .ok (.goto 4, 3) := by decide +kernel
theorem dX11_isValue_13 : decode cX11_isValue 13 = .ok (.iconst 0, 1) := by decide +kernel
theorem dX11_isValue_14 : decode cX11_isValue 14 = .ok (.istore_n 2, 1) := by decide +kernel
theorem dX11_isValue_15 : decode cX11_isValue 15 = .ok (.iload_n 2, 1) := by decide +kernel
theorem dX11_isValue_16 : decode cX11_isValue 16 = .ok (.ifCond .eq 7, 3) := by decide +kernel
theorem dX11_isValue_19 : decode cX11_isValue 19 = .ok (.aload_n 0, 1) := by decide +kernel
theorem dX11_isValue_20 : decode cX11_isValue 20 = .ok (.invokevirtual 271, 3) := by decide +kernel
theorem dX11_isValue_23 : decode cX11_isValue 23 = .ok (.aload_n 0, 1) := by decide +kernel
theorem dX11_isValue_24 : decode cX11_isValue 24 = .ok (.iload_n 1, 1) := by decide +kernel
theorem dX11_isValue_25 : decode cX11_isValue 25 = .ok (.bipush 9, 2) := by decide +kernel
theorem dX11_isValue_27 : decode cX11_isValue 27 = .ok (.invokevirtual 274, 3) := by decide +kernel
theorem dX11_isValue_30 : decode cX11_isValue 30 = .ok (.ifCond .ne 5, 3) := by decide +kernel
theorem dX11_isValue_33 : decode cX11_isValue 33 = .ok (.iconst 0, 1) := by decide +kernel
theorem dX11_isValue_34 : decode cX11_isValue 34 = .ok (.ireturn, 1) := by decide +kernel
theorem dX11_isValue_35 : decode cX11_isValue 35 = .ok (.aload_n 0, 1) := by decide +kernel
theorem dX11_isValue_36 : decode cX11_isValue 36 = .ok (.getfield 72, 3) := by decide +kernel
theorem dX11_isValue_39 : decode cX11_isValue 39 = .ok (.iload_n 1, 1) := by decide +kernel
theorem dX11_isValue_40 : decode cX11_isValue 40 = .ok (.iload_n 2, 1) := by decide +kernel
theorem dX11_isValue_41 : decode cX11_isValue 41 = .ok (.ifCond .eq 13, 3) := by decide +kernel
theorem dX11_isValue_44 : decode cX11_isValue 44 = .ok (.aload_n 0, 1) := by decide +kernel
theorem dX11_isValue_45 : decode cX11_isValue 45 = .ok (.getfield 72, 3) := by decide +kernel
theorem dX11_isValue_48 : decode cX11_isValue 48 = .ok (.iload_n 1, 1) := by decide +kernel
theorem dX11_isValue_49 : decode cX11_isValue 49 = .ok (.iaload, 1) := by decide +kernel
theorem dX11_isValue_50 : decode cX11_isValue 50 = .ok (.ineg, 1) := by decide +kernel
theorem dX11_isValue_51 : decode cX11_isValue 51 = .ok (.goto 9, 3) := by decide +kernel
theorem dX11_isValue_54 : decode cX11_isValue 54 = .ok (.aload_n 0, 1) := by decide +kernel
theorem dX11_isValue_55 : decode cX11_isValue 55 = .ok (.getfield 72, 3) := by decide +kernel
theorem dX11_isValue_58 : decode cX11_isValue 58 = .ok (.iload_n 1, 1) := by decide +kernel
theorem dX11_isValue_59 : decode cX11_isValue 59 = .ok (.iaload, 1) := by decide +kernel
theorem dX11_isValue_60 : decode cX11_isValue 60 = .ok (.iastore, 1) := by decide +kernel
theorem dX11_isValue_61 : decode cX11_isValue 61 = .ok (.iconst 1, 1) := by decide +kernel
theorem dX11_isValue_62 : decode cX11_isValue 62 = .ok (.ireturn, 1) := by decide +kernel
theorem dX11_isPhrase_0 : decode cX11_isPhrase 0 = .ok (.aload_n 0, 1) := by decide +kernel
theorem dX11_isPhrase_1 : decode cX11_isPhrase 1 = .ok (.aload_n 0, 1) := by decide +kernel
theorem dX11_isPhrase_2 : decode cX11_isPhrase 2 = .ok (.getfield 54, 3) := by decide +kernel
theorem dX11_isPhrase_5 : decode cX11_isPhrase 5 = .ok (.invokevirtual 277, 3) := by decide +kernel
theorem dX11_isPhrase_8 : decode cX11_isPhrase 8 = .ok (.istore_n 1, 1) := by decide +kernel
theorem dX11_isPhrase_9 : decode cX11_isPhrase 9 = .ok (.iload_n 1, 1) := by decide +kernel
theorem dX11_isPhrase_10 : decode cX11_isPhrase 10 = .ok (.iconst (-1), 1) := by decide +kernel
theorem dX11_isPhrase_11 : decode cX11_isPhrase 11 = .ok (.if_icmp .eq 16, 3) := by decide +kernel
theorem dX11_isPhrase_14 : decode cX11_isPhrase 14 = .ok (.aload_n 0, 1) := by decide +kernel
theorem dX11_isPhrase_15 : decode cX11_isPhrase 15 = .ok (.getfield 7, 3) := by decide +kernel
theorem dX11_isPhrase_18 : decode cX11_isPhrase 18 = .ok (.sipush 239, 3) := by decide +kernel
theorem dX11_isPhrase_21 : decode cX11_isPhrase 21 = .ok (.iaload, 1) := by decide +kernel
theorem dX11_isPhrase_22 : decode cX11_isPhrase 22 = .ok (.bipush 10, 2) := by decide +kernel
theorem dX11_isPhrase_24 : decode cX11_isPhrase 24 = .ok (.if_icmp .ne 5, 3) := by decide +kernel
theorem dX11_isPhrase_27 : decode cX11_isPhrase 27 = .ok (.iconst 0, 1) := by decide +kernel
theorem dX11_isPhrase_28 : decode cX11_isPhrase 28 = .ok (.ireturn, 1) := by decide +kernel
theorem dX11_isPhrase_29 : decode cX11_isPhrase 29 = .ok (.iconst 0, 1) := by decide +kernel
theorem dX11_isPhrase_30 : decode cX11_isPhrase 30 = .ok (.istore_n 2, 1) := by decide +kernel
theorem dX11_isPhrase_31 : decode cX11_isPhrase 31 = .ok (.iload_n 2, 1) := by decide +kernel
theorem dX11_isPhrase_32 : decode cX11_isPhrase 32 = .ok (.iconst 3, 1) := by decide +kernel
theorem dX11_isPhrase_33 : decode cX11_isPhrase 33 = .ok (.if_icmp .ge 16, 3) := by decide +kernel
theorem dX11_isPhrase_36 : decode cX11_isPhrase 36 = .ok (.aload_n 0, 1) := by decide +kernel
theorem dX11_isPhrase_37 : decode cX11_isPhrase 37 = .ok (.getfield 72, 3) := by decide +kernel
theorem dX11_isPhrase_40 : decode cX11_isPhrase 40 = .ok (.iload_n 2, 1) := by decide +kernel
theorem dX11_isPhrase_41 : decode cX11_isPhrase 41 = .ok (.iconst 0, 1) := by decide +kernel
theorem dX11_isPhrase_42 : decode cX11_isPhrase 42 = .ok (.iastore, 1) := by decide +kernel
theorem dX11_isPhrase_43 : decode cX11_isPhrase 43 = .ok (.iinc 2 1, 3) := by decide +kernel
theorem dX11_isPhrase_46 : decode cX11_isPhrase 46 = .ok (.goto (-15), 3) := by decide +kernel
theorem dX11_isPhrase_49 : decode cX11_isPhrase 49 = .ok (.aload_n 0, 1) := by decide +kernel
theorem dX11_isPhrase_50 : decode cX11_isPhrase 50 = .ok (.invokevirtual 271, 3) := by decide +kernel
theorem dX11_isPhrase_53 : decode cX11_isPhrase 53 = .ok (.iload_n 1, 1) := by decide +kernel
theorem dX11_isPhrase_54 : decode cX11_isPhrase 54 = .ok (.ifCond .le 33, 3) := by decide +kernel
theorem dX11_isPhrase_57 : decode cX11_isPhrase 57 = .ok (.aload_n 0, 1) := by decide +kernel
theorem dX11_isPhrase_58 : decode cX11_isPhrase 58 = .ok (.iconst 0, 1) := by decide +kernel
theorem dX11_isPhrase_59 : decode cX11_isPhrase 59 = .ok (.iload_n 1, 1) := by decide +kernel
theorem dX11_isPhrase_60 : decode cX11_isPhrase 60 = .ok (.iconst 1, 1) := by decide +kernel
theorem dX11_isPhrase_61 : decode cX11_isPhrase 61 = .ok (.if_icmp .ne 7, 3) := by decide +kernel
theorem dX11_isPhrase_64 : decode cX11_isPhrase 64 = .ok (.iconst 1, 1) := by decide +kernel
theorem dX11_isPhrase_65 : decode cX11_isPhrase 65 = .ok (.goto 14, 3) := by decide +kernel
theorem dX11_isPhrase_68 : decode cX11_isPhrase 68 = .ok (.iload_n 1, 1) := by decide +kernel
theorem dX11_isPhrase_69 : decode cX11_isPhrase 69 = .ok (.iconst 5, 1) := by decide +kernel
theorem dX11_isPhrase_70 : decode cX11_isPhrase 70 = .ok (.if_icmp .ne 8, 3) := by decide +kernel
theorem dX11_isPhrase_73 : decode cX11_isPhrase 73 = .ok (.bipush 7, 2) := by decide +kernel
theorem dX11_isPhrase_75 : decode cX11_isPhrase 75 = .ok (.goto 4, 3) := by decide +kernel
theorem dX11_isPhrase_78 : decode cX11_isPhrase 78 = .ok (.iconst 5, 1) := by decide +kernel
theorem dX11_isPhrase_79 : decode cX11_isPhrase 79 = .ok (.invokevirtual 274, 3) := by decide +kernel
theorem dX11_isPhrase_82 : decode cX11_isPhrase 82 = .ok (.ifCond .ne 5, 3) := by decide +kernel
theorem dX11_isPhrase_85 : decode cX11_isPhrase 85 = .ok (.iconst 0, 1) := by decide +kernel
theorem dX11_isPhrase_86 : decode cX11_isPhrase 86 = .ok (.ireturn, 1) := by decide +kernel
theorem dX11_isPhrase_87 : decode cX11_isPhrase 87 = .ok (.aload_n 0, 1) := by decide +kernel
theorem dX11_isPhrase_88 : decode cX11_isPhrase 88 = .ok (.aload_n 0, 1) := by decide +kernel
theorem dX11_isPhrase_89 : decode cX11_isPhrase 89 = .ok (.getfield 69, 3) := by decide +kernel
theorem dX11_isPhrase_92 : decode cX11_isPhrase 92 = .ok (.invokevirtual 277, 3) := by decide +kernel
theorem dX11_isPhrase_95 : decode cX11_isPhrase 95 = .ok (.istore_n 2, 1) := by decide +kernel
theorem dX11_isPhrase_96 : decode cX11_isPhrase 96 = .ok (.iload_n 2, 1) := by decide +kernel
theorem dX11_isPhrase_97 : decode cX11_isPhrase 97 = .ok (.iconst (-1), 1) := by decide +kernel
theorem dX11_isPhrase_98 : decode cX11_isPhrase 98 = .ok (.if_icmp .ne 5, 3) := by decide +kernel
theorem dX11_isPhrase_101 : decode cX11_isPhrase 101 = .ok (.iconst 0, 1) := by decide +kernel
theorem dX11_isPhrase_102 : decode cX11_isPhrase 102 = .ok (.ireturn, 1) := by decide +kernel
theorem dX11_isPhrase_103 : decode cX11_isPhrase 103 = .ok (.aload_n 0, 1) := by decide +kernel
theorem dX11_isPhrase_104 : decode cX11_isPhrase 104 = .ok (.invokevirtual 271, 3) := by decide +kernel
theorem dX11_isPhrase_107 : decode cX11_isPhrase 107 = .ok (.iload_n 2, 1) := by decide +kernel
theorem dX11_isPhrase_108 : decode cX11_isPhrase 108 = .ok (.iconst 3, 1) := by decide +kernel
theorem dX11_isPhrase_109 : decode cX11_isPhrase 109 = .ok (.if_icmp .ge 14, 3) := by decide +kernel
theorem dX11_isPhrase_112 : decode cX11_isPhrase 112 = .ok (.aload_n 0, 1) := by decide +kernel
theorem dX11_isPhrase_113 : decode cX11_isPhrase 113 = .ok (.iconst 1, 1) := by decide +kernel
theorem dX11_isPhrase_114 : decode cX11_isPhrase 114 = .ok (.iconst 5, 1) := by decide +kernel
theorem dX11_isPhrase_115 : decode cX11_isPhrase 115 = .ok (.invokevirtual 274, 3) := by decide +kernel
theorem dX11_isPhrase_118 : decode cX11_isPhrase 118 = .ok (.ifCond .ne 5, 3) := by decide +kernel
theorem dX11_isPhrase_121 : decode cX11_isPhrase 121 = .ok (.iconst 0, 1) := by decide +kernel
theorem dX11_isPhrase_122 : decode cX11_isPhrase 122 = .ok (.ireturn, 1) := by decide +kernel
theorem dX11_isPhrase_123 : decode cX11_isPhrase 123 = .ok (.iload_n 2, 1) := by decide +kernel
theorem dX11_isPhrase_124 : decode cX11_isPhrase 124 = .ok (.iconst 3, 1) := by decide +kernel
theorem dX11_isPhrase_125 : decode cX11_isPhrase 125 = .ok (.iconst 4, 1) := by decide +kernel
theorem dX11_isPhrase_126 : decode cX11_isPhrase 126 = .ok (.invokestatic 84, 3) := by decide +kernel
theorem dX11_isPhrase_129 : decode cX11_isPhrase 129 = .ok (.ifCond .eq 21, 3) := by decide +kernel
theorem dX11_isPhrase_132 : decode cX11_isPhrase 132 = .ok (.aload_n 0, 1) := by decide +kernel
theorem dX11_isPhrase_133 : decode cX11_isPhrase 133 = .ok (.iconst 1, 1) := by decide +kernel
theorem dX11_isPhrase_134 : decode cX11_isPhrase 134 = .ok (.invokevirtual 281, 3) := by decide +kernel
theorem dX11_isPhrase_137 : decode cX11_isPhrase 137 = .ok (.ifCond .eq 11, 3) := by decide +kernel
theorem dX11_isPhrase_140 : decode cX11_isPhrase 140 = .ok (.aload_n 0, 1) := by decide +kernel
theorem dX11_isPhrase_141 : decode cX11_isPhrase 141 = .ok (.iconst 2, 1) := by decide +kernel
theorem dX11_isPhrase_142 : decode cX11_isPhrase 142 = .ok (.invokevirtual 281, 3) := by decide +kernel
theorem dX11_isPhrase_145 : decode cX11_isPhrase 145 = .ok (.ifCond .ne 5, 3) := by decide +kernel
theorem dX11_isPhrase_148 : decode cX11_isPhrase 148 = .ok (.iconst 0, 1) := by decide +kernel
theorem dX11_isPhrase_149 : decode cX11_isPhrase 149 = .ok (.ireturn, 1) := by decide +kernel
theorem dX11_isPhrase_150 : decode cX11_isPhrase 150 = .ok (.aload_n 0, 1) := by decide +kernel
theorem dX11_isPhrase_151 : decode cX11_isPhrase 151 = .ok (.aload_n 0, 1) := by decide +kernel
theorem dX11_isPhrase_152 : decode cX11_isPhrase 152 = .ok (.getfield 7, 3) := by decide +kernel
theorem dX11_isPhrase_155 : decode cX11_isPhrase 155 = .ok (.sipush 239, 3) := by decide +kernel
theorem dX11_isPhrase_158 : decode cX11_isPhrase 158 = .ok (.iaload, 1) := by decide +kernel
theorem dX11_isPhrase_159 : decode cX11_isPhrase 159 = .ok (.iload_n 2, 1) := by decide +kernel
theorem dX11_isPhrase_160 : decode cX11_isPhrase 160 = .ok (.iload_n 1, 1) := by decide +kernel
theorem dX11_isPhrase_161 : decode cX11_isPhrase 161 = .ok (.aload_n 0, 1) := by decide +kernel
theorem dX11_isPhrase_162 : decode cX11_isPhrase 162 = .ok (.getfield 72, 3) := by decide +kernel
theorem dX11_isPhrase_165 : decode cX11_isPhrase 165 = .ok (.iconst 0, 1) := by decide +kernel
theorem dX11_isPhrase_166 : decode cX11_isPhrase 166 = .ok (.iaload, 1) := by decide +kernel
theorem dX11_isPhrase_167 : decode cX11_isPhrase 167 = .ok (.aload_n 0, 1) := by decide +kernel
theorem dX11_isPhrase_168 : decode cX11_isPhrase 168 = .ok (.getfield 72, 3) := by decide +kernel
theorem dX11_isPhrase_171 : decode cX11_isPhrase 171 = .ok (.iconst 1, 1) := by decide +kernel
theorem dX11_isPhrase_172 : decode cX11_isPhrase 172 = .ok (.iaload, 1) := by decide +kernel
theorem dX11_isPhrase_173 : decode cX11_isPhrase 173 = .ok (.aload_n 0, 1) := by decide +kernel
theorem dX11_isPhrase_174 : decode cX11_isPhrase 174 = .ok (.getfield 72, 3) := by decide +kernel
theorem dX11_isPhrase_177 : decode cX11_isPhrase 177 = .ok (.iconst 2, 1) := by decide +kernel
theorem dX11_isPhrase_178 : decode cX11_isPhrase 178 = .ok (.iaload, 1) := by decide +kernel
theorem dX11_isPhrase_179 : decode cX11_isPhrase 179 = .ok (.invokevirtual 179, 3) := by decide +kernel
theorem dX11_isPhrase_182 : decode cX11_isPhrase 182 = .ok (.aload_n 0, 1) := by decide +kernel
theorem dX11_isPhrase_183 : decode cX11_isPhrase 183 = .ok (.getfield 7, 3) := by decide +kernel
theorem dX11_isPhrase_186 : decode cX11_isPhrase 186 = .ok (.sipush 239, 3) := by decide +kernel
theorem dX11_isPhrase_189 : decode cX11_isPhrase 189 = .ok (.dup2, 1) := by decide +kernel
theorem dX11_isPhrase_190 : decode cX11_isPhrase 190 = .ok (.iaload, 1) := by decide +kernel
theorem dX11_isPhrase_191 : decode cX11_isPhrase 191 = .ok (.iconst 1, 1) := by decide +kernel
theorem dX11_isPhrase_192 : decode cX11_isPhrase 192 = .ok (.iadd, 1) := by decide +kernel
theorem dX11_isPhrase_193 : decode cX11_isPhrase 193 = .ok (.iastore, 1) := by decide +kernel
theorem dX11_isPhrase_194 : decode cX11_isPhrase 194 = .ok (.iconst 1, 1) := by decide +kernel
theorem dX11_isPhrase_195 : decode cX11_isPhrase 195 = .ok (.ireturn, 1) := by decide +kernel
theorem dX11_isText_0 : decode cX11_isText 0 = .ok (.aload_n 0, 1) := by decide +kernel
theorem dX11_isText_1 : decode cX11_isText 1 = .ok (.iconst 0, 1) := by decide +kernel
theorem dX11_isText_2 : decode cX11_isText 2 = .ok (.putfield 245, 3) := by decide +kernel
theorem dX11_isText_5 : decode cX11_isText 5 = .ok (.aload_n 0, 1) := by decide +kernel
theorem dX11_isText_6 : decode cX11_isText 6 = .ok (.invokevirtual 271, 3) := by decide +kernel
theorem dX11_isText_9 : decode cX11_isText 9 = .ok (.aload_n 0, 1) := by decide +kernel
theorem dX11_isText_10 : decode cX11_isText 10 = .ok (.invokevirtual 284, 3) := by decide +kernel
theorem dX11_isText_13 : decode cX11_isText 13 = .ok (.ifCond .ne 5, 3) := by decide +kernel
theorem dX11_isText_16 : decode cX11_isText 16 = .ok (.iconst 0, 1) := by decide +kernel
theorem dX11_isText_17 : decode cX11_isText 17 = .ok (.ireturn, 1) := by decide +kernel
theorem dX11_isText_18 : decode cX11_isText 18 = .ok (.aload_n 0, 1) := by decide +kernel
theorem dX11_isText_19 : decode cX11_isText 19 = .ok (.getfield 257, 3) := by decide +kernel
theorem dX11_isText_22 : decode cX11_isText 22 = .ok (.ifCond .ne 5, 3) := by decide +kernel
theorem dX11_isText_25 : decode cX11_isText 25 = .ok (.iconst 1, 1) := by decide +kernel
theorem dX11_isText_26 : decode cX11_isText 26 = .ok (.ireturn, 1) := by decide +kernel
theorem dX11_isText_27 : decode cX11_isText 27 = .ok (.aload_n 0, 1) := by decide +kernel
theorem dX11_isText_28 : decode cX11_isText 28 = .ok (.getfield 257, 3) := by decide +kernel
theorem dX11_isText_31 : decode cX11_isText 31 = .ok (.bipush 59, 2) := by decide +kernel
theorem dX11_isText_33 : decode cX11_isText 33 = .ok (.if_icmp .eq 5, 3) := by decide +kernel
theorem dX11_isText_36 : decode cX11_isText 36 = .ok (.iconst 0, 1) := by decide +kernel
theorem dX11_isText_37 : decode cX11_isText 37 = .ok (.ireturn, 1) := by decide +kernel
theorem dX11_isText_38 : decode cX11_isText 38 = .ok (.aload_n 0, 1) := by decide +kernel
theorem dX11_isText_39 : decode cX11_isText 39 = .ok (.invokevirtual 271, 3) := by decide +kernel
theorem dX11_isText_42 : decode cX11_isText 42 = .ok (.goto (-33), 3) := by decide +kernel
theorem dX11_text_0 : decode cX11_text 0 = .ok (.aload_n 0, 1) := by decide +kernel
theorem dX11_text_1 : decode cX11_text 1 = .ok (.getfield 7, 3) := by decide +kernel
theorem dX11_text_4 : decode cX11_text 4 = .ok (.sipush 239, 3) := by decide +kernel
theorem dX11_text_7 : decode cX11_text 7 = .ok (.iaload, 1) := by decide +kernel
theorem dX11_text_8 : decode cX11_text 8 = .ok (.istore_n 1, 1) := by decide +kernel
theorem dX11_text_9 : decode cX11_text 9 = .ok (.aload_n 0, 1) := by decide +kernel
theorem dX11_text_10 : decode cX11_text 10 = .ok (.invokevirtual 288, 3) := by decide +kernel
theorem dX11_text_13 : decode cX11_text 13 = .ok (.istore_n 2, 1) := by decide +kernel
theorem dX11_text_14 : decode cX11_text 14 = .ok (.aload_n 0, 1) := by decide +kernel
theorem dX11_text_15 : decode cX11_text 15 = .ok (.iconst 0, 1) := by decide +kernel
theorem dX11_text_16 : decode cX11_text 16 = .ok (.putfield 242, 3) := by decide +kernel
theorem dX11_text_19 : decode cX11_text 19 = .ok (.iload_n 2, 1) := by decide +kernel
theorem dX11_text_20 : decode cX11_text 20 = .ok (.ifCond .eq 18, 3) := by decide +kernel
theorem dX11_text_23 : decode cX11_text 23 = .ok (.aload_n 0, 1) := by decide +kernel
theorem dX11_text_24 : decode cX11_text 24 = .ok (.aload_n 0, 1) := by decide +kernel
theorem dX11_text_25 : decode cX11_text 25 = .ok (.getfield 7, 3) := by decide +kernel
theorem dX11_text_28 : decode cX11_text 28 = .ok (.sipush 239, 3) := by decide +kernel
theorem dX11_text_31 : decode cX11_text 31 = .ok (.iaload, 1) := by decide +kernel
theorem dX11_text_32 : decode cX11_text 32 = .ok (.iload_n 1, 1) := by decide +kernel
theorem dX11_text_33 : decode cX11_text 33 = .ok (.isub, 1) := by decide +kernel
theorem dX11_text_34 : decode cX11_text 34 = .ok (.invokevirtual 167, 3) := by decide +kernel
theorem dX11_text_37 : decode cX11_text 37 = .ok (.ireturn, 1) := by decide +kernel
theorem dX11_text_38 : decode cX11_text 38 = .ok (.aload_n 0, 1) := by decide +kernel
theorem dX11_text_39 : decode cX11_text 39 = .ok (.getfield 7, 3) := by decide +kernel
theorem dX11_text_42 : decode cX11_text 42 = .ok (.sipush 239, 3) := by decide +kernel
theorem dX11_text_45 : decode cX11_text 45 = .ok (.iload_n 1, 1) := by decide +kernel
theorem dX11_text_46 : decode cX11_text 46 = .ok (.iastore, 1) := by decide +kernel
theorem dX11_text_47 : decode cX11_text 47 = .ok (.bipush (-100), 2) := by decide +kernel
theorem dX11_text_49 : decode cX11_text 49 = .ok (.aload_n 0, 1) := by decide +kernel
theorem dX11_text_50 : decode cX11_text 50 = .ok (.getfield 251, 3) := by decide +kernel
theorem dX11_text_53 : decode cX11_text 53 = .ok (.isub, 1) := by decide +kernel
theorem dX11_text_54 : decode cX11_text 54 = .ok (.ireturn, 1) := by decide +kernel
theorem dX11_says_0 : decode cX11_says 0 = .ok (.aload_n 0, 1) := by decide +kernel
theorem dX11_says_1 : decode cX11_says 1 = .ok (.getfield 81, 3) := by decide +kernel
theorem dX11_says_4 : decode cX11_says 4 = .ok (.bipush 40, 2) := by decide +kernel
theorem dX11_says_6 : decode cX11_says 6 = .ok (.iload_n 1, 1) := by decide +kernel
theorem dX11_says_7 : decode cX11_says 7 = .ok (.imul, 1) := by decide +kernel
theorem dX11_says_8 : decode cX11_says 8 = .ok (.aload_n 0, 1) := by decide +kernel
theorem dX11_says_9 : decode cX11_says 9 = .ok (.getfield 291, 3) := by decide +kernel
theorem dX11_says_12 : decode cX11_says 12 = .ok (.iadd, 1) := by decide +kernel
theorem dX11_says_13 : decode cX11_says 13 = .ok (.iload_n 2, 1) := by decide +kernel
theorem dX11_says_14 : decode cX11_says 14 = .ok (.iastore, 1) := by decide +kernel
theorem dX11_says_15 : decode cX11_says 15 = .ok (.aload_n 0, 1) := by decide +kernel
theorem dX11_says_16 : decode cX11_says 16 = .ok (.dup, 1) := by decide +kernel
theorem dX11_says_17 : decode cX11_says 17 = .ok (.getfield 291, 3) := by decide +kernel
theorem dX11_says_20 : decode cX11_says 20 = .ok (.iconst 1, 1) := by decide +kernel
theorem dX11_says_21 : decode cX11_says 21 = .ok (.iadd, 1) := by decide +kernel
theorem dX11_says_22 : decode cX11_says 22 = .ok (.putfield 291, 3) := by decide +kernel
theorem dX11_says_25 : decode cX11_says 25 = .ok (.return_, 1) := by decide +kernel
theorem dX11_saysWord_0 : decode cX11_saysWord 0 = .ok (.aload_n 0, 1) := by decide +kernel
theorem dX11_saysWord_1 : decode cX11_saysWord 1 = .ok (.getfield 291, 3) := by decide +kernel
theorem dX11_saysWord_4 : decode cX11_saysWord 4 = .ok (.ifCond .le 10, 3) := by decide +kernel
theorem dX11_saysWord_7 : decode cX11_saysWord 7 = .ok (.aload_n 0, 1) := by decide +kernel
theorem dX11_saysWord_8 : decode cX11_saysWord 8 = .ok (.iload_n 1, 1) := by decide +kernel
theorem dX11_saysWord_9 : decode cX11_saysWord 9 = .ok (.bipush 32, 2) := by decide +kernel
theorem dX11_saysWord_11 : decode cX11_saysWord 11 = .ok (.invokevirtual 294, 3) := by decide +kernel
theorem dX11_saysWord_14 : decode cX11_saysWord 14 = .ok (.iconst 0, 1) := by decide +kernel
theorem dX11_saysWord_15 : decode cX11_saysWord 15 = .ok (.istore_n 3, 1) := by decide +kernel
theorem dX11_saysWord_16 : decode cX11_saysWord 16 = .ok (.iload_n 3, 1) := by decide +kernel
theorem dX11_saysWord_17 : decode cX11_saysWord 17 = .ok (.aload_n 2, 1) := by decide +kernel
theorem dX11_saysWord_18 : decode cX11_saysWord 18 = .ok (.invokevirtual 260, 3) := by decide +kernel
theorem dX11_saysWord_21 : decode cX11_saysWord 21 = .ok (.if_icmp .ge 19, 3) := by decide +kernel
theorem dX11_saysWord_24 : decode cX11_saysWord 24 = .ok (.aload_n 0, 1) := by decide +kernel
theorem dX11_saysWord_25 : decode cX11_saysWord 25 = .ok (.iload_n 1, 1) := by decide +kernel
theorem dX11_saysWord_26 : decode cX11_saysWord 26 = .ok (.aload_n 2, 1) := by decide +kernel
theorem dX11_saysWord_27 : decode cX11_saysWord 27 = .ok (.iload_n 3, 1) := by decide +kernel
theorem dX11_saysWord_28 : decode cX11_saysWord 28 = .ok (.invokevirtual 263, 3) := by decide +kernel
theorem dX11_saysWord_31 : decode cX11_saysWord 31 = .ok (.invokevirtual 294, 3) := by decide +kernel
theorem dX11_saysWord_34 : decode cX11_saysWord 34 = .ok (.iinc 3 1, 3) := by decide +kernel
theorem dX11_saysWord_37 : decode cX11_saysWord 37 = .ok (.goto (-21), 3) := by decide +kernel
theorem dX11_saysWord_40 : decode cX11_saysWord 40 = .ok (.return_, 1) := by decide +kernel
theorem dX11_saysNumber_0 : decode cX11_saysNumber 0 = .ok (.aload_n 0, 1) := by decide +kernel
theorem dX11_saysNumber_1 : decode cX11_saysNumber 1 = .ok (.iload_n 1, 1) := by decide +kernel
theorem dX11_saysNumber_2 : decode cX11_saysNumber 2 = .ok (.bipush 32, 2) := by decide +kernel
theorem dX11_saysNumber_4 : decode cX11_saysNumber 4 = .ok (.invokevirtual 294, 3) := by decide +kernel
theorem dX11_saysNumber_7 : decode cX11_saysNumber 7 = .ok (.iload_n 2, 1) := by decide +kernel
theorem dX11_saysNumber_8 : decode cX11_saysNumber 8 = .ok (.ifCond .ge 10, 3) := by decide +kernel
theorem dX11_saysNumber_11 : decode cX11_saysNumber 11 = .ok (.aload_n 0, 1) := by decide +kernel
theorem dX11_saysNumber_12 : decode cX11_saysNumber 12 = .ok (.iload_n 1, 1) := by decide +kernel
theorem dX11_saysNumber_13 : decode cX11_saysNumber 13 = .ok (.bipush 45, 2) := by decide +kernel
theorem dX11_saysNumber_15 : decode cX11_saysNumber 15 = .ok (.invokevirtual 294, 3) := by decide +kernel
theorem dX11_saysNumber_18 : decode cX11_saysNumber 18 = .ok (.aload_n 0, 1) := by decide +kernel
theorem dX11_saysNumber_19 : decode cX11_saysNumber 19 = .ok (.iload_n 1, 1) := by decide +kernel
theorem dX11_saysNumber_20 : decode cX11_saysNumber 20 = .ok (.bipush 48, 2) := by decide +kernel
theorem dX11_saysNumber_22 : decode cX11_saysNumber 22 = .ok (.iload_n 2, 1) := by decide +kernel
theorem dX11_saysNumber_23 : decode cX11_saysNumber 23 = .ok (.ifCond .ge 8, 3) := by decide +kernel
theorem dX11_saysNumber_26 : decode cX11_saysNumber 26 = .ok (.iload_n 2, 1) := by decide +kernel
theorem dX11_saysNumber_27 : decode cX11_saysNumber 27 = .ok (.ineg, 1) := by decide +kernel
theorem dX11_saysNumber_28 : decode cX11_saysNumber 28 = .ok (.goto 4, 3) := by decide +kernel
theorem dX11_saysNumber_31 : decode cX11_saysNumber 31 = .ok (.iload_n 2, 1) := by decide +kernel
theorem dX11_saysNumber_32 : decode cX11_saysNumber 32 = .ok (.iadd, 1) := by decide +kernel
theorem dX11_saysNumber_33 : decode cX11_saysNumber 33 = .ok (.invokevirtual 294, 3) := by decide +kernel
theorem dX11_saysNumber_36 : decode cX11_saysNumber 36 = .ok (.return_, 1) := by decide +kernel
theorem dX11_tell_0 : decode cX11_tell 0 = .ok (.aload_n 0, 1) := by decide +kernel
theorem dX11_tell_1 : decode cX11_tell 1 = .ok (.iload_n 1, 1) := by decide +kernel
theorem dX11_tell_2 : decode cX11_tell 2 = .ok (.invokevirtual 183, 3) := by decide +kernel
theorem dX11_tell_5 : decode cX11_tell 5 = .ok (.ifCond .eq 10, 3) := by decide +kernel
theorem dX11_tell_8 : decode cX11_tell 8 = .ok (.iload_n 2, 1) := by decide +kernel
theorem dX11_tell_9 : decode cX11_tell 9 = .ok (.invokestatic 297, 3) := by decide +kernel
theorem dX11_tell_12 : decode cX11_tell 12 = .ok (.ifCond .ne 6, 3) := by decide +kernel
theorem dX11_tell_15 : decode cX11_tell 15 = .ok (.bipush (-2), 2) := by decide +kernel
theorem dX11_tell_17 : decode cX11_tell 17 = .ok (.ireturn, 1) := by decide +kernel
theorem dX11_tell_18 : decode cX11_tell 18 = .ok (.aload_n 0, 1) := by decide +kernel
theorem dX11_tell_19 : decode cX11_tell 19 = .ok (.iload_n 1, 1) := by decide +kernel
theorem dX11_tell_20 : decode cX11_tell 20 = .ok (.iconst 1, 1) := by decide +kernel
theorem dX11_tell_21 : decode cX11_tell 21 = .ok (.invokevirtual 103, 3) := by decide +kernel
theorem dX11_tell_24 : decode cX11_tell 24 = .ok (.istore_n 3, 1) := by decide +kernel
theorem dX11_tell_25 : decode cX11_tell 25 = .ok (.iconst 0, 1) := by decide +kernel
theorem dX11_tell_26 : decode cX11_tell 26 = .ok (.istore 4, 2) := by decide +kernel
theorem dX11_tell_28 : decode cX11_tell 28 = .ok (.iload 4, 2) := by decide +kernel
theorem dX11_tell_30 : decode cX11_tell 30 = .ok (.bipush 40, 2) := by decide +kernel
theorem dX11_tell_32 : decode cX11_tell 32 = .ok (.if_icmp .ge 22, 3) := by decide +kernel
theorem dX11_tell_35 : decode cX11_tell 35 = .ok (.aload_n 0, 1) := by decide +kernel
theorem dX11_tell_36 : decode cX11_tell 36 = .ok (.getfield 81, 3) := by decide +kernel
theorem dX11_tell_39 : decode cX11_tell 39 = .ok (.bipush 40, 2) := by decide +kernel
theorem dX11_tell_41 : decode cX11_tell 41 = .ok (.iload_n 2, 1) := by decide +kernel
theorem dX11_tell_42 : decode cX11_tell 42 = .ok (.imul, 1) := by decide +kernel
theorem dX11_tell_43 : decode cX11_tell 43 = .ok (.iload 4, 2) := by decide +kernel
theorem dX11_tell_45 : decode cX11_tell 45 = .ok (.iadd, 1) := by decide +kernel
theorem dX11_tell_46 : decode cX11_tell 46 = .ok (.iconst 0, 1) := by decide +kernel
theorem dX11_tell_47 : decode cX11_tell 47 = .ok (.iastore, 1) := by decide +kernel
theorem dX11_tell_48 : decode cX11_tell 48 = .ok (.iinc 4 1, 3) := by decide +kernel
theorem dX11_tell_51 : decode cX11_tell 51 = .ok (.goto (-23), 3) := by decide +kernel
theorem dX11_tell_54 : decode cX11_tell 54 = .ok (.aload_n 0, 1) := by decide +kernel
theorem dX11_tell_55 : decode cX11_tell 55 = .ok (.iconst 0, 1) := by decide +kernel
theorem dX11_tell_56 : decode cX11_tell 56 = .ok (.putfield 291, 3) := by decide +kernel
theorem dX11_tell_59 : decode cX11_tell 59 = .ok (.aload_n 0, 1) := by decide +kernel
theorem dX11_tell_60 : decode cX11_tell 60 = .ok (.iload_n 2, 1) := by decide +kernel
theorem dX11_tell_61 : decode cX11_tell 61 = .ok (.aload_n 0, 1) := by decide +kernel
theorem dX11_tell_62 : decode cX11_tell 62 = .ok (.getfield 54, 3) := by decide +kernel
theorem dX11_tell_65 : decode cX11_tell 65 = .ok (.aload_n 0, 1) := by decide +kernel
theorem dX11_tell_66 : decode cX11_tell 66 = .ok (.iload_n 1, 1) := by decide +kernel
theorem dX11_tell_67 : decode cX11_tell 67 = .ok (.iconst 2, 1) := by decide +kernel
theorem dX11_tell_68 : decode cX11_tell 68 = .ok (.invokevirtual 103, 3) := by decide +kernel
theorem dX11_tell_71 : decode cX11_tell 71 = .ok (.aaload, 1) := by decide +kernel
theorem dX11_tell_72 : decode cX11_tell 72 = .ok (.invokevirtual 300, 3) := by decide +kernel
theorem dX11_tell_75 : decode cX11_tell 75 = .ok (.aload_n 0, 1) := by decide +kernel
theorem dX11_tell_76 : decode cX11_tell 76 = .ok (.iload_n 1, 1) := by decide +kernel
theorem dX11_tell_77 : decode cX11_tell 77 = .ok (.iconst 2, 1) := by decide +kernel
theorem dX11_tell_78 : decode cX11_tell 78 = .ok (.invokevirtual 103, 3) := by decide +kernel
theorem dX11_tell_81 : decode cX11_tell 81 = .ok (.ifCond .le 14, 3) := by decide +kernel
theorem dX11_tell_84 : decode cX11_tell 84 = .ok (.aload_n 0, 1) := by decide +kernel
theorem dX11_tell_85 : decode cX11_tell 85 = .ok (.iload_n 2, 1) := by decide +kernel
theorem dX11_tell_86 : decode cX11_tell 86 = .ok (.aload_n 0, 1) := by decide +kernel
theorem dX11_tell_87 : decode cX11_tell 87 = .ok (.iload_n 1, 1) := by decide +kernel
theorem dX11_tell_88 : decode cX11_tell 88 = .ok (.iconst 3, 1) := by decide +kernel
theorem dX11_tell_89 : decode cX11_tell 89 = .ok (.invokevirtual 103, 3) := by decide +kernel
theorem dX11_tell_92 : decode cX11_tell 92 = .ok (.invokevirtual 304, 3) := by decide +kernel
theorem dX11_tell_95 : decode cX11_tell 95 = .ok (.aload_n 0, 1) := by decide +kernel
theorem dX11_tell_96 : decode cX11_tell 96 = .ok (.iload_n 2, 1) := by decide +kernel
theorem dX11_tell_97 : decode cX11_tell 97 = .ok (.aload_n 0, 1) := by decide +kernel
theorem dX11_tell_98 : decode cX11_tell 98 = .ok (.getfield 69, 3) := by decide +kernel
theorem dX11_tell_101 : decode cX11_tell 101 = .ok (.iload_n 3, 1) := by decide +kernel
theorem dX11_tell_102 : decode cX11_tell 102 = .ok (.aaload, 1) := by decide +kernel
theorem dX11_tell_103 : decode cX11_tell 103 = .ok (.invokevirtual 300, 3) := by decide +kernel
theorem dX11_tell_106 : decode cX11_tell 106 = .ok (.iload_n 3, 1) := by decide +kernel
theorem dX11_tell_107 : decode cX11_tell 107 = .ok (.iconst 5, 1) := by decide +kernel
theorem dX11_tell_108 : decode cX11_tell 108 = .ok (.if_icmp .ge 14, 3) := by decide +kernel
theorem dX11_tell_111 : decode cX11_tell 111 = .ok (.aload_n 0, 1) := by decide +kernel
theorem dX11_tell_112 : decode cX11_tell 112 = .ok (.iload_n 2, 1) := by decide +kernel
theorem dX11_tell_113 : decode cX11_tell 113 = .ok (.aload_n 0, 1) := by decide +kernel
theorem dX11_tell_114 : decode cX11_tell 114 = .ok (.iload_n 1, 1) := by decide +kernel
theorem dX11_tell_115 : decode cX11_tell 115 = .ok (.iconst 4, 1) := by decide +kernel
theorem dX11_tell_116 : decode cX11_tell 116 = .ok (.invokevirtual 103, 3) := by decide +kernel
theorem dX11_tell_119 : decode cX11_tell 119 = .ok (.invokevirtual 304, 3) := by decide +kernel
theorem dX11_tell_122 : decode cX11_tell 122 = .ok (.iload_n 3, 1) := by decide +kernel
theorem dX11_tell_123 : decode cX11_tell 123 = .ok (.iconst 3, 1) := by decide +kernel
theorem dX11_tell_124 : decode cX11_tell 124 = .ok (.iconst 4, 1) := by decide +kernel
theorem dX11_tell_125 : decode cX11_tell 125 = .ok (.invokestatic 84, 3) := by decide +kernel
theorem dX11_tell_128 : decode cX11_tell 128 = .ok (.ifCond .eq 14, 3) := by decide +kernel
theorem dX11_tell_131 : decode cX11_tell 131 = .ok (.aload_n 0, 1) := by decide +kernel
theorem dX11_tell_132 : decode cX11_tell 132 = .ok (.iload_n 2, 1) := by decide +kernel
theorem dX11_tell_133 : decode cX11_tell 133 = .ok (.aload_n 0, 1) := by decide +kernel
theorem dX11_tell_134 : decode cX11_tell 134 = .ok (.iload_n 1, 1) := by decide +kernel
theorem dX11_tell_135 : decode cX11_tell 135 = .ok (.iconst 5, 1) := by decide +kernel
theorem dX11_tell_136 : decode cX11_tell 136 = .ok (.invokevirtual 103, 3) := by decide +kernel
theorem dX11_tell_139 : decode cX11_tell 139 = .ok (.invokevirtual 304, 3) := by decide +kernel
theorem dX11_tell_142 : decode cX11_tell 142 = .ok (.aload_n 0, 1) := by decide +kernel
theorem dX11_tell_143 : decode cX11_tell 143 = .ok (.getfield 75, 3) := by decide +kernel
theorem dX11_tell_146 : decode cX11_tell 146 = .ok (.iload_n 2, 1) := by decide +kernel
theorem dX11_tell_147 : decode cX11_tell 147 = .ok (.iconst 0, 1) := by decide +kernel
theorem dX11_tell_148 : decode cX11_tell 148 = .ok (.iastore, 1) := by decide +kernel
theorem dX11_tell_149 : decode cX11_tell 149 = .ok (.aload_n 0, 1) := by decide +kernel
theorem dX11_tell_150 : decode cX11_tell 150 = .ok (.getfield 78, 3) := by decide +kernel
theorem dX11_tell_153 : decode cX11_tell 153 = .ok (.iload_n 2, 1) := by decide +kernel
theorem dX11_tell_154 : decode cX11_tell 154 = .ok (.aload_n 0, 1) := by decide +kernel
theorem dX11_tell_155 : decode cX11_tell 155 = .ok (.getfield 291, 3) := by decide +kernel
theorem dX11_tell_158 : decode cX11_tell 158 = .ok (.iastore, 1) := by decide +kernel
end
section
theorem dX11_tell_159 : decode cX11_tell 159 = .ok (.aload_n 0, 1) := by decide +kernel
theorem dX11_tell_160 : decode cX11_tell 160 = .ok (.getfield 291, 3) := by decide +kernel
theorem dX11_tell_163 : decode cX11_tell 163 = .ok (.ireturn, 1) := by decide +kernel
theorem dX11_draw_0 : decode cX11_draw 0 = .ok (.aload_n 0, 1) := by decide +kernel
theorem dX11_draw_1 : decode cX11_draw 1 = .ok (.getfield 7, 3) := by decide +kernel
theorem dX11_draw_4 : decode cX11_draw 4 = .ok (.sipush 245, 3) := by decide +kernel
theorem dX11_draw_7 : decode cX11_draw 7 = .ok (.aload_n 0, 1) := by decide +kernel
theorem dX11_draw_8 : decode cX11_draw 8 = .ok (.getfield 7, 3) := by decide +kernel
theorem dX11_draw_11 : decode cX11_draw 11 = .ok (.sipush 245, 3) := by decide +kernel
theorem dX11_draw_14 : decode cX11_draw 14 = .ok (.iaload, 1) := by decide +kernel
theorem dX11_draw_15 : decode cX11_draw 15 = .ok (.ldc_w 307, 3) := by decide +kernel
theorem dX11_draw_18 : decode cX11_draw 18 = .ok (.imul, 1) := by decide +kernel
theorem dX11_draw_19 : decode cX11_draw 19 = .ok (.sipush 12345, 3) := by decide +kernel
theorem dX11_draw_22 : decode cX11_draw 22 = .ok (.iadd, 1) := by decide +kernel
theorem dX11_draw_23 : decode cX11_draw 23 = .ok (.iastore, 1) := by decide +kernel
theorem dX11_draw_24 : decode cX11_draw 24 = .ok (.aload_n 0, 1) := by decide +kernel
theorem dX11_draw_25 : decode cX11_draw 25 = .ok (.getfield 7, 3) := by decide +kernel
theorem dX11_draw_28 : decode cX11_draw 28 = .ok (.sipush 245, 3) := by decide +kernel
theorem dX11_draw_31 : decode cX11_draw 31 = .ok (.iaload, 1) := by decide +kernel
theorem dX11_draw_32 : decode cX11_draw 32 = .ok (.bipush 16, 2) := by decide +kernel
theorem dX11_draw_34 : decode cX11_draw 34 = .ok (.iushr, 1) := by decide +kernel
theorem dX11_draw_35 : decode cX11_draw 35 = .ok (.ireturn, 1) := by decide +kernel
theorem dX11_seed_0 : decode cX11_seed 0 = .ok (.aload_n 0, 1) := by decide +kernel
theorem dX11_seed_1 : decode cX11_seed 1 = .ok (.getfield 7, 3) := by decide +kernel
theorem dX11_seed_4 : decode cX11_seed 4 = .ok (.sipush 245, 3) := by decide +kernel
theorem dX11_seed_7 : decode cX11_seed 7 = .ok (.iaload, 1) := by decide +kernel
theorem dX11_seed_8 : decode cX11_seed 8 = .ok (.istore_n 2, 1) := by decide +kernel
theorem dX11_seed_9 : decode cX11_seed 9 = .ok (.aload_n 0, 1) := by decide +kernel
theorem dX11_seed_10 : decode cX11_seed 10 = .ok (.getfield 7, 3) := by decide +kernel
theorem dX11_seed_13 : decode cX11_seed 13 = .ok (.sipush 245, 3) := by decide +kernel
theorem dX11_seed_16 : decode cX11_seed 16 = .ok (.iload_n 1, 1) := by decide +kernel
theorem dX11_seed_17 : decode cX11_seed 17 = .ok (.iastore, 1) := by decide +kernel
theorem dX11_seed_18 : decode cX11_seed 18 = .ok (.iload_n 2, 1) := by decide +kernel
theorem dX11_seed_19 : decode cX11_seed 19 = .ok (.ireturn, 1) := by decide +kernel
theorem dX11_deal_0 : decode cX11_deal 0 = .ok (.iload_n 1, 1) := by decide +kernel
theorem dX11_deal_1 : decode cX11_deal 1 = .ok (.iconst 0, 1) := by decide +kernel
theorem dX11_deal_2 : decode cX11_deal 2 = .ok (.bipush 8, 2) := by decide +kernel
theorem dX11_deal_4 : decode cX11_deal 4 = .ok (.invokestatic 84, 3) := by decide +kernel
theorem dX11_deal_7 : decode cX11_deal 7 = .ok (.ifCond .ne 6, 3) := by decide +kernel
theorem dX11_deal_10 : decode cX11_deal 10 = .ok (.bipush (-2), 2) := by decide +kernel
theorem dX11_deal_12 : decode cX11_deal 12 = .ok (.ireturn, 1) := by decide +kernel
theorem dX11_deal_13 : decode cX11_deal 13 = .ok (.iconst 0, 1) := by decide +kernel
theorem dX11_deal_14 : decode cX11_deal 14 = .ok (.istore_n 2, 1) := by decide +kernel
theorem dX11_deal_15 : decode cX11_deal 15 = .ok (.iload_n 2, 1) := by decide +kernel
theorem dX11_deal_16 : decode cX11_deal 16 = .ok (.iload_n 1, 1) := by decide +kernel
theorem dX11_deal_17 : decode cX11_deal 17 = .ok (.if_icmp .ge 67, 3) := by decide +kernel
theorem dX11_deal_20 : decode cX11_deal 20 = .ok (.aload_n 0, 1) := by decide +kernel
theorem dX11_deal_21 : decode cX11_deal 21 = .ok (.getfield 7, 3) := by decide +kernel
theorem dX11_deal_24 : decode cX11_deal 24 = .ok (.sipush 238, 3) := by decide +kernel
theorem dX11_deal_27 : decode cX11_deal 27 = .ok (.iaload, 1) := by decide +kernel
theorem dX11_deal_28 : decode cX11_deal 28 = .ok (.bipush 8, 2) := by decide +kernel
theorem dX11_deal_30 : decode cX11_deal 30 = .ok (.if_icmp .ge 54, 3) := by decide +kernel
theorem dX11_deal_33 : decode cX11_deal 33 = .ok (.aload_n 0, 1) := by decide +kernel
theorem dX11_deal_34 : decode cX11_deal 34 = .ok (.invokevirtual 308, 3) := by decide +kernel
theorem dX11_deal_37 : decode cX11_deal 37 = .ok (.iconst 2, 1) := by decide +kernel
theorem dX11_deal_38 : decode cX11_deal 38 = .ok (.irem, 1) := by decide +kernel
theorem dX11_deal_39 : decode cX11_deal 39 = .ok (.istore_n 3, 1) := by decide +kernel
theorem dX11_deal_40 : decode cX11_deal 40 = .ok (.aload_n 0, 1) := by decide +kernel
theorem dX11_deal_41 : decode cX11_deal 41 = .ok (.invokevirtual 308, 3) := by decide +kernel
theorem dX11_deal_44 : decode cX11_deal 44 = .ok (.bipush 6, 2) := by decide +kernel
theorem dX11_deal_46 : decode cX11_deal 46 = .ok (.irem, 1) := by decide +kernel
theorem dX11_deal_47 : decode cX11_deal 47 = .ok (.istore 4, 2) := by decide +kernel
theorem dX11_deal_49 : decode cX11_deal 49 = .ok (.aload_n 0, 1) := by decide +kernel
theorem dX11_deal_50 : decode cX11_deal 50 = .ok (.invokevirtual 308, 3) := by decide +kernel
theorem dX11_deal_53 : decode cX11_deal 53 = .ok (.bipush 9, 2) := by decide +kernel
theorem dX11_deal_55 : decode cX11_deal 55 = .ok (.irem, 1) := by decide +kernel
theorem dX11_deal_56 : decode cX11_deal 56 = .ok (.iconst 1, 1) := by decide +kernel
theorem dX11_deal_57 : decode cX11_deal 57 = .ok (.iadd, 1) := by decide +kernel
theorem dX11_deal_58 : decode cX11_deal 58 = .ok (.istore 5, 2) := by decide +kernel
theorem dX11_deal_60 : decode cX11_deal 60 = .ok (.aload_n 0, 1) := by decide +kernel
theorem dX11_deal_61 : decode cX11_deal 61 = .ok (.iload_n 3, 1) := by decide +kernel
theorem dX11_deal_62 : decode cX11_deal 62 = .ok (.iload 4, 2) := by decide +kernel
theorem dX11_deal_64 : decode cX11_deal 64 = .ok (.iload 5, 2) := by decide +kernel
theorem dX11_deal_66 : decode cX11_deal 66 = .ok (.aload_n 0, 1) := by decide +kernel
theorem dX11_deal_67 : decode cX11_deal 67 = .ok (.invokevirtual 308, 3) := by decide +kernel
theorem dX11_deal_70 : decode cX11_deal 70 = .ok (.bipush 9, 2) := by decide +kernel
theorem dX11_deal_72 : decode cX11_deal 72 = .ok (.irem, 1) := by decide +kernel
theorem dX11_deal_73 : decode cX11_deal 73 = .ok (.iconst 1, 1) := by decide +kernel
theorem dX11_deal_74 : decode cX11_deal 74 = .ok (.iadd, 1) := by decide +kernel
theorem dX11_deal_75 : decode cX11_deal 75 = .ok (.invokevirtual 163, 3) := by decide +kernel
theorem dX11_deal_78 : decode cX11_deal 78 = .ok (.iinc 2 1, 3) := by decide +kernel
theorem dX11_deal_81 : decode cX11_deal 81 = .ok (.goto (-66), 3) := by decide +kernel
theorem dX11_deal_84 : decode cX11_deal 84 = .ok (.aload_n 0, 1) := by decide +kernel
theorem dX11_deal_85 : decode cX11_deal 85 = .ok (.aload_n 0, 1) := by decide +kernel
theorem dX11_deal_86 : decode cX11_deal 86 = .ok (.getfield 7, 3) := by decide +kernel
theorem dX11_deal_89 : decode cX11_deal 89 = .ok (.sipush 238, 3) := by decide +kernel
theorem dX11_deal_92 : decode cX11_deal 92 = .ok (.iaload, 1) := by decide +kernel
theorem dX11_deal_93 : decode cX11_deal 93 = .ok (.invokevirtual 167, 3) := by decide +kernel
theorem dX11_deal_96 : decode cX11_deal 96 = .ok (.ireturn, 1) := by decide +kernel
theorem dX11_isSheet_0 : decode cX11_isSheet 0 = .ok (.iload_n 0, 1) := by decide +kernel
theorem dX11_isSheet_1 : decode cX11_isSheet 1 = .ok (.iconst 0, 1) := by decide +kernel
theorem dX11_isSheet_2 : decode cX11_isSheet 2 = .ok (.iconst 3, 1) := by decide +kernel
theorem dX11_isSheet_3 : decode cX11_isSheet 3 = .ok (.invokestatic 84, 3) := by decide +kernel
theorem dX11_isSheet_6 : decode cX11_isSheet 6 = .ok (.ireturn, 1) := by decide +kernel
theorem dX11_sheet_0 : decode cX11_sheet 0 = .ok (.iload_n 1, 1) := by decide +kernel
theorem dX11_sheet_1 : decode cX11_sheet 1 = .ok (.invokestatic 297, 3) := by decide +kernel
theorem dX11_sheet_4 : decode cX11_sheet 4 = .ok (.ifCond .eq 23, 3) := by decide +kernel
theorem dX11_sheet_7 : decode cX11_sheet 7 = .ok (.iload_n 2, 1) := by decide +kernel
theorem dX11_sheet_8 : decode cX11_sheet 8 = .ok (.iconst (-1), 1) := by decide +kernel
theorem dX11_sheet_9 : decode cX11_sheet 9 = .ok (.iconst 1, 1) := by decide +kernel
theorem dX11_sheet_10 : decode cX11_sheet 10 = .ok (.invokestatic 84, 3) := by decide +kernel
theorem dX11_sheet_13 : decode cX11_sheet 13 = .ok (.ifCond .eq 14, 3) := by decide +kernel
theorem dX11_sheet_16 : decode cX11_sheet 16 = .ok (.iload_n 2, 1) := by decide +kernel
theorem dX11_sheet_17 : decode cX11_sheet 17 = .ok (.iconst (-1), 1) := by decide +kernel
theorem dX11_sheet_18 : decode cX11_sheet 18 = .ok (.if_icmp .eq 12, 3) := by decide +kernel
theorem dX11_sheet_21 : decode cX11_sheet 21 = .ok (.iload_n 3, 1) := by decide +kernel
theorem dX11_sheet_22 : decode cX11_sheet 22 = .ok (.bipush 40, 2) := by decide +kernel
theorem dX11_sheet_24 : decode cX11_sheet 24 = .ok (.if_icmp .le 6, 3) := by decide +kernel
theorem dX11_sheet_27 : decode cX11_sheet 27 = .ok (.bipush (-2), 2) := by decide +kernel
theorem dX11_sheet_29 : decode cX11_sheet 29 = .ok (.ireturn, 1) := by decide +kernel
theorem dX11_sheet_30 : decode cX11_sheet 30 = .ok (.iload_n 2, 1) := by decide +kernel
theorem dX11_sheet_31 : decode cX11_sheet 31 = .ok (.iconst (-1), 1) := by decide +kernel
theorem dX11_sheet_32 : decode cX11_sheet 32 = .ok (.if_icmp .eq 10, 3) := by decide +kernel
theorem dX11_sheet_35 : decode cX11_sheet 35 = .ok (.iload_n 3, 1) := by decide +kernel
theorem dX11_sheet_36 : decode cX11_sheet 36 = .ok (.ifCond .ge 6, 3) := by decide +kernel
theorem dX11_sheet_39 : decode cX11_sheet 39 = .ok (.bipush (-14), 2) := by decide +kernel
theorem dX11_sheet_41 : decode cX11_sheet 41 = .ok (.ireturn, 1) := by decide +kernel
theorem dX11_sheet_42 : decode cX11_sheet 42 = .ok (.aload_n 0, 1) := by decide +kernel
theorem dX11_sheet_43 : decode cX11_sheet 43 = .ok (.getfield 75, 3) := by decide +kernel
theorem dX11_sheet_46 : decode cX11_sheet 46 = .ok (.iload_n 1, 1) := by decide +kernel
theorem dX11_sheet_47 : decode cX11_sheet 47 = .ok (.iload_n 2, 1) := by decide +kernel
theorem dX11_sheet_48 : decode cX11_sheet 48 = .ok (.iastore, 1) := by decide +kernel
theorem dX11_sheet_49 : decode cX11_sheet 49 = .ok (.aload_n 0, 1) := by decide +kernel
theorem dX11_sheet_50 : decode cX11_sheet 50 = .ok (.getfield 78, 3) := by decide +kernel
theorem dX11_sheet_53 : decode cX11_sheet 53 = .ok (.iload_n 1, 1) := by decide +kernel
theorem dX11_sheet_54 : decode cX11_sheet 54 = .ok (.iload_n 2, 1) := by decide +kernel
theorem dX11_sheet_55 : decode cX11_sheet 55 = .ok (.iconst (-1), 1) := by decide +kernel
theorem dX11_sheet_56 : decode cX11_sheet 56 = .ok (.if_icmp .ne 7, 3) := by decide +kernel
theorem dX11_sheet_59 : decode cX11_sheet 59 = .ok (.iconst 0, 1) := by decide +kernel
theorem dX11_sheet_60 : decode cX11_sheet 60 = .ok (.goto 4, 3) := by decide +kernel
theorem dX11_sheet_63 : decode cX11_sheet 63 = .ok (.iload_n 3, 1) := by decide +kernel
theorem dX11_sheet_64 : decode cX11_sheet 64 = .ok (.iastore, 1) := by decide +kernel
theorem dX11_sheet_65 : decode cX11_sheet 65 = .ok (.iconst 0, 1) := by decide +kernel
theorem dX11_sheet_66 : decode cX11_sheet 66 = .ok (.istore 4, 2) := by decide +kernel
theorem dX11_sheet_68 : decode cX11_sheet 68 = .ok (.iload 4, 2) := by decide +kernel
theorem dX11_sheet_70 : decode cX11_sheet 70 = .ok (.bipush 40, 2) := by decide +kernel
theorem dX11_sheet_72 : decode cX11_sheet 72 = .ok (.if_icmp .ge 22, 3) := by decide +kernel
theorem dX11_sheet_75 : decode cX11_sheet 75 = .ok (.aload_n 0, 1) := by decide +kernel
theorem dX11_sheet_76 : decode cX11_sheet 76 = .ok (.getfield 81, 3) := by decide +kernel
theorem dX11_sheet_79 : decode cX11_sheet 79 = .ok (.bipush 40, 2) := by decide +kernel
theorem dX11_sheet_81 : decode cX11_sheet 81 = .ok (.iload_n 1, 1) := by decide +kernel
theorem dX11_sheet_82 : decode cX11_sheet 82 = .ok (.imul, 1) := by decide +kernel
theorem dX11_sheet_83 : decode cX11_sheet 83 = .ok (.iload 4, 2) := by decide +kernel
theorem dX11_sheet_85 : decode cX11_sheet 85 = .ok (.iadd, 1) := by decide +kernel
theorem dX11_sheet_86 : decode cX11_sheet 86 = .ok (.iconst 0, 1) := by decide +kernel
theorem dX11_sheet_87 : decode cX11_sheet 87 = .ok (.iastore, 1) := by decide +kernel
theorem dX11_sheet_88 : decode cX11_sheet 88 = .ok (.iinc 4 1, 3) := by decide +kernel
theorem dX11_sheet_91 : decode cX11_sheet 91 = .ok (.goto (-23), 3) := by decide +kernel
theorem dX11_sheet_94 : decode cX11_sheet 94 = .ok (.iconst 1, 1) := by decide +kernel
theorem dX11_sheet_95 : decode cX11_sheet 95 = .ok (.ireturn, 1) := by decide +kernel
theorem dX11_wrongAt_0 : decode cX11_wrongAt 0 = .ok (.iload_n 1, 1) := by decide +kernel
theorem dX11_wrongAt_1 : decode cX11_wrongAt 1 = .ok (.invokestatic 297, 3) := by decide +kernel
theorem dX11_wrongAt_4 : decode cX11_wrongAt 4 = .ok (.ifCond .ne 8, 3) := by decide +kernel
theorem dX11_wrongAt_7 : decode cX11_wrongAt 7 = .ok (.bipush (-2), 2) := by decide +kernel
theorem dX11_wrongAt_9 : decode cX11_wrongAt 9 = .ok (.goto 40, 3) := by decide +kernel
theorem dX11_wrongAt_12 : decode cX11_wrongAt 12 = .ok (.aload_n 0, 1) := by decide +kernel
theorem dX11_wrongAt_13 : decode cX11_wrongAt 13 = .ok (.getfield 75, 3) := by decide +kernel
theorem dX11_wrongAt_16 : decode cX11_wrongAt 16 = .ok (.iload_n 1, 1) := by decide +kernel
theorem dX11_wrongAt_17 : decode cX11_wrongAt 17 = .ok (.iaload, 1) := by decide +kernel
theorem dX11_wrongAt_18 : decode cX11_wrongAt 18 = .ok (.iconst (-1), 1) := by decide +kernel
theorem dX11_wrongAt_19 : decode cX11_wrongAt 19 = .ok (.if_icmp .ne 8, 3) := by decide +kernel
theorem dX11_wrongAt_22 : decode cX11_wrongAt 22 = .ok (.bipush (-11), 2) := by decide +kernel
theorem dX11_wrongAt_24 : decode cX11_wrongAt 24 = .ok (.goto 25, 3) := by decide +kernel
theorem dX11_wrongAt_27 : decode cX11_wrongAt 27 = .ok (.iload_n 2, 1) := by decide +kernel
theorem dX11_wrongAt_28 : decode cX11_wrongAt 28 = .ok (.iconst 0, 1) := by decide +kernel
theorem dX11_wrongAt_29 : decode cX11_wrongAt 29 = .ok (.aload_n 0, 1) := by decide +kernel
theorem dX11_wrongAt_30 : decode cX11_wrongAt 30 = .ok (.getfield 78, 3) := by decide +kernel
theorem dX11_wrongAt_33 : decode cX11_wrongAt 33 = .ok (.iload_n 1, 1) := by decide +kernel
theorem dX11_wrongAt_34 : decode cX11_wrongAt 34 = .ok (.iaload, 1) := by decide +kernel
theorem dX11_wrongAt_35 : decode cX11_wrongAt 35 = .ok (.iconst 1, 1) := by decide +kernel
theorem dX11_wrongAt_36 : decode cX11_wrongAt 36 = .ok (.isub, 1) := by decide +kernel
theorem dX11_wrongAt_37 : decode cX11_wrongAt 37 = .ok (.invokestatic 84, 3) := by decide +kernel
theorem dX11_wrongAt_40 : decode cX11_wrongAt 40 = .ok (.ifCond .eq 7, 3) := by decide +kernel
theorem dX11_wrongAt_43 : decode cX11_wrongAt 43 = .ok (.iconst 0, 1) := by decide +kernel
theorem dX11_wrongAt_44 : decode cX11_wrongAt 44 = .ok (.goto 5, 3) := by decide +kernel
theorem dX11_wrongAt_47 : decode cX11_wrongAt 47 = .ok (.bipush (-12), 2) := by decide +kernel
theorem dX11_wrongAt_49 : decode cX11_wrongAt 49 = .ok (.ireturn, 1) := by decide +kernel
theorem dX11_write_0 : decode cX11_write 0 = .ok (.aload_n 0, 1) := by decide +kernel
theorem dX11_write_1 : decode cX11_write 1 = .ok (.iload_n 1, 1) := by decide +kernel
theorem dX11_write_2 : decode cX11_write 2 = .ok (.iload_n 2, 1) := by decide +kernel
theorem dX11_write_3 : decode cX11_write 3 = .ok (.invokevirtual 311, 3) := by decide +kernel
theorem dX11_write_6 : decode cX11_write 6 = .ok (.istore 4, 2) := by decide +kernel
theorem dX11_write_8 : decode cX11_write 8 = .ok (.iload 4, 2) := by decide +kernel
theorem dX11_write_10 : decode cX11_write 10 = .ok (.ifCond .eq 6, 3) := by decide +kernel
theorem dX11_write_13 : decode cX11_write 13 = .ok (.iload 4, 2) := by decide +kernel
theorem dX11_write_15 : decode cX11_write 15 = .ok (.ireturn, 1) := by decide +kernel
theorem dX11_write_16 : decode cX11_write 16 = .ok (.aload_n 0, 1) := by decide +kernel
theorem dX11_write_17 : decode cX11_write 17 = .ok (.getfield 81, 3) := by decide +kernel
theorem dX11_write_20 : decode cX11_write 20 = .ok (.bipush 40, 2) := by decide +kernel
theorem dX11_write_22 : decode cX11_write 22 = .ok (.iload_n 1, 1) := by decide +kernel
theorem dX11_write_23 : decode cX11_write 23 = .ok (.imul, 1) := by decide +kernel
theorem dX11_write_24 : decode cX11_write 24 = .ok (.iload_n 2, 1) := by decide +kernel
theorem dX11_write_25 : decode cX11_write 25 = .ok (.iadd, 1) := by decide +kernel
theorem dX11_write_26 : decode cX11_write 26 = .ok (.aload_n 0, 1) := by decide +kernel
theorem dX11_write_27 : decode cX11_write 27 = .ok (.getfield 75, 3) := by decide +kernel
theorem dX11_write_30 : decode cX11_write 30 = .ok (.iload_n 1, 1) := by decide +kernel
theorem dX11_write_31 : decode cX11_write 31 = .ok (.iaload, 1) := by decide +kernel
theorem dX11_write_32 : decode cX11_write 32 = .ok (.ifCond .ne 8, 3) := by decide +kernel
theorem dX11_write_35 : decode cX11_write 35 = .ok (.iload_n 3, 1) := by decide +kernel
theorem dX11_write_36 : decode cX11_write 36 = .ok (.i2b, 1) := by decide +kernel
theorem dX11_write_37 : decode cX11_write 37 = .ok (.goto 4, 3) := by decide +kernel
theorem dX11_write_40 : decode cX11_write 40 = .ok (.iload_n 3, 1) := by decide +kernel
theorem dX11_write_41 : decode cX11_write 41 = .ok (.iastore, 1) := by decide +kernel
theorem dX11_write_42 : decode cX11_write 42 = .ok (.iconst 1, 1) := by decide +kernel
theorem dX11_write_43 : decode cX11_write 43 = .ok (.ireturn, 1) := by decide +kernel
theorem dX11_item_0 : decode cX11_item 0 = .ok (.aload_n 0, 1) := by decide +kernel
theorem dX11_item_1 : decode cX11_item 1 = .ok (.iload_n 1, 1) := by decide +kernel
theorem dX11_item_2 : decode cX11_item 2 = .ok (.iload_n 2, 1) := by decide +kernel
theorem dX11_item_3 : decode cX11_item 3 = .ok (.invokevirtual 311, 3) := by decide +kernel
theorem dX11_item_6 : decode cX11_item 6 = .ok (.istore_n 3, 1) := by decide +kernel
theorem dX11_item_7 : decode cX11_item 7 = .ok (.iload_n 3, 1) := by decide +kernel
theorem dX11_item_8 : decode cX11_item 8 = .ok (.ifCond .eq 7, 3) := by decide +kernel
theorem dX11_item_11 : decode cX11_item 11 = .ok (.iload_n 3, 1) := by decide +kernel
theorem dX11_item_12 : decode cX11_item 12 = .ok (.goto 14, 3) := by decide +kernel
theorem dX11_item_15 : decode cX11_item 15 = .ok (.aload_n 0, 1) := by decide +kernel
theorem dX11_item_16 : decode cX11_item 16 = .ok (.getfield 81, 3) := by decide +kernel
theorem dX11_item_19 : decode cX11_item 19 = .ok (.bipush 40, 2) := by decide +kernel
theorem dX11_item_21 : decode cX11_item 21 = .ok (.iload_n 1, 1) := by decide +kernel
theorem dX11_item_22 : decode cX11_item 22 = .ok (.imul, 1) := by decide +kernel
theorem dX11_item_23 : decode cX11_item 23 = .ok (.iload_n 2, 1) := by decide +kernel
theorem dX11_item_24 : decode cX11_item 24 = .ok (.iadd, 1) := by decide +kernel
theorem dX11_item_25 : decode cX11_item 25 = .ok (.iaload, 1) := by decide +kernel
theorem dX11_item_26 : decode cX11_item 26 = .ok (.ireturn, 1) := by decide +kernel
theorem dX11_copy_0 : decode cX11_copy 0 = .ok (.iload_n 1, 1) := by decide +kernel
theorem dX11_copy_1 : decode cX11_copy 1 = .ok (.invokestatic 297, 3) := by decide +kernel
theorem dX11_copy_4 : decode cX11_copy 4 = .ok (.ifCond .eq 10, 3) := by decide +kernel
theorem dX11_copy_7 : decode cX11_copy 7 = .ok (.iload_n 3, 1) := by decide +kernel
theorem dX11_copy_8 : decode cX11_copy 8 = .ok (.invokestatic 297, 3) := by decide +kernel
theorem dX11_copy_11 : decode cX11_copy 11 = .ok (.ifCond .ne 6, 3) := by decide +kernel
theorem dX11_copy_14 : decode cX11_copy 14 = .ok (.bipush (-2), 2) := by decide +kernel
theorem dX11_copy_16 : decode cX11_copy 16 = .ok (.ireturn, 1) := by decide +kernel
theorem dX11_copy_17 : decode cX11_copy 17 = .ok (.aload_n 0, 1) := by decide +kernel
theorem dX11_copy_18 : decode cX11_copy 18 = .ok (.getfield 75, 3) := by decide +kernel
theorem dX11_copy_21 : decode cX11_copy 21 = .ok (.iload_n 1, 1) := by decide +kernel
theorem dX11_copy_22 : decode cX11_copy 22 = .ok (.iaload, 1) := by decide +kernel
theorem dX11_copy_23 : decode cX11_copy 23 = .ok (.iconst (-1), 1) := by decide +kernel
theorem dX11_copy_24 : decode cX11_copy 24 = .ok (.if_icmp .eq 13, 3) := by decide +kernel
theorem dX11_copy_27 : decode cX11_copy 27 = .ok (.aload_n 0, 1) := by decide +kernel
theorem dX11_copy_28 : decode cX11_copy 28 = .ok (.getfield 75, 3) := by decide +kernel
theorem dX11_copy_31 : decode cX11_copy 31 = .ok (.iload_n 3, 1) := by decide +kernel
theorem dX11_copy_32 : decode cX11_copy 32 = .ok (.iaload, 1) := by decide +kernel
theorem dX11_copy_33 : decode cX11_copy 33 = .ok (.iconst (-1), 1) := by decide +kernel
theorem dX11_copy_34 : decode cX11_copy 34 = .ok (.if_icmp .ne 6, 3) := by decide +kernel
theorem dX11_copy_37 : decode cX11_copy 37 = .ok (.bipush (-11), 2) := by decide +kernel
theorem dX11_copy_39 : decode cX11_copy 39 = .ok (.ireturn, 1) := by decide +kernel
theorem dX11_copy_40 : decode cX11_copy 40 = .ok (.aload_n 0, 1) := by decide +kernel
theorem dX11_copy_41 : decode cX11_copy 41 = .ok (.getfield 75, 3) := by decide +kernel
theorem dX11_copy_44 : decode cX11_copy 44 = .ok (.iload_n 1, 1) := by decide +kernel
theorem dX11_copy_45 : decode cX11_copy 45 = .ok (.iaload, 1) := by decide +kernel
theorem dX11_copy_46 : decode cX11_copy 46 = .ok (.aload_n 0, 1) := by decide +kernel
theorem dX11_copy_47 : decode cX11_copy 47 = .ok (.getfield 75, 3) := by decide +kernel
theorem dX11_copy_50 : decode cX11_copy 50 = .ok (.iload_n 3, 1) := by decide +kernel
theorem dX11_copy_51 : decode cX11_copy 51 = .ok (.iaload, 1) := by decide +kernel
theorem dX11_copy_52 : decode cX11_copy 52 = .ok (.if_icmp .eq 6, 3) := by decide +kernel
theorem dX11_copy_55 : decode cX11_copy 55 = .ok (.bipush (-13), 2) := by decide +kernel
theorem dX11_copy_57 : decode cX11_copy 57 = .ok (.ireturn, 1) := by decide +kernel
theorem dX11_copy_58 : decode cX11_copy 58 = .ok (.iload 5, 2) := by decide +kernel
theorem dX11_copy_60 : decode cX11_copy 60 = .ok (.ifCond .lt 39, 3) := by decide +kernel
theorem dX11_copy_63 : decode cX11_copy 63 = .ok (.iload_n 2, 1) := by decide +kernel
theorem dX11_copy_64 : decode cX11_copy 64 = .ok (.ifCond .lt 35, 3) := by decide +kernel
theorem dX11_copy_67 : decode cX11_copy 67 = .ok (.iload 4, 2) := by decide +kernel
theorem dX11_copy_69 : decode cX11_copy 69 = .ok (.ifCond .lt 30, 3) := by decide +kernel
theorem dX11_copy_72 : decode cX11_copy 72 = .ok (.iload_n 2, 1) := by decide +kernel
theorem dX11_copy_73 : decode cX11_copy 73 = .ok (.aload_n 0, 1) := by decide +kernel
theorem dX11_copy_74 : decode cX11_copy 74 = .ok (.getfield 78, 3) := by decide +kernel
theorem dX11_copy_77 : decode cX11_copy 77 = .ok (.iload_n 1, 1) := by decide +kernel
theorem dX11_copy_78 : decode cX11_copy 78 = .ok (.iaload, 1) := by decide +kernel
theorem dX11_copy_79 : decode cX11_copy 79 = .ok (.iload 5, 2) := by decide +kernel
theorem dX11_copy_81 : decode cX11_copy 81 = .ok (.isub, 1) := by decide +kernel
theorem dX11_copy_82 : decode cX11_copy 82 = .ok (.if_icmp .gt 17, 3) := by decide +kernel
theorem dX11_copy_85 : decode cX11_copy 85 = .ok (.iload 4, 2) := by decide +kernel
theorem dX11_copy_87 : decode cX11_copy 87 = .ok (.aload_n 0, 1) := by decide +kernel
theorem dX11_copy_88 : decode cX11_copy 88 = .ok (.getfield 78, 3) := by decide +kernel
theorem dX11_copy_91 : decode cX11_copy 91 = .ok (.iload_n 3, 1) := by decide +kernel
theorem dX11_copy_92 : decode cX11_copy 92 = .ok (.iaload, 1) := by decide +kernel
theorem dX11_copy_93 : decode cX11_copy 93 = .ok (.iload 5, 2) := by decide +kernel
theorem dX11_copy_95 : decode cX11_copy 95 = .ok (.isub, 1) := by decide +kernel
theorem dX11_copy_96 : decode cX11_copy 96 = .ok (.if_icmp .le 6, 3) := by decide +kernel
theorem dX11_copy_99 : decode cX11_copy 99 = .ok (.bipush (-12), 2) := by decide +kernel
theorem dX11_copy_101 : decode cX11_copy 101 = .ok (.ireturn, 1) := by decide +kernel
theorem dX11_copy_102 : decode cX11_copy 102 = .ok (.bipush 40, 2) := by decide +kernel
theorem dX11_copy_104 : decode cX11_copy 104 = .ok (.iload_n 1, 1) := by decide +kernel
theorem dX11_copy_105 : decode cX11_copy 105 = .ok (.imul, 1) := by decide +kernel
theorem dX11_copy_106 : decode cX11_copy 106 = .ok (.iload_n 2, 1) := by decide +kernel
theorem dX11_copy_107 : decode cX11_copy 107 = .ok (.iadd, 1) := by decide +kernel
theorem dX11_copy_108 : decode cX11_copy 108 = .ok (.bipush 40, 2) := by decide +kernel
theorem dX11_copy_110 : decode cX11_copy 110 = .ok (.iload_n 3, 1) := by decide +kernel
theorem dX11_copy_111 : decode cX11_copy 111 = .ok (.imul, 1) := by decide +kernel
theorem dX11_copy_112 : decode cX11_copy 112 = .ok (.iload 4, 2) := by decide +kernel
theorem dX11_copy_114 : decode cX11_copy 114 = .ok (.iadd, 1) := by decide +kernel
theorem dX11_copy_115 : decode cX11_copy 115 = .ok (.if_icmp .ge 7, 3) := by decide +kernel
theorem dX11_copy_118 : decode cX11_copy 118 = .ok (.iconst 1, 1) := by decide +kernel
theorem dX11_copy_119 : decode cX11_copy 119 = .ok (.goto 4, 3) := by decide +kernel
theorem dX11_copy_122 : decode cX11_copy 122 = .ok (.iconst 0, 1) := by decide +kernel
theorem dX11_copy_123 : decode cX11_copy 123 = .ok (.istore 6, 2) := by decide +kernel
theorem dX11_copy_125 : decode cX11_copy 125 = .ok (.iconst 0, 1) := by decide +kernel
theorem dX11_copy_126 : decode cX11_copy 126 = .ok (.istore 7, 2) := by decide +kernel
theorem dX11_copy_128 : decode cX11_copy 128 = .ok (.iload 7, 2) := by decide +kernel
theorem dX11_copy_130 : decode cX11_copy 130 = .ok (.iload 5, 2) := by decide +kernel
theorem dX11_copy_132 : decode cX11_copy 132 = .ok (.if_icmp .ge 57, 3) := by decide +kernel
theorem dX11_copy_135 : decode cX11_copy 135 = .ok (.iload 6, 2) := by decide +kernel
theorem dX11_copy_137 : decode cX11_copy 137 = .ok (.ifCond .eq 13, 3) := by decide +kernel
theorem dX11_copy_140 : decode cX11_copy 140 = .ok (.iload 5, 2) := by decide +kernel
theorem dX11_copy_142 : decode cX11_copy 142 = .ok (.iconst 1, 1) := by decide +kernel
theorem dX11_copy_143 : decode cX11_copy 143 = .ok (.isub, 1) := by decide +kernel
theorem dX11_copy_144 : decode cX11_copy 144 = .ok (.iload 7, 2) := by decide +kernel
theorem dX11_copy_146 : decode cX11_copy 146 = .ok (.isub, 1) := by decide +kernel
theorem dX11_copy_147 : decode cX11_copy 147 = .ok (.goto 5, 3) := by decide +kernel
theorem dX11_copy_150 : decode cX11_copy 150 = .ok (.iload 7, 2) := by decide +kernel
theorem dX11_copy_152 : decode cX11_copy 152 = .ok (.istore 8, 2) := by decide +kernel
theorem dX11_copy_154 : decode cX11_copy 154 = .ok (.aload_n 0, 1) := by decide +kernel
theorem dX11_copy_155 : decode cX11_copy 155 = .ok (.getfield 81, 3) := by decide +kernel
theorem dX11_copy_158 : decode cX11_copy 158 = .ok (.bipush 40, 2) := by decide +kernel
theorem dX11_copy_160 : decode cX11_copy 160 = .ok (.iload_n 3, 1) := by decide +kernel
theorem dX11_copy_161 : decode cX11_copy 161 = .ok (.imul, 1) := by decide +kernel
theorem dX11_copy_162 : decode cX11_copy 162 = .ok (.iload 4, 2) := by decide +kernel
theorem dX11_copy_164 : decode cX11_copy 164 = .ok (.iadd, 1) := by decide +kernel
theorem dX11_copy_165 : decode cX11_copy 165 = .ok (.iload 8, 2) := by decide +kernel
theorem dX11_copy_167 : decode cX11_copy 167 = .ok (.iadd, 1) := by decide +kernel
theorem dX11_copy_168 : decode cX11_copy 168 = .ok (.aload_n 0, 1) := by decide +kernel
theorem dX11_copy_169 : decode cX11_copy 169 = .ok (.getfield 81, 3) := by decide +kernel
theorem dX11_copy_172 : decode cX11_copy 172 = .ok (.bipush 40, 2) := by decide +kernel
theorem dX11_copy_174 : decode cX11_copy 174 = .ok (.iload_n 1, 1) := by decide +kernel
theorem dX11_copy_175 : decode cX11_copy 175 = .ok (.imul, 1) := by decide +kernel
theorem dX11_copy_176 : decode cX11_copy 176 = .ok (.iload_n 2, 1) := by decide +kernel
theorem dX11_copy_177 : decode cX11_copy 177 = .ok (.iadd, 1) := by decide +kernel
theorem dX11_copy_178 : decode cX11_copy 178 = .ok (.iload 8, 2) := by decide +kernel
theorem dX11_copy_180 : decode cX11_copy 180 = .ok (.iadd, 1) := by decide +kernel
theorem dX11_copy_181 : decode cX11_copy 181 = .ok (.iaload, 1) := by decide +kernel
theorem dX11_copy_182 : decode cX11_copy 182 = .ok (.iastore, 1) := by decide +kernel
theorem dX11_copy_183 : decode cX11_copy 183 = .ok (.iinc 7 1, 3) := by decide +kernel
theorem dX11_copy_186 : decode cX11_copy 186 = .ok (.goto (-58), 3) := by decide +kernel
theorem dX11_copy_189 : decode cX11_copy 189 = .ok (.iload 5, 2) := by decide +kernel
theorem dX11_copy_191 : decode cX11_copy 191 = .ok (.ireturn, 1) := by decide +kernel
theorem dX11_image_0 : decode cX11_image 0 = .ok (.aload_n 0, 1) := by decide +kernel
theorem dX11_image_1 : decode cX11_image 1 = .ok (.getfield 7, 3) := by decide +kernel
theorem dX11_image_4 : decode cX11_image 4 = .ok (.aload_n 0, 1) := by decide +kernel
theorem dX11_image_5 : decode cX11_image 5 = .ok (.getfield 13, 3) := by decide +kernel
theorem dX11_image_8 : decode cX11_image 8 = .ok (.invokestatic 230, 3) := by decide +kernel
theorem dX11_image_11 : decode cX11_image 11 = .ok (.aload_n 0, 1) := by decide +kernel
theorem dX11_image_12 : decode cX11_image 12 = .ok (.iconst 1, 1) := by decide +kernel
theorem dX11_image_13 : decode cX11_image 13 = .ok (.putfield 314, 3) := by decide +kernel
theorem dX11_image_16 : decode cX11_image 16 = .ok (.aload_n 0, 1) := by decide +kernel
theorem dX11_image_17 : decode cX11_image 17 = .ok (.getfield 7, 3) := by decide +kernel
theorem dX11_image_20 : decode cX11_image 20 = .ok (.sipush 238, 3) := by decide +kernel
theorem dX11_image_23 : decode cX11_image 23 = .ok (.iaload, 1) := by decide +kernel
theorem dX11_image_24 : decode cX11_image 24 = .ok (.ireturn, 1) := by decide +kernel
theorem dX11_back_0 : decode cX11_back 0 = .ok (.aload_n 0, 1) := by decide +kernel
theorem dX11_back_1 : decode cX11_back 1 = .ok (.getfield 314, 3) := by decide +kernel
theorem dX11_back_4 : decode cX11_back 4 = .ok (.ifCond .ne 6, 3) := by decide +kernel
theorem dX11_back_7 : decode cX11_back 7 = .ok (.bipush (-3), 2) := by decide +kernel
theorem dX11_back_9 : decode cX11_back 9 = .ok (.ireturn, 1) := by decide +kernel
theorem dX11_back_10 : decode cX11_back 10 = .ok (.aload_n 0, 1) := by decide +kernel
theorem dX11_back_11 : decode cX11_back 11 = .ok (.getfield 13, 3) := by decide +kernel
theorem dX11_back_14 : decode cX11_back 14 = .ok (.aload_n 0, 1) := by decide +kernel
theorem dX11_back_15 : decode cX11_back 15 = .ok (.getfield 7, 3) := by decide +kernel
theorem dX11_back_18 : decode cX11_back 18 = .ok (.invokestatic 230, 3) := by decide +kernel
theorem dX11_back_21 : decode cX11_back 21 = .ok (.aload_n 0, 1) := by decide +kernel
theorem dX11_back_22 : decode cX11_back 22 = .ok (.getfield 7, 3) := by decide +kernel
theorem dX11_back_25 : decode cX11_back 25 = .ok (.sipush 238, 3) := by decide +kernel
theorem dX11_back_28 : decode cX11_back 28 = .ok (.iaload, 1) := by decide +kernel
theorem dX11_back_29 : decode cX11_back 29 = .ok (.ireturn, 1) := by decide +kernel
theorem dX11_count_0 : decode cX11_count 0 = .ok (.iconst 0, 1) := by decide +kernel
theorem dX11_count_1 : decode cX11_count 1 = .ok (.istore_n 2, 1) := by decide +kernel
theorem dX11_count_2 : decode cX11_count 2 = .ok (.iconst 0, 1) := by decide +kernel
theorem dX11_count_3 : decode cX11_count 3 = .ok (.istore_n 3, 1) := by decide +kernel
theorem dX11_count_4 : decode cX11_count 4 = .ok (.iload_n 3, 1) := by decide +kernel
theorem dX11_count_5 : decode cX11_count 5 = .ok (.aload_n 0, 1) := by decide +kernel
theorem dX11_count_6 : decode cX11_count 6 = .ok (.getfield 7, 3) := by decide +kernel
theorem dX11_count_9 : decode cX11_count 9 = .ok (.sipush 238, 3) := by decide +kernel
theorem dX11_count_12 : decode cX11_count 12 = .ok (.iaload, 1) := by decide +kernel
theorem dX11_count_13 : decode cX11_count 13 = .ok (.if_icmp .ge 27, 3) := by decide +kernel
theorem dX11_count_16 : decode cX11_count 16 = .ok (.iload_n 2, 1) := by decide +kernel
theorem dX11_count_17 : decode cX11_count 17 = .ok (.aload_n 0, 1) := by decide +kernel
theorem dX11_count_18 : decode cX11_count 18 = .ok (.iload_n 3, 1) := by decide +kernel
theorem dX11_count_19 : decode cX11_count 19 = .ok (.invokevirtual 100, 3) := by decide +kernel
theorem dX11_count_22 : decode cX11_count 22 = .ok (.ifCond .eq 9, 3) := by decide +kernel
theorem dX11_count_25 : decode cX11_count 25 = .ok (.iconst 1, 1) := by decide +kernel
theorem dX11_count_26 : decode cX11_count 26 = .ok (.iload_n 3, 1) := by decide +kernel
theorem dX11_count_27 : decode cX11_count 27 = .ok (.ishl, 1) := by decide +kernel
theorem dX11_count_28 : decode cX11_count 28 = .ok (.goto 4, 3) := by decide +kernel
theorem dX11_count_31 : decode cX11_count 31 = .ok (.iconst 0, 1) := by decide +kernel
theorem dX11_count_32 : decode cX11_count 32 = .ok (.ior, 1) := by decide +kernel
theorem dX11_count_33 : decode cX11_count 33 = .ok (.istore_n 2, 1) := by decide +kernel
theorem dX11_count_34 : decode cX11_count 34 = .ok (.iinc 3 1, 3) := by decide +kernel
theorem dX11_count_37 : decode cX11_count 37 = .ok (.goto (-33), 3) := by decide +kernel
theorem dX11_count_40 : decode cX11_count 40 = .ok (.iload_n 1, 1) := by decide +kernel
theorem dX11_count_41 : decode cX11_count 41 = .ok (.tableswitch 108 0 7 #[47, 56, 58, 67, 76, 85, 94, 99], 47) := by decide +kernel
theorem dX11_count_88 : decode cX11_count 88 = .ok (.aload_n 0, 1) := by decide +kernel
theorem dX11_count_89 : decode cX11_count 89 = .ok (.getfield 7, 3) := by decide +kernel
theorem dX11_count_92 : decode cX11_count 92 = .ok (.sipush 238, 3) := by decide +kernel
theorem dX11_count_95 : decode cX11_count 95 = .ok (.iaload, 1) := by decide +kernel
theorem dX11_count_96 : decode cX11_count 96 = .ok (.ireturn, 1) := by decide +kernel
theorem dX11_count_97 : decode cX11_count 97 = .ok (.iload_n 2, 1) := by decide +kernel
theorem dX11_count_98 : decode cX11_count 98 = .ok (.ireturn, 1) := by decide +kernel
theorem dX11_count_99 : decode cX11_count 99 = .ok (.aload_n 0, 1) := by decide +kernel
theorem dX11_count_100 : decode cX11_count 100 = .ok (.getfield 7, 3) := by decide +kernel
theorem dX11_count_103 : decode cX11_count 103 = .ok (.sipush 239, 3) := by decide +kernel
theorem dX11_count_106 : decode cX11_count 106 = .ok (.iaload, 1) := by decide +kernel
theorem dX11_count_107 : decode cX11_count 107 = .ok (.ireturn, 1) := by decide +kernel
end
section
theorem dX11_count_108 : decode cX11_count 108 = .ok (.aload_n 0, 1) := by decide +kernel
theorem dX11_count_109 : decode cX11_count 109 = .ok (.getfield 7, 3) := by decide +kernel
theorem dX11_count_112 : decode cX11_count 112 = .ok (.sipush 240, 3) := by decide +kernel
theorem dX11_count_115 : decode cX11_count 115 = .ok (.iaload, 1) := by decide +kernel
theorem dX11_count_116 : decode cX11_count 116 = .ok (.ireturn, 1) := by decide +kernel
theorem dX11_count_117 : decode cX11_count 117 = .ok (.aload_n 0, 1) := by decide +kernel
theorem dX11_count_118 : decode cX11_count 118 = .ok (.getfield 7, 3) := by decide +kernel
theorem dX11_count_121 : decode cX11_count 121 = .ok (.sipush 241, 3) := by decide +kernel
theorem dX11_count_124 : decode cX11_count 124 = .ok (.iaload, 1) := by decide +kernel
theorem dX11_count_125 : decode cX11_count 125 = .ok (.ireturn, 1) := by decide +kernel
theorem dX11_count_126 : decode cX11_count 126 = .ok (.aload_n 0, 1) := by decide +kernel
theorem dX11_count_127 : decode cX11_count 127 = .ok (.getfield 7, 3) := by decide +kernel
theorem dX11_count_130 : decode cX11_count 130 = .ok (.sipush 244, 3) := by decide +kernel
theorem dX11_count_133 : decode cX11_count 133 = .ok (.iaload, 1) := by decide +kernel
theorem dX11_count_134 : decode cX11_count 134 = .ok (.ireturn, 1) := by decide +kernel
theorem dX11_count_135 : decode cX11_count 135 = .ok (.aload_n 0, 1) := by decide +kernel
theorem dX11_count_136 : decode cX11_count 136 = .ok (.getfield 242, 3) := by decide +kernel
theorem dX11_count_139 : decode cX11_count 139 = .ok (.ireturn, 1) := by decide +kernel
theorem dX11_count_140 : decode cX11_count 140 = .ok (.aload_n 0, 1) := by decide +kernel
theorem dX11_count_141 : decode cX11_count 141 = .ok (.getfield 7, 3) := by decide +kernel
theorem dX11_count_144 : decode cX11_count 144 = .ok (.sipush 245, 3) := by decide +kernel
theorem dX11_count_147 : decode cX11_count 147 = .ok (.iaload, 1) := by decide +kernel
theorem dX11_count_148 : decode cX11_count 148 = .ok (.ireturn, 1) := by decide +kernel
theorem dX11_count_149 : decode cX11_count 149 = .ok (.bipush (-2), 2) := by decide +kernel
theorem dX11_count_151 : decode cX11_count 151 = .ok (.ireturn, 1) := by decide +kernel
end
section
theorem dJ6_numberOfTrailingZeros_0f7a4_0 : decode cJ6_numberOfTrailingZeros_0f7a4 0 = .ok (.iload_n 0, 1) := by decide +kernel
theorem dJ6_numberOfTrailingZeros_0f7a4_1 : decode cJ6_numberOfTrailingZeros_0f7a4 1 = .ok (.iconst (-1), 1) := by decide +kernel
theorem dJ6_numberOfTrailingZeros_0f7a4_2 : decode cJ6_numberOfTrailingZeros_0f7a4 2 = .ok (.ixor, 1) := by decide +kernel
theorem dJ6_numberOfTrailingZeros_0f7a4_3 : decode cJ6_numberOfTrailingZeros_0f7a4 3 = .ok (.iload_n 0, 1) := by decide +kernel
theorem dJ6_numberOfTrailingZeros_0f7a4_4 : decode cJ6_numberOfTrailingZeros_0f7a4 4 = .ok (.iconst 1, 1) := by decide +kernel
theorem dJ6_numberOfTrailingZeros_0f7a4_5 : decode cJ6_numberOfTrailingZeros_0f7a4 5 = .ok (.isub, 1) := by decide +kernel
theorem dJ6_numberOfTrailingZeros_0f7a4_6 : decode cJ6_numberOfTrailingZeros_0f7a4 6 = .ok (.iand, 1) := by decide +kernel
theorem dJ6_numberOfTrailingZeros_0f7a4_7 : decode cJ6_numberOfTrailingZeros_0f7a4 7 = .ok (.istore_n 0, 1) := by decide +kernel
theorem dJ6_numberOfTrailingZeros_0f7a4_8 : decode cJ6_numberOfTrailingZeros_0f7a4 8 = .ok (.iload_n 0, 1) := by decide +kernel
theorem dJ6_numberOfTrailingZeros_0f7a4_9 : decode cJ6_numberOfTrailingZeros_0f7a4 9 = .ok (.ifCond .gt 8, 3) := by decide +kernel
theorem dJ6_numberOfTrailingZeros_0f7a4_12 : decode cJ6_numberOfTrailingZeros_0f7a4 12 = .ok (.iload_n 0, 1) := by decide +kernel
theorem dJ6_numberOfTrailingZeros_0f7a4_13 : decode cJ6_numberOfTrailingZeros_0f7a4 13 = .ok (.bipush 32, 2) := by decide +kernel
theorem dJ6_numberOfTrailingZeros_0f7a4_15 : decode cJ6_numberOfTrailingZeros_0f7a4 15 = .ok (.iand, 1) := by decide +kernel
theorem dJ6_numberOfTrailingZeros_0f7a4_16 : decode cJ6_numberOfTrailingZeros_0f7a4 16 = .ok (.ireturn, 1) := by decide +kernel
theorem dJ6_numberOfTrailingZeros_0f7a4_17 : decode cJ6_numberOfTrailingZeros_0f7a4 17 = .ok (.iconst 1, 1) := by decide +kernel
theorem dJ6_numberOfTrailingZeros_0f7a4_18 : decode cJ6_numberOfTrailingZeros_0f7a4 18 = .ok (.istore_n 1, 1) := by decide +kernel
theorem dJ6_numberOfTrailingZeros_0f7a4_19 : decode cJ6_numberOfTrailingZeros_0f7a4 19 = .ok (.iload_n 0, 1) := by decide +kernel
theorem dJ6_numberOfTrailingZeros_0f7a4_20 : decode cJ6_numberOfTrailingZeros_0f7a4 20 = .ok (.ldc_w 264, 3) := by decide +kernel
theorem dJ6_numberOfTrailingZeros_0f7a4_23 : decode cJ6_numberOfTrailingZeros_0f7a4 23 = .ok (.if_icmp .le 11, 3) := by decide +kernel
theorem dJ6_numberOfTrailingZeros_0f7a4_26 : decode cJ6_numberOfTrailingZeros_0f7a4 26 = .ok (.iinc 1 16, 3) := by decide +kernel
theorem dJ6_numberOfTrailingZeros_0f7a4_29 : decode cJ6_numberOfTrailingZeros_0f7a4 29 = .ok (.iload_n 0, 1) := by decide +kernel
theorem dJ6_numberOfTrailingZeros_0f7a4_30 : decode cJ6_numberOfTrailingZeros_0f7a4 30 = .ok (.bipush 16, 2) := by decide +kernel
theorem dJ6_numberOfTrailingZeros_0f7a4_32 : decode cJ6_numberOfTrailingZeros_0f7a4 32 = .ok (.iushr, 1) := by decide +kernel
theorem dJ6_numberOfTrailingZeros_0f7a4_33 : decode cJ6_numberOfTrailingZeros_0f7a4 33 = .ok (.istore_n 0, 1) := by decide +kernel
theorem dJ6_numberOfTrailingZeros_0f7a4_34 : decode cJ6_numberOfTrailingZeros_0f7a4 34 = .ok (.iload_n 0, 1) := by decide +kernel
theorem dJ6_numberOfTrailingZeros_0f7a4_35 : decode cJ6_numberOfTrailingZeros_0f7a4 35 = .ok (.sipush 256, 3) := by decide +kernel
theorem dJ6_numberOfTrailingZeros_0f7a4_38 : decode cJ6_numberOfTrailingZeros_0f7a4 38 = .ok (.if_icmp .le 11, 3) := by decide +kernel
theorem dJ6_numberOfTrailingZeros_0f7a4_41 : decode cJ6_numberOfTrailingZeros_0f7a4 41 = .ok (.iinc 1 8, 3) := by decide +kernel
theorem dJ6_numberOfTrailingZeros_0f7a4_44 : decode cJ6_numberOfTrailingZeros_0f7a4 44 = .ok (.iload_n 0, 1) := by decide +kernel
theorem dJ6_numberOfTrailingZeros_0f7a4_45 : decode cJ6_numberOfTrailingZeros_0f7a4 45 = .ok (.bipush 8, 2) := by decide +kernel
theorem dJ6_numberOfTrailingZeros_0f7a4_47 : decode cJ6_numberOfTrailingZeros_0f7a4 47 = .ok (.iushr, 1) := by decide +kernel
theorem dJ6_numberOfTrailingZeros_0f7a4_48 : decode cJ6_numberOfTrailingZeros_0f7a4 48 = .ok (.istore_n 0, 1) := by decide +kernel
theorem dJ6_numberOfTrailingZeros_0f7a4_49 : decode cJ6_numberOfTrailingZeros_0f7a4 49 = .ok (.iload_n 0, 1) := by decide +kernel
theorem dJ6_numberOfTrailingZeros_0f7a4_50 : decode cJ6_numberOfTrailingZeros_0f7a4 50 = .ok (.bipush 16, 2) := by decide +kernel
theorem dJ6_numberOfTrailingZeros_0f7a4_52 : decode cJ6_numberOfTrailingZeros_0f7a4 52 = .ok (.if_icmp .le 10, 3) := by decide +kernel
theorem dJ6_numberOfTrailingZeros_0f7a4_55 : decode cJ6_numberOfTrailingZeros_0f7a4 55 = .ok (.iinc 1 4, 3) := by decide +kernel
theorem dJ6_numberOfTrailingZeros_0f7a4_58 : decode cJ6_numberOfTrailingZeros_0f7a4 58 = .ok (.iload_n 0, 1) := by decide +kernel
theorem dJ6_numberOfTrailingZeros_0f7a4_59 : decode cJ6_numberOfTrailingZeros_0f7a4 59 = .ok (.iconst 4, 1) := by decide +kernel
theorem dJ6_numberOfTrailingZeros_0f7a4_60 : decode cJ6_numberOfTrailingZeros_0f7a4 60 = .ok (.iushr, 1) := by decide +kernel
theorem dJ6_numberOfTrailingZeros_0f7a4_61 : decode cJ6_numberOfTrailingZeros_0f7a4 61 = .ok (.istore_n 0, 1) := by decide +kernel
theorem dJ6_numberOfTrailingZeros_0f7a4_62 : decode cJ6_numberOfTrailingZeros_0f7a4 62 = .ok (.iload_n 0, 1) := by decide +kernel
theorem dJ6_numberOfTrailingZeros_0f7a4_63 : decode cJ6_numberOfTrailingZeros_0f7a4 63 = .ok (.iconst 4, 1) := by decide +kernel
theorem dJ6_numberOfTrailingZeros_0f7a4_64 : decode cJ6_numberOfTrailingZeros_0f7a4 64 = .ok (.if_icmp .le 10, 3) := by decide +kernel
theorem dJ6_numberOfTrailingZeros_0f7a4_67 : decode cJ6_numberOfTrailingZeros_0f7a4 67 = .ok (.iinc 1 2, 3) := by decide +kernel
theorem dJ6_numberOfTrailingZeros_0f7a4_70 : decode cJ6_numberOfTrailingZeros_0f7a4 70 = .ok (.iload_n 0, 1) := by decide +kernel
theorem dJ6_numberOfTrailingZeros_0f7a4_71 : decode cJ6_numberOfTrailingZeros_0f7a4 71 = .ok (.iconst 2, 1) := by decide +kernel
theorem dJ6_numberOfTrailingZeros_0f7a4_72 : decode cJ6_numberOfTrailingZeros_0f7a4 72 = .ok (.iushr, 1) := by decide +kernel
theorem dJ6_numberOfTrailingZeros_0f7a4_73 : decode cJ6_numberOfTrailingZeros_0f7a4 73 = .ok (.istore_n 0, 1) := by decide +kernel
theorem dJ6_numberOfTrailingZeros_0f7a4_74 : decode cJ6_numberOfTrailingZeros_0f7a4 74 = .ok (.iload_n 1, 1) := by decide +kernel
theorem dJ6_numberOfTrailingZeros_0f7a4_75 : decode cJ6_numberOfTrailingZeros_0f7a4 75 = .ok (.iload_n 0, 1) := by decide +kernel
theorem dJ6_numberOfTrailingZeros_0f7a4_76 : decode cJ6_numberOfTrailingZeros_0f7a4 76 = .ok (.iconst 1, 1) := by decide +kernel
theorem dJ6_numberOfTrailingZeros_0f7a4_77 : decode cJ6_numberOfTrailingZeros_0f7a4 77 = .ok (.iushr, 1) := by decide +kernel
theorem dJ6_numberOfTrailingZeros_0f7a4_78 : decode cJ6_numberOfTrailingZeros_0f7a4 78 = .ok (.iadd, 1) := by decide +kernel
theorem dJ6_numberOfTrailingZeros_0f7a4_79 : decode cJ6_numberOfTrailingZeros_0f7a4 79 = .ok (.ireturn, 1) := by decide +kernel
theorem dJ6_bitCount_0f7a4_0 : decode cJ6_bitCount_0f7a4 0 = .ok (.iload_n 0, 1) := by decide +kernel
theorem dJ6_bitCount_0f7a4_1 : decode cJ6_bitCount_0f7a4 1 = .ok (.iload_n 0, 1) := by decide +kernel
theorem dJ6_bitCount_0f7a4_2 : decode cJ6_bitCount_0f7a4 2 = .ok (.iconst 1, 1) := by decide +kernel
theorem dJ6_bitCount_0f7a4_3 : decode cJ6_bitCount_0f7a4 3 = .ok (.iushr, 1) := by decide +kernel
theorem dJ6_bitCount_0f7a4_4 : decode cJ6_bitCount_0f7a4 4 = .ok (.ldc_w 265, 3) := by decide +kernel
theorem dJ6_bitCount_0f7a4_7 : decode cJ6_bitCount_0f7a4 7 = .ok (.iand, 1) := by decide +kernel
theorem dJ6_bitCount_0f7a4_8 : decode cJ6_bitCount_0f7a4 8 = .ok (.isub, 1) := by decide +kernel
theorem dJ6_bitCount_0f7a4_9 : decode cJ6_bitCount_0f7a4 9 = .ok (.istore_n 0, 1) := by decide +kernel
theorem dJ6_bitCount_0f7a4_10 : decode cJ6_bitCount_0f7a4 10 = .ok (.iload_n 0, 1) := by decide +kernel
theorem dJ6_bitCount_0f7a4_11 : decode cJ6_bitCount_0f7a4 11 = .ok (.ldc_w 266, 3) := by decide +kernel
theorem dJ6_bitCount_0f7a4_14 : decode cJ6_bitCount_0f7a4 14 = .ok (.iand, 1) := by decide +kernel
theorem dJ6_bitCount_0f7a4_15 : decode cJ6_bitCount_0f7a4 15 = .ok (.iload_n 0, 1) := by decide +kernel
theorem dJ6_bitCount_0f7a4_16 : decode cJ6_bitCount_0f7a4 16 = .ok (.iconst 2, 1) := by decide +kernel
theorem dJ6_bitCount_0f7a4_17 : decode cJ6_bitCount_0f7a4 17 = .ok (.iushr, 1) := by decide +kernel
theorem dJ6_bitCount_0f7a4_18 : decode cJ6_bitCount_0f7a4 18 = .ok (.ldc_w 266, 3) := by decide +kernel
theorem dJ6_bitCount_0f7a4_21 : decode cJ6_bitCount_0f7a4 21 = .ok (.iand, 1) := by decide +kernel
theorem dJ6_bitCount_0f7a4_22 : decode cJ6_bitCount_0f7a4 22 = .ok (.iadd, 1) := by decide +kernel
theorem dJ6_bitCount_0f7a4_23 : decode cJ6_bitCount_0f7a4 23 = .ok (.istore_n 0, 1) := by decide +kernel
theorem dJ6_bitCount_0f7a4_24 : decode cJ6_bitCount_0f7a4 24 = .ok (.iload_n 0, 1) := by decide +kernel
theorem dJ6_bitCount_0f7a4_25 : decode cJ6_bitCount_0f7a4 25 = .ok (.iload_n 0, 1) := by decide +kernel
theorem dJ6_bitCount_0f7a4_26 : decode cJ6_bitCount_0f7a4 26 = .ok (.iconst 4, 1) := by decide +kernel
theorem dJ6_bitCount_0f7a4_27 : decode cJ6_bitCount_0f7a4 27 = .ok (.iushr, 1) := by decide +kernel
theorem dJ6_bitCount_0f7a4_28 : decode cJ6_bitCount_0f7a4 28 = .ok (.iadd, 1) := by decide +kernel
theorem dJ6_bitCount_0f7a4_29 : decode cJ6_bitCount_0f7a4 29 = .ok (.ldc_w 267, 3) := by decide +kernel
theorem dJ6_bitCount_0f7a4_32 : decode cJ6_bitCount_0f7a4 32 = .ok (.iand, 1) := by decide +kernel
theorem dJ6_bitCount_0f7a4_33 : decode cJ6_bitCount_0f7a4 33 = .ok (.istore_n 0, 1) := by decide +kernel
theorem dJ6_bitCount_0f7a4_34 : decode cJ6_bitCount_0f7a4 34 = .ok (.iload_n 0, 1) := by decide +kernel
theorem dJ6_bitCount_0f7a4_35 : decode cJ6_bitCount_0f7a4 35 = .ok (.iload_n 0, 1) := by decide +kernel
theorem dJ6_bitCount_0f7a4_36 : decode cJ6_bitCount_0f7a4 36 = .ok (.bipush 8, 2) := by decide +kernel
theorem dJ6_bitCount_0f7a4_38 : decode cJ6_bitCount_0f7a4 38 = .ok (.iushr, 1) := by decide +kernel
theorem dJ6_bitCount_0f7a4_39 : decode cJ6_bitCount_0f7a4 39 = .ok (.iadd, 1) := by decide +kernel
theorem dJ6_bitCount_0f7a4_40 : decode cJ6_bitCount_0f7a4 40 = .ok (.istore_n 0, 1) := by decide +kernel
theorem dJ6_bitCount_0f7a4_41 : decode cJ6_bitCount_0f7a4 41 = .ok (.iload_n 0, 1) := by decide +kernel
theorem dJ6_bitCount_0f7a4_42 : decode cJ6_bitCount_0f7a4 42 = .ok (.iload_n 0, 1) := by decide +kernel
theorem dJ6_bitCount_0f7a4_43 : decode cJ6_bitCount_0f7a4 43 = .ok (.bipush 16, 2) := by decide +kernel
theorem dJ6_bitCount_0f7a4_45 : decode cJ6_bitCount_0f7a4 45 = .ok (.iushr, 1) := by decide +kernel
theorem dJ6_bitCount_0f7a4_46 : decode cJ6_bitCount_0f7a4 46 = .ok (.iadd, 1) := by decide +kernel
theorem dJ6_bitCount_0f7a4_47 : decode cJ6_bitCount_0f7a4 47 = .ok (.istore_n 0, 1) := by decide +kernel
theorem dJ6_bitCount_0f7a4_48 : decode cJ6_bitCount_0f7a4 48 = .ok (.iload_n 0, 1) := by decide +kernel
theorem dJ6_bitCount_0f7a4_49 : decode cJ6_bitCount_0f7a4 49 = .ok (.bipush 63, 2) := by decide +kernel
theorem dJ6_bitCount_0f7a4_51 : decode cJ6_bitCount_0f7a4 51 = .ok (.iand, 1) := by decide +kernel
theorem dJ6_bitCount_0f7a4_52 : decode cJ6_bitCount_0f7a4 52 = .ok (.ireturn, 1) := by decide +kernel
end
section
theorem dJ9_abs_0f7a4_0 : decode cJ9_abs_0f7a4 0 = .ok (.iload_n 0, 1) := by decide +kernel
theorem dJ9_abs_0f7a4_1 : decode cJ9_abs_0f7a4 1 = .ok (.ifCond .ge 8, 3) := by decide +kernel
theorem dJ9_abs_0f7a4_4 : decode cJ9_abs_0f7a4 4 = .ok (.iload_n 0, 1) := by decide +kernel
theorem dJ9_abs_0f7a4_5 : decode cJ9_abs_0f7a4 5 = .ok (.ineg, 1) := by decide +kernel
theorem dJ9_abs_0f7a4_6 : decode cJ9_abs_0f7a4 6 = .ok (.goto 4, 3) := by decide +kernel
theorem dJ9_abs_0f7a4_9 : decode cJ9_abs_0f7a4 9 = .ok (.iload_n 0, 1) := by decide +kernel
theorem dJ9_abs_0f7a4_10 : decode cJ9_abs_0f7a4 10 = .ok (.ireturn, 1) := by decide +kernel
theorem dJ9_max_7cf53_0 : decode cJ9_max_7cf53 0 = .ok (.iload_n 0, 1) := by decide +kernel
theorem dJ9_max_7cf53_1 : decode cJ9_max_7cf53 1 = .ok (.iload_n 1, 1) := by decide +kernel
theorem dJ9_max_7cf53_2 : decode cJ9_max_7cf53 2 = .ok (.if_icmp .lt 7, 3) := by decide +kernel
theorem dJ9_max_7cf53_5 : decode cJ9_max_7cf53 5 = .ok (.iload_n 0, 1) := by decide +kernel
theorem dJ9_max_7cf53_6 : decode cJ9_max_7cf53 6 = .ok (.goto 4, 3) := by decide +kernel
theorem dJ9_max_7cf53_9 : decode cJ9_max_7cf53 9 = .ok (.iload_n 1, 1) := by decide +kernel
theorem dJ9_max_7cf53_10 : decode cJ9_max_7cf53 10 = .ok (.ireturn, 1) := by decide +kernel
theorem dJ9_min_7cf53_0 : decode cJ9_min_7cf53 0 = .ok (.iload_n 0, 1) := by decide +kernel
theorem dJ9_min_7cf53_1 : decode cJ9_min_7cf53 1 = .ok (.iload_n 1, 1) := by decide +kernel
theorem dJ9_min_7cf53_2 : decode cJ9_min_7cf53 2 = .ok (.if_icmp .gt 7, 3) := by decide +kernel
theorem dJ9_min_7cf53_5 : decode cJ9_min_7cf53 5 = .ok (.iload_n 0, 1) := by decide +kernel
theorem dJ9_min_7cf53_6 : decode cJ9_min_7cf53 6 = .ok (.goto 4, 3) := by decide +kernel
theorem dJ9_min_7cf53_9 : decode cJ9_min_7cf53 9 = .ok (.iload_n 1, 1) := by decide +kernel
theorem dJ9_min_7cf53_10 : decode cJ9_min_7cf53 10 = .ok (.ireturn, 1) := by decide +kernel
end
section
theorem dJ0_length_8abf5_0 : decode cJ0_length_8abf5 0 = .ok (.aload_n 0, 1) := by decide +kernel
theorem dJ0_length_8abf5_1 : decode cJ0_length_8abf5 1 = .ok (.getfield 9, 3) := by decide +kernel
theorem dJ0_length_8abf5_4 : decode cJ0_length_8abf5 4 = .ok (.arraylength, 1) := by decide +kernel
theorem dJ0_length_8abf5_5 : decode cJ0_length_8abf5 5 = .ok (.aload_n 0, 1) := by decide +kernel
theorem dJ0_length_8abf5_6 : decode cJ0_length_8abf5 6 = .ok (.invokevirtual 335, 3) := by decide +kernel
theorem dJ0_length_8abf5_9 : decode cJ0_length_8abf5 9 = .ok (.ishr, 1) := by decide +kernel
theorem dJ0_length_8abf5_10 : decode cJ0_length_8abf5 10 = .ok (.ireturn, 1) := by decide +kernel
theorem dJ0_charAt_5068e_0 : decode cJ0_charAt_5068e 0 = .ok (.aload_n 0, 1) := by decide +kernel
theorem dJ0_charAt_5068e_1 : decode cJ0_charAt_5068e 1 = .ok (.invokevirtual 492, 3) := by decide +kernel
theorem dJ0_charAt_5068e_4 : decode cJ0_charAt_5068e 4 = .ok (.ifCond .eq 12, 3) := by decide +kernel
theorem dJ0_charAt_5068e_7 : decode cJ0_charAt_5068e 7 = .ok (.aload_n 0, 1) := by decide +kernel
theorem dJ0_charAt_5068e_8 : decode cJ0_charAt_5068e 8 = .ok (.getfield 9, 3) := by decide +kernel
theorem dJ0_charAt_5068e_11 : decode cJ0_charAt_5068e 11 = .ok (.iload_n 1, 1) := by decide +kernel
theorem dJ0_charAt_5068e_12 : decode cJ0_charAt_5068e 12 = .ok (.invokestatic 495, 3) := by decide +kernel
theorem dJ0_charAt_5068e_15 : decode cJ0_charAt_5068e 15 = .ok (.ireturn, 1) := by decide +kernel
theorem dJ0_charAt_5068e_16 : decode cJ0_charAt_5068e 16 = .ok (.aload_n 0, 1) := by decide +kernel
theorem dJ0_charAt_5068e_17 : decode cJ0_charAt_5068e 17 = .ok (.getfield 9, 3) := by decide +kernel
theorem dJ0_charAt_5068e_20 : decode cJ0_charAt_5068e 20 = .ok (.iload_n 1, 1) := by decide +kernel
theorem dJ0_charAt_5068e_21 : decode cJ0_charAt_5068e 21 = .ok (.invokestatic 498, 3) := by decide +kernel
theorem dJ0_charAt_5068e_24 : decode cJ0_charAt_5068e 24 = .ok (.ireturn, 1) := by decide +kernel
theorem dJ0_coder_7d493_0 : decode cJ0_coder_7d493 0 = .ok (.getstatic 38, 3) := by decide +kernel
theorem dJ0_coder_7d493_3 : decode cJ0_coder_7d493 3 = .ok (.ifCond .eq 10, 3) := by decide +kernel
theorem dJ0_coder_7d493_6 : decode cJ0_coder_7d493 6 = .ok (.aload_n 0, 1) := by decide +kernel
theorem dJ0_coder_7d493_7 : decode cJ0_coder_7d493 7 = .ok (.getfield 15, 3) := by decide +kernel
theorem dJ0_coder_7d493_10 : decode cJ0_coder_7d493 10 = .ok (.goto 4, 3) := by decide +kernel
theorem dJ0_coder_7d493_13 : decode cJ0_coder_7d493 13 = .ok (.iconst 1, 1) := by decide +kernel
theorem dJ0_coder_7d493_14 : decode cJ0_coder_7d493 14 = .ok (.ireturn, 1) := by decide +kernel
theorem dJ0_isLatin1_aae02_0 : decode cJ0_isLatin1_aae02 0 = .ok (.getstatic 38, 3) := by decide +kernel
theorem dJ0_isLatin1_aae02_3 : decode cJ0_isLatin1_aae02 3 = .ok (.ifCond .eq 14, 3) := by decide +kernel
theorem dJ0_isLatin1_aae02_6 : decode cJ0_isLatin1_aae02 6 = .ok (.aload_n 0, 1) := by decide +kernel
theorem dJ0_isLatin1_aae02_7 : decode cJ0_isLatin1_aae02 7 = .ok (.getfield 15, 3) := by decide +kernel
theorem dJ0_isLatin1_aae02_10 : decode cJ0_isLatin1_aae02 10 = .ok (.ifCond .ne 7, 3) := by decide +kernel
theorem dJ0_isLatin1_aae02_13 : decode cJ0_isLatin1_aae02 13 = .ok (.iconst 1, 1) := by decide +kernel
theorem dJ0_isLatin1_aae02_14 : decode cJ0_isLatin1_aae02 14 = .ok (.goto 4, 3) := by decide +kernel
theorem dJ0_isLatin1_aae02_17 : decode cJ0_isLatin1_aae02 17 = .ok (.iconst 0, 1) := by decide +kernel
theorem dJ0_isLatin1_aae02_18 : decode cJ0_isLatin1_aae02 18 = .ok (.ireturn, 1) := by decide +kernel
theorem dJ0_checkIndex_df160_0 : decode cJ0_checkIndex_df160 0 = .ok (.iload_n 0, 1) := by decide +kernel
theorem dJ0_checkIndex_df160_1 : decode cJ0_checkIndex_df160 1 = .ok (.iload_n 1, 1) := by decide +kernel
theorem dJ0_checkIndex_df160_2 : decode cJ0_checkIndex_df160 2 = .ok (.getstatic 1053, 3) := by decide +kernel
theorem dJ0_checkIndex_df160_5 : decode cJ0_checkIndex_df160 5 = .ok (.invokestatic 1059, 3) := by decide +kernel
theorem dJ0_checkIndex_df160_8 : decode cJ0_checkIndex_df160 8 = .ok (.pop, 1) := by decide +kernel
theorem dJ0_checkIndex_df160_9 : decode cJ0_checkIndex_df160 9 = .ok (.return_, 1) := by decide +kernel
end
section
theorem dJ1_charAt_3b067_0 : decode cJ1_charAt_3b067 0 = .ok (.iload_n 1, 1) := by decide +kernel
theorem dJ1_charAt_3b067_1 : decode cJ1_charAt_3b067 1 = .ok (.aload_n 0, 1) := by decide +kernel
theorem dJ1_charAt_3b067_2 : decode cJ1_charAt_3b067 2 = .ok (.arraylength, 1) := by decide +kernel
theorem dJ1_charAt_3b067_3 : decode cJ1_charAt_3b067 3 = .ok (.invokestatic 9, 3) := by decide +kernel
theorem dJ1_charAt_3b067_6 : decode cJ1_charAt_3b067 6 = .ok (.aload_n 0, 1) := by decide +kernel
theorem dJ1_charAt_3b067_7 : decode cJ1_charAt_3b067 7 = .ok (.iload_n 1, 1) := by decide +kernel
theorem dJ1_charAt_3b067_8 : decode cJ1_charAt_3b067 8 = .ok (.baload, 1) := by decide +kernel
theorem dJ1_charAt_3b067_9 : decode cJ1_charAt_3b067 9 = .ok (.sipush 255, 3) := by decide +kernel
theorem dJ1_charAt_3b067_12 : decode cJ1_charAt_3b067 12 = .ok (.iand, 1) := by decide +kernel
theorem dJ1_charAt_3b067_13 : decode cJ1_charAt_3b067 13 = .ok (.i2c, 1) := by decide +kernel
theorem dJ1_charAt_3b067_14 : decode cJ1_charAt_3b067 14 = .ok (.ireturn, 1) := by decide +kernel
end
section
theorem dJ2_getChar_3b067_0 : decode cJ2_getChar_3b067 0 = .ok (.getstatic 44, 3) := by decide +kernel
theorem dJ2_getChar_3b067_3 : decode cJ2_getChar_3b067 3 = .ok (.ifCond .ne 25, 3) := by decide +kernel
theorem dJ2_getChar_3b067_6 : decode cJ2_getChar_3b067 6 = .ok (.iload_n 1, 1) := by decide +kernel
theorem dJ2_getChar_3b067_7 : decode cJ2_getChar_3b067 7 = .ok (.ifCond .lt 11, 3) := by decide +kernel
theorem dJ2_getChar_3b067_10 : decode cJ2_getChar_3b067 10 = .ok (.iload_n 1, 1) := by decide +kernel
theorem dJ2_getChar_3b067_11 : decode cJ2_getChar_3b067 11 = .ok (.aload_n 0, 1) := by decide +kernel
theorem dJ2_getChar_3b067_12 : decode cJ2_getChar_3b067 12 = .ok (.invokestatic 48, 3) := by decide +kernel
theorem dJ2_getChar_3b067_15 : decode cJ2_getChar_3b067 15 = .ok (.if_icmp .lt 13, 3) := by decide +kernel
theorem dJ2_getChar_3b067_18 : decode cJ2_getChar_3b067 18 = .ok (.new 52, 3) := by decide +kernel
theorem dJ2_getChar_3b067_21 : decode cJ2_getChar_3b067 21 = .ok (.dup, 1) := by decide +kernel
theorem dJ2_getChar_3b067_22 : decode cJ2_getChar_3b067 22 = .ok (.ldc 54, 2) := by decide +kernel
theorem dJ2_getChar_3b067_24 : decode cJ2_getChar_3b067 24 = .ok (.invokespecial 56, 3) := by decide +kernel
theorem dJ2_getChar_3b067_27 : decode cJ2_getChar_3b067 27 = .ok (.athrow, 1) := by decide +kernel
theorem dJ2_getChar_3b067_28 : decode cJ2_getChar_3b067 28 = .ok (.iload_n 1, 1) := by decide +kernel
theorem dJ2_getChar_3b067_29 : decode cJ2_getChar_3b067 29 = .ok (.iconst 1, 1) := by decide +kernel
theorem dJ2_getChar_3b067_30 : decode cJ2_getChar_3b067 30 = .ok (.ishl, 1) := by decide +kernel
theorem dJ2_getChar_3b067_31 : decode cJ2_getChar_3b067 31 = .ok (.istore_n 1, 1) := by decide +kernel
theorem dJ2_getChar_3b067_32 : decode cJ2_getChar_3b067 32 = .ok (.aload_n 0, 1) := by decide +kernel
theorem dJ2_getChar_3b067_33 : decode cJ2_getChar_3b067 33 = .ok (.iload_n 1, 1) := by decide +kernel
theorem dJ2_getChar_3b067_34 : decode cJ2_getChar_3b067 34 = .ok (.iinc 1 1, 3) := by decide +kernel
theorem dJ2_getChar_3b067_37 : decode cJ2_getChar_3b067 37 = .ok (.baload, 1) := by decide +kernel
theorem dJ2_getChar_3b067_38 : decode cJ2_getChar_3b067 38 = .ok (.sipush 255, 3) := by decide +kernel
theorem dJ2_getChar_3b067_41 : decode cJ2_getChar_3b067 41 = .ok (.iand, 1) := by decide +kernel
theorem dJ2_getChar_3b067_42 : decode cJ2_getChar_3b067 42 = .ok (.getstatic 59, 3) := by decide +kernel
theorem dJ2_getChar_3b067_45 : decode cJ2_getChar_3b067 45 = .ok (.ishl, 1) := by decide +kernel
theorem dJ2_getChar_3b067_46 : decode cJ2_getChar_3b067 46 = .ok (.aload_n 0, 1) := by decide +kernel
theorem dJ2_getChar_3b067_47 : decode cJ2_getChar_3b067 47 = .ok (.iload_n 1, 1) := by decide +kernel
theorem dJ2_getChar_3b067_48 : decode cJ2_getChar_3b067 48 = .ok (.baload, 1) := by decide +kernel
theorem dJ2_getChar_3b067_49 : decode cJ2_getChar_3b067 49 = .ok (.sipush 255, 3) := by decide +kernel
theorem dJ2_getChar_3b067_52 : decode cJ2_getChar_3b067 52 = .ok (.iand, 1) := by decide +kernel
theorem dJ2_getChar_3b067_53 : decode cJ2_getChar_3b067 53 = .ok (.getstatic 63, 3) := by decide +kernel
theorem dJ2_getChar_3b067_56 : decode cJ2_getChar_3b067 56 = .ok (.ishl, 1) := by decide +kernel
theorem dJ2_getChar_3b067_57 : decode cJ2_getChar_3b067 57 = .ok (.ior, 1) := by decide +kernel
theorem dJ2_getChar_3b067_58 : decode cJ2_getChar_3b067 58 = .ok (.i2c, 1) := by decide +kernel
theorem dJ2_getChar_3b067_59 : decode cJ2_getChar_3b067 59 = .ok (.ireturn, 1) := by decide +kernel
theorem dJ2_length_9d52b_0 : decode cJ2_length_9d52b 0 = .ok (.aload_n 0, 1) := by decide +kernel
theorem dJ2_length_9d52b_1 : decode cJ2_length_9d52b 1 = .ok (.arraylength, 1) := by decide +kernel
theorem dJ2_length_9d52b_2 : decode cJ2_length_9d52b 2 = .ok (.iconst 1, 1) := by decide +kernel
theorem dJ2_length_9d52b_3 : decode cJ2_length_9d52b 3 = .ok (.ishr, 1) := by decide +kernel
theorem dJ2_length_9d52b_4 : decode cJ2_length_9d52b 4 = .ok (.ireturn, 1) := by decide +kernel
theorem dJ2_charAt_3b067_0 : decode cJ2_charAt_3b067 0 = .ok (.iload_n 1, 1) := by decide +kernel
theorem dJ2_charAt_3b067_1 : decode cJ2_charAt_3b067 1 = .ok (.aload_n 0, 1) := by decide +kernel
theorem dJ2_charAt_3b067_2 : decode cJ2_charAt_3b067 2 = .ok (.invokestatic 67, 3) := by decide +kernel
theorem dJ2_charAt_3b067_5 : decode cJ2_charAt_3b067 5 = .ok (.aload_n 0, 1) := by decide +kernel
theorem dJ2_charAt_3b067_6 : decode cJ2_charAt_3b067 6 = .ok (.iload_n 1, 1) := by decide +kernel
theorem dJ2_charAt_3b067_7 : decode cJ2_charAt_3b067 7 = .ok (.invokestatic 71, 3) := by decide +kernel
theorem dJ2_charAt_3b067_10 : decode cJ2_charAt_3b067 10 = .ok (.ireturn, 1) := by decide +kernel
theorem dJ2_checkIndex_2214a_0 : decode cJ2_checkIndex_2214a 0 = .ok (.iload_n 0, 1) := by decide +kernel
theorem dJ2_checkIndex_2214a_1 : decode cJ2_checkIndex_2214a 1 = .ok (.aload_n 1, 1) := by decide +kernel
theorem dJ2_checkIndex_2214a_2 : decode cJ2_checkIndex_2214a 2 = .ok (.invokestatic 48, 3) := by decide +kernel
theorem dJ2_checkIndex_2214a_5 : decode cJ2_checkIndex_2214a 5 = .ok (.invokestatic 414, 3) := by decide +kernel
theorem dJ2_checkIndex_2214a_8 : decode cJ2_checkIndex_2214a 8 = .ok (.return_, 1) := by decide +kernel
end
section
theorem dJ3_checkIndex_8e157_0 : decode cJ3_checkIndex_8e157 0 = .ok (.iload_n 0, 1) := by decide +kernel
theorem dJ3_checkIndex_8e157_1 : decode cJ3_checkIndex_8e157 1 = .ok (.ifCond .lt 8, 3) := by decide +kernel
theorem dJ3_checkIndex_8e157_4 : decode cJ3_checkIndex_8e157 4 = .ok (.iload_n 0, 1) := by decide +kernel
theorem dJ3_checkIndex_8e157_5 : decode cJ3_checkIndex_8e157 5 = .ok (.iload_n 1, 1) := by decide +kernel
theorem dJ3_checkIndex_8e157_6 : decode cJ3_checkIndex_8e157 6 = .ok (.if_icmp .lt 10, 3) := by decide +kernel
theorem dJ3_checkIndex_8e157_9 : decode cJ3_checkIndex_8e157 9 = .ok (.aload_n 2, 1) := by decide +kernel
theorem dJ3_checkIndex_8e157_10 : decode cJ3_checkIndex_8e157 10 = .ok (.iload_n 0, 1) := by decide +kernel
theorem dJ3_checkIndex_8e157_11 : decode cJ3_checkIndex_8e157 11 = .ok (.iload_n 1, 1) := by decide +kernel
theorem dJ3_checkIndex_8e157_12 : decode cJ3_checkIndex_8e157 12 = .ok (.invokestatic 95, 3) := by decide +kernel
theorem dJ3_checkIndex_8e157_15 : decode cJ3_checkIndex_8e157 15 = .ok (.athrow, 1) := by decide +kernel
theorem dJ3_checkIndex_8e157_16 : decode cJ3_checkIndex_8e157 16 = .ok (.iload_n 0, 1) := by decide +kernel
theorem dJ3_checkIndex_8e157_17 : decode cJ3_checkIndex_8e157 17 = .ok (.ireturn, 1) := by decide +kernel
end
section
theorem dL_law_0 : decode cL_law 0 = .ok (.new 7, 3) := by decide +kernel
theorem dL_law_3 : decode cL_law 3 = .ok (.dup, 1) := by decide +kernel
theorem dL_law_4 : decode cL_law 4 = .ok (.invokespecial 9, 3) := by decide +kernel
theorem dL_law_7 : decode cL_law 7 = .ok (.astore_n 1, 1) := by decide +kernel
theorem dL_law_8 : decode cL_law 8 = .ok (.new 10, 3) := by decide +kernel
theorem dL_law_11 : decode cL_law 11 = .ok (.dup, 1) := by decide +kernel
theorem dL_law_12 : decode cL_law 12 = .ok (.invokespecial 12, 3) := by decide +kernel
theorem dL_law_15 : decode cL_law 15 = .ok (.astore_n 2, 1) := by decide +kernel
theorem dL_law_16 : decode cL_law 16 = .ok (.iconst 0, 1) := by decide +kernel
theorem dL_law_17 : decode cL_law 17 = .ok (.istore_n 3, 1) := by decide +kernel
theorem dL_law_18 : decode cL_law 18 = .ok (.iload_n 3, 1) := by decide +kernel
theorem dL_law_19 : decode cL_law 19 = .ok (.aload_n 0, 1) := by decide +kernel
theorem dL_law_20 : decode cL_law 20 = .ok (.arraylength, 1) := by decide +kernel
theorem dL_law_21 : decode cL_law 21 = .ok (.bipush 6, 2) := by decide +kernel
theorem dL_law_23 : decode cL_law 23 = .ok (.isub, 1) := by decide +kernel
theorem dL_law_24 : decode cL_law 24 = .ok (.if_icmp .gt 1342, 3) := by decide +kernel
theorem dL_law_27 : decode cL_law 27 = .ok (.aload_n 0, 1) := by decide +kernel
theorem dL_law_28 : decode cL_law 28 = .ok (.iload_n 3, 1) := by decide +kernel
theorem dL_law_29 : decode cL_law 29 = .ok (.iaload, 1) := by decide +kernel
theorem dL_law_30 : decode cL_law 30 = .ok (.bipush 63, 2) := by decide +kernel
theorem dL_law_32 : decode cL_law 32 = .ok (.iand, 1) := by decide +kernel
theorem dL_law_33 : decode cL_law 33 = .ok (.tableswitch 1327 0 35 #[159, 172, 225, 258, 291, 334, 367, 430, 463, 496, 519, 542, 575, 628, 661, 684, 717, 780, 823, 846, 879, 922, 935, 958, 991, 1004, 1017, 1050, 1073, 1096, 1139, 1182, 1215, 1278, 1291, 1304], 159) := by decide +kernel
theorem dL_law_192 : decode cL_law 192 = .ok (.aload_n 1, 1) := by decide +kernel
theorem dL_law_193 : decode cL_law 193 = .ok (.invokevirtual 13, 3) := by decide +kernel
theorem dL_law_196 : decode cL_law 196 = .ok (.aload_n 2, 1) := by decide +kernel
theorem dL_law_197 : decode cL_law 197 = .ok (.invokevirtual 17, 3) := by decide +kernel
theorem dL_law_200 : decode cL_law 200 = .ok (.if_icmp .eq 1160, 3) := by decide +kernel
theorem dL_law_203 : decode cL_law 203 = .ok (.iconst 0, 1) := by decide +kernel
theorem dL_law_204 : decode cL_law 204 = .ok (.ireturn, 1) := by decide +kernel
theorem dL_law_205 : decode cL_law 205 = .ok (.aload_n 1, 1) := by decide +kernel
theorem dL_law_206 : decode cL_law 206 = .ok (.aload_n 0, 1) := by decide +kernel
theorem dL_law_207 : decode cL_law 207 = .ok (.iload_n 3, 1) := by decide +kernel
theorem dL_law_208 : decode cL_law 208 = .ok (.iconst 1, 1) := by decide +kernel
theorem dL_law_209 : decode cL_law 209 = .ok (.iadd, 1) := by decide +kernel
theorem dL_law_210 : decode cL_law 210 = .ok (.iaload, 1) := by decide +kernel
theorem dL_law_211 : decode cL_law 211 = .ok (.aload_n 0, 1) := by decide +kernel
theorem dL_law_212 : decode cL_law 212 = .ok (.iload_n 3, 1) := by decide +kernel
theorem dL_law_213 : decode cL_law 213 = .ok (.iconst 2, 1) := by decide +kernel
theorem dL_law_214 : decode cL_law 214 = .ok (.iadd, 1) := by decide +kernel
theorem dL_law_215 : decode cL_law 215 = .ok (.iaload, 1) := by decide +kernel
theorem dL_law_216 : decode cL_law 216 = .ok (.aload_n 0, 1) := by decide +kernel
theorem dL_law_217 : decode cL_law 217 = .ok (.iload_n 3, 1) := by decide +kernel
theorem dL_law_218 : decode cL_law 218 = .ok (.iconst 3, 1) := by decide +kernel
theorem dL_law_219 : decode cL_law 219 = .ok (.iadd, 1) := by decide +kernel
theorem dL_law_220 : decode cL_law 220 = .ok (.iaload, 1) := by decide +kernel
theorem dL_law_221 : decode cL_law 221 = .ok (.aload_n 0, 1) := by decide +kernel
theorem dL_law_222 : decode cL_law 222 = .ok (.iload_n 3, 1) := by decide +kernel
theorem dL_law_223 : decode cL_law 223 = .ok (.iconst 4, 1) := by decide +kernel
theorem dL_law_224 : decode cL_law 224 = .ok (.iadd, 1) := by decide +kernel
theorem dL_law_225 : decode cL_law 225 = .ok (.iaload, 1) := by decide +kernel
theorem dL_law_226 : decode cL_law 226 = .ok (.invokevirtual 18, 3) := by decide +kernel
theorem dL_law_229 : decode cL_law 229 = .ok (.aload_n 2, 1) := by decide +kernel
theorem dL_law_230 : decode cL_law 230 = .ok (.aload_n 0, 1) := by decide +kernel
theorem dL_law_231 : decode cL_law 231 = .ok (.iload_n 3, 1) := by decide +kernel
theorem dL_law_232 : decode cL_law 232 = .ok (.iconst 1, 1) := by decide +kernel
theorem dL_law_233 : decode cL_law 233 = .ok (.iadd, 1) := by decide +kernel
theorem dL_law_234 : decode cL_law 234 = .ok (.iaload, 1) := by decide +kernel
theorem dL_law_235 : decode cL_law 235 = .ok (.aload_n 0, 1) := by decide +kernel
theorem dL_law_236 : decode cL_law 236 = .ok (.iload_n 3, 1) := by decide +kernel
theorem dL_law_237 : decode cL_law 237 = .ok (.iconst 2, 1) := by decide +kernel
theorem dL_law_238 : decode cL_law 238 = .ok (.iadd, 1) := by decide +kernel
theorem dL_law_239 : decode cL_law 239 = .ok (.iaload, 1) := by decide +kernel
theorem dL_law_240 : decode cL_law 240 = .ok (.aload_n 0, 1) := by decide +kernel
theorem dL_law_241 : decode cL_law 241 = .ok (.iload_n 3, 1) := by decide +kernel
theorem dL_law_242 : decode cL_law 242 = .ok (.iconst 3, 1) := by decide +kernel
theorem dL_law_243 : decode cL_law 243 = .ok (.iadd, 1) := by decide +kernel
theorem dL_law_244 : decode cL_law 244 = .ok (.iaload, 1) := by decide +kernel
theorem dL_law_245 : decode cL_law 245 = .ok (.aload_n 0, 1) := by decide +kernel
theorem dL_law_246 : decode cL_law 246 = .ok (.iload_n 3, 1) := by decide +kernel
theorem dL_law_247 : decode cL_law 247 = .ok (.iconst 4, 1) := by decide +kernel
theorem dL_law_248 : decode cL_law 248 = .ok (.iadd, 1) := by decide +kernel
theorem dL_law_249 : decode cL_law 249 = .ok (.iaload, 1) := by decide +kernel
theorem dL_law_250 : decode cL_law 250 = .ok (.invokevirtual 22, 3) := by decide +kernel
theorem dL_law_253 : decode cL_law 253 = .ok (.if_icmp .eq 1107, 3) := by decide +kernel
theorem dL_law_256 : decode cL_law 256 = .ok (.iconst 0, 1) := by decide +kernel
theorem dL_law_257 : decode cL_law 257 = .ok (.ireturn, 1) := by decide +kernel
theorem dL_law_258 : decode cL_law 258 = .ok (.aload_n 1, 1) := by decide +kernel
theorem dL_law_259 : decode cL_law 259 = .ok (.aload_n 0, 1) := by decide +kernel
theorem dL_law_260 : decode cL_law 260 = .ok (.iload_n 3, 1) := by decide +kernel
theorem dL_law_261 : decode cL_law 261 = .ok (.iconst 1, 1) := by decide +kernel
theorem dL_law_262 : decode cL_law 262 = .ok (.iadd, 1) := by decide +kernel
theorem dL_law_263 : decode cL_law 263 = .ok (.iaload, 1) := by decide +kernel
theorem dL_law_264 : decode cL_law 264 = .ok (.aload_n 0, 1) := by decide +kernel
theorem dL_law_265 : decode cL_law 265 = .ok (.iload_n 3, 1) := by decide +kernel
theorem dL_law_266 : decode cL_law 266 = .ok (.iconst 2, 1) := by decide +kernel
theorem dL_law_267 : decode cL_law 267 = .ok (.iadd, 1) := by decide +kernel
theorem dL_law_268 : decode cL_law 268 = .ok (.iaload, 1) := by decide +kernel
theorem dL_law_269 : decode cL_law 269 = .ok (.invokevirtual 23, 3) := by decide +kernel
theorem dL_law_272 : decode cL_law 272 = .ok (.aload_n 2, 1) := by decide +kernel
theorem dL_law_273 : decode cL_law 273 = .ok (.aload_n 0, 1) := by decide +kernel
theorem dL_law_274 : decode cL_law 274 = .ok (.iload_n 3, 1) := by decide +kernel
theorem dL_law_275 : decode cL_law 275 = .ok (.iconst 1, 1) := by decide +kernel
theorem dL_law_276 : decode cL_law 276 = .ok (.iadd, 1) := by decide +kernel
theorem dL_law_277 : decode cL_law 277 = .ok (.iaload, 1) := by decide +kernel
theorem dL_law_278 : decode cL_law 278 = .ok (.aload_n 0, 1) := by decide +kernel
theorem dL_law_279 : decode cL_law 279 = .ok (.iload_n 3, 1) := by decide +kernel
theorem dL_law_280 : decode cL_law 280 = .ok (.iconst 2, 1) := by decide +kernel
theorem dL_law_281 : decode cL_law 281 = .ok (.iadd, 1) := by decide +kernel
theorem dL_law_282 : decode cL_law 282 = .ok (.iaload, 1) := by decide +kernel
theorem dL_law_283 : decode cL_law 283 = .ok (.invokevirtual 27, 3) := by decide +kernel
theorem dL_law_286 : decode cL_law 286 = .ok (.if_icmp .eq 1074, 3) := by decide +kernel
theorem dL_law_289 : decode cL_law 289 = .ok (.iconst 0, 1) := by decide +kernel
theorem dL_law_290 : decode cL_law 290 = .ok (.ireturn, 1) := by decide +kernel
theorem dL_law_291 : decode cL_law 291 = .ok (.aload_n 1, 1) := by decide +kernel
theorem dL_law_292 : decode cL_law 292 = .ok (.aload_n 0, 1) := by decide +kernel
theorem dL_law_293 : decode cL_law 293 = .ok (.iload_n 3, 1) := by decide +kernel
theorem dL_law_294 : decode cL_law 294 = .ok (.iconst 1, 1) := by decide +kernel
theorem dL_law_295 : decode cL_law 295 = .ok (.iadd, 1) := by decide +kernel
theorem dL_law_296 : decode cL_law 296 = .ok (.iaload, 1) := by decide +kernel
theorem dL_law_297 : decode cL_law 297 = .ok (.aload_n 0, 1) := by decide +kernel
theorem dL_law_298 : decode cL_law 298 = .ok (.iload_n 3, 1) := by decide +kernel
theorem dL_law_299 : decode cL_law 299 = .ok (.iconst 2, 1) := by decide +kernel
theorem dL_law_300 : decode cL_law 300 = .ok (.iadd, 1) := by decide +kernel
theorem dL_law_301 : decode cL_law 301 = .ok (.iaload, 1) := by decide +kernel
theorem dL_law_302 : decode cL_law 302 = .ok (.invokevirtual 28, 3) := by decide +kernel
theorem dL_law_305 : decode cL_law 305 = .ok (.aload_n 2, 1) := by decide +kernel
theorem dL_law_306 : decode cL_law 306 = .ok (.aload_n 0, 1) := by decide +kernel
theorem dL_law_307 : decode cL_law 307 = .ok (.iload_n 3, 1) := by decide +kernel
theorem dL_law_308 : decode cL_law 308 = .ok (.iconst 1, 1) := by decide +kernel
theorem dL_law_309 : decode cL_law 309 = .ok (.iadd, 1) := by decide +kernel
theorem dL_law_310 : decode cL_law 310 = .ok (.iaload, 1) := by decide +kernel
theorem dL_law_311 : decode cL_law 311 = .ok (.aload_n 0, 1) := by decide +kernel
theorem dL_law_312 : decode cL_law 312 = .ok (.iload_n 3, 1) := by decide +kernel
theorem dL_law_313 : decode cL_law 313 = .ok (.iconst 2, 1) := by decide +kernel
theorem dL_law_314 : decode cL_law 314 = .ok (.iadd, 1) := by decide +kernel
theorem dL_law_315 : decode cL_law 315 = .ok (.iaload, 1) := by decide +kernel
theorem dL_law_316 : decode cL_law 316 = .ok (.invokevirtual 31, 3) := by decide +kernel
theorem dL_law_319 : decode cL_law 319 = .ok (.if_icmp .eq 1041, 3) := by decide +kernel
theorem dL_law_322 : decode cL_law 322 = .ok (.iconst 0, 1) := by decide +kernel
theorem dL_law_323 : decode cL_law 323 = .ok (.ireturn, 1) := by decide +kernel
theorem dL_law_324 : decode cL_law 324 = .ok (.aload_n 1, 1) := by decide +kernel
theorem dL_law_325 : decode cL_law 325 = .ok (.aload_n 0, 1) := by decide +kernel
theorem dL_law_326 : decode cL_law 326 = .ok (.iload_n 3, 1) := by decide +kernel
theorem dL_law_327 : decode cL_law 327 = .ok (.iconst 1, 1) := by decide +kernel
theorem dL_law_328 : decode cL_law 328 = .ok (.iadd, 1) := by decide +kernel
theorem dL_law_329 : decode cL_law 329 = .ok (.iaload, 1) := by decide +kernel
theorem dL_law_330 : decode cL_law 330 = .ok (.aload_n 0, 1) := by decide +kernel
theorem dL_law_331 : decode cL_law 331 = .ok (.iload_n 3, 1) := by decide +kernel
theorem dL_law_332 : decode cL_law 332 = .ok (.iconst 2, 1) := by decide +kernel
theorem dL_law_333 : decode cL_law 333 = .ok (.iadd, 1) := by decide +kernel
theorem dL_law_334 : decode cL_law 334 = .ok (.iaload, 1) := by decide +kernel
theorem dL_law_335 : decode cL_law 335 = .ok (.aload_n 0, 1) := by decide +kernel
theorem dL_law_336 : decode cL_law 336 = .ok (.iload_n 3, 1) := by decide +kernel
theorem dL_law_337 : decode cL_law 337 = .ok (.iconst 3, 1) := by decide +kernel
theorem dL_law_338 : decode cL_law 338 = .ok (.iadd, 1) := by decide +kernel
theorem dL_law_339 : decode cL_law 339 = .ok (.iaload, 1) := by decide +kernel
theorem dL_law_340 : decode cL_law 340 = .ok (.invokevirtual 32, 3) := by decide +kernel
theorem dL_law_343 : decode cL_law 343 = .ok (.aload_n 2, 1) := by decide +kernel
theorem dL_law_344 : decode cL_law 344 = .ok (.aload_n 0, 1) := by decide +kernel
theorem dL_law_345 : decode cL_law 345 = .ok (.iload_n 3, 1) := by decide +kernel
theorem dL_law_346 : decode cL_law 346 = .ok (.iconst 1, 1) := by decide +kernel
theorem dL_law_347 : decode cL_law 347 = .ok (.iadd, 1) := by decide +kernel
theorem dL_law_348 : decode cL_law 348 = .ok (.iaload, 1) := by decide +kernel
theorem dL_law_349 : decode cL_law 349 = .ok (.aload_n 0, 1) := by decide +kernel
theorem dL_law_350 : decode cL_law 350 = .ok (.iload_n 3, 1) := by decide +kernel
theorem dL_law_351 : decode cL_law 351 = .ok (.iconst 2, 1) := by decide +kernel
theorem dL_law_352 : decode cL_law 352 = .ok (.iadd, 1) := by decide +kernel
theorem dL_law_353 : decode cL_law 353 = .ok (.iaload, 1) := by decide +kernel
theorem dL_law_354 : decode cL_law 354 = .ok (.aload_n 0, 1) := by decide +kernel
theorem dL_law_355 : decode cL_law 355 = .ok (.iload_n 3, 1) := by decide +kernel
theorem dL_law_356 : decode cL_law 356 = .ok (.iconst 3, 1) := by decide +kernel
theorem dL_law_357 : decode cL_law 357 = .ok (.iadd, 1) := by decide +kernel
theorem dL_law_358 : decode cL_law 358 = .ok (.iaload, 1) := by decide +kernel
theorem dL_law_359 : decode cL_law 359 = .ok (.invokevirtual 36, 3) := by decide +kernel
theorem dL_law_362 : decode cL_law 362 = .ok (.if_icmp .eq 998, 3) := by decide +kernel
theorem dL_law_365 : decode cL_law 365 = .ok (.iconst 0, 1) := by decide +kernel
theorem dL_law_366 : decode cL_law 366 = .ok (.ireturn, 1) := by decide +kernel
theorem dL_law_367 : decode cL_law 367 = .ok (.aload_n 1, 1) := by decide +kernel
theorem dL_law_368 : decode cL_law 368 = .ok (.aload_n 0, 1) := by decide +kernel
theorem dL_law_369 : decode cL_law 369 = .ok (.iload_n 3, 1) := by decide +kernel
theorem dL_law_370 : decode cL_law 370 = .ok (.iconst 1, 1) := by decide +kernel
theorem dL_law_371 : decode cL_law 371 = .ok (.iadd, 1) := by decide +kernel
theorem dL_law_372 : decode cL_law 372 = .ok (.iaload, 1) := by decide +kernel
theorem dL_law_373 : decode cL_law 373 = .ok (.aload_n 0, 1) := by decide +kernel
theorem dL_law_374 : decode cL_law 374 = .ok (.iload_n 3, 1) := by decide +kernel
theorem dL_law_375 : decode cL_law 375 = .ok (.iconst 2, 1) := by decide +kernel
theorem dL_law_376 : decode cL_law 376 = .ok (.iadd, 1) := by decide +kernel
theorem dL_law_377 : decode cL_law 377 = .ok (.iaload, 1) := by decide +kernel
theorem dL_law_378 : decode cL_law 378 = .ok (.invokevirtual 37, 3) := by decide +kernel
theorem dL_law_381 : decode cL_law 381 = .ok (.aload_n 2, 1) := by decide +kernel
theorem dL_law_382 : decode cL_law 382 = .ok (.aload_n 0, 1) := by decide +kernel
theorem dL_law_383 : decode cL_law 383 = .ok (.iload_n 3, 1) := by decide +kernel
theorem dL_law_384 : decode cL_law 384 = .ok (.iconst 1, 1) := by decide +kernel
theorem dL_law_385 : decode cL_law 385 = .ok (.iadd, 1) := by decide +kernel
theorem dL_law_386 : decode cL_law 386 = .ok (.iaload, 1) := by decide +kernel
theorem dL_law_387 : decode cL_law 387 = .ok (.aload_n 0, 1) := by decide +kernel
theorem dL_law_388 : decode cL_law 388 = .ok (.iload_n 3, 1) := by decide +kernel
theorem dL_law_389 : decode cL_law 389 = .ok (.iconst 2, 1) := by decide +kernel
theorem dL_law_390 : decode cL_law 390 = .ok (.iadd, 1) := by decide +kernel
theorem dL_law_391 : decode cL_law 391 = .ok (.iaload, 1) := by decide +kernel
theorem dL_law_392 : decode cL_law 392 = .ok (.invokevirtual 40, 3) := by decide +kernel
theorem dL_law_395 : decode cL_law 395 = .ok (.if_icmp .eq 965, 3) := by decide +kernel
theorem dL_law_398 : decode cL_law 398 = .ok (.iconst 0, 1) := by decide +kernel
theorem dL_law_399 : decode cL_law 399 = .ok (.ireturn, 1) := by decide +kernel
theorem dL_law_400 : decode cL_law 400 = .ok (.aload_n 1, 1) := by decide +kernel
theorem dL_law_401 : decode cL_law 401 = .ok (.aload_n 0, 1) := by decide +kernel
theorem dL_law_402 : decode cL_law 402 = .ok (.iload_n 3, 1) := by decide +kernel
theorem dL_law_403 : decode cL_law 403 = .ok (.iconst 1, 1) := by decide +kernel
theorem dL_law_404 : decode cL_law 404 = .ok (.iadd, 1) := by decide +kernel
theorem dL_law_405 : decode cL_law 405 = .ok (.iaload, 1) := by decide +kernel
theorem dL_law_406 : decode cL_law 406 = .ok (.aload_n 0, 1) := by decide +kernel
theorem dL_law_407 : decode cL_law 407 = .ok (.iload_n 3, 1) := by decide +kernel
theorem dL_law_408 : decode cL_law 408 = .ok (.iconst 2, 1) := by decide +kernel
theorem dL_law_409 : decode cL_law 409 = .ok (.iadd, 1) := by decide +kernel
theorem dL_law_410 : decode cL_law 410 = .ok (.iaload, 1) := by decide +kernel
theorem dL_law_411 : decode cL_law 411 = .ok (.aload_n 0, 1) := by decide +kernel
theorem dL_law_412 : decode cL_law 412 = .ok (.iload_n 3, 1) := by decide +kernel
theorem dL_law_413 : decode cL_law 413 = .ok (.iconst 3, 1) := by decide +kernel
theorem dL_law_414 : decode cL_law 414 = .ok (.iadd, 1) := by decide +kernel
theorem dL_law_415 : decode cL_law 415 = .ok (.iaload, 1) := by decide +kernel
theorem dL_law_416 : decode cL_law 416 = .ok (.aload_n 0, 1) := by decide +kernel
theorem dL_law_417 : decode cL_law 417 = .ok (.iload_n 3, 1) := by decide +kernel
theorem dL_law_418 : decode cL_law 418 = .ok (.iconst 4, 1) := by decide +kernel
theorem dL_law_419 : decode cL_law 419 = .ok (.iadd, 1) := by decide +kernel
theorem dL_law_420 : decode cL_law 420 = .ok (.iaload, 1) := by decide +kernel
theorem dL_law_421 : decode cL_law 421 = .ok (.aload_n 0, 1) := by decide +kernel
theorem dL_law_422 : decode cL_law 422 = .ok (.iload_n 3, 1) := by decide +kernel
theorem dL_law_423 : decode cL_law 423 = .ok (.iconst 5, 1) := by decide +kernel
theorem dL_law_424 : decode cL_law 424 = .ok (.iadd, 1) := by decide +kernel
theorem dL_law_425 : decode cL_law 425 = .ok (.iaload, 1) := by decide +kernel
theorem dL_law_426 : decode cL_law 426 = .ok (.invokevirtual 41, 3) := by decide +kernel
theorem dL_law_429 : decode cL_law 429 = .ok (.aload_n 2, 1) := by decide +kernel
theorem dL_law_430 : decode cL_law 430 = .ok (.aload_n 0, 1) := by decide +kernel
theorem dL_law_431 : decode cL_law 431 = .ok (.iload_n 3, 1) := by decide +kernel
theorem dL_law_432 : decode cL_law 432 = .ok (.iconst 1, 1) := by decide +kernel
theorem dL_law_433 : decode cL_law 433 = .ok (.iadd, 1) := by decide +kernel
theorem dL_law_434 : decode cL_law 434 = .ok (.iaload, 1) := by decide +kernel
theorem dL_law_435 : decode cL_law 435 = .ok (.aload_n 0, 1) := by decide +kernel
theorem dL_law_436 : decode cL_law 436 = .ok (.iload_n 3, 1) := by decide +kernel
theorem dL_law_437 : decode cL_law 437 = .ok (.iconst 2, 1) := by decide +kernel
theorem dL_law_438 : decode cL_law 438 = .ok (.iadd, 1) := by decide +kernel
theorem dL_law_439 : decode cL_law 439 = .ok (.iaload, 1) := by decide +kernel
theorem dL_law_440 : decode cL_law 440 = .ok (.aload_n 0, 1) := by decide +kernel
theorem dL_law_441 : decode cL_law 441 = .ok (.iload_n 3, 1) := by decide +kernel
theorem dL_law_442 : decode cL_law 442 = .ok (.iconst 3, 1) := by decide +kernel
theorem dL_law_443 : decode cL_law 443 = .ok (.iadd, 1) := by decide +kernel
theorem dL_law_444 : decode cL_law 444 = .ok (.iaload, 1) := by decide +kernel
theorem dL_law_445 : decode cL_law 445 = .ok (.aload_n 0, 1) := by decide +kernel
theorem dL_law_446 : decode cL_law 446 = .ok (.iload_n 3, 1) := by decide +kernel
theorem dL_law_447 : decode cL_law 447 = .ok (.iconst 4, 1) := by decide +kernel
theorem dL_law_448 : decode cL_law 448 = .ok (.iadd, 1) := by decide +kernel
theorem dL_law_449 : decode cL_law 449 = .ok (.iaload, 1) := by decide +kernel
theorem dL_law_450 : decode cL_law 450 = .ok (.aload_n 0, 1) := by decide +kernel
theorem dL_law_451 : decode cL_law 451 = .ok (.iload_n 3, 1) := by decide +kernel
theorem dL_law_452 : decode cL_law 452 = .ok (.iconst 5, 1) := by decide +kernel
theorem dL_law_453 : decode cL_law 453 = .ok (.iadd, 1) := by decide +kernel
theorem dL_law_454 : decode cL_law 454 = .ok (.iaload, 1) := by decide +kernel
theorem dL_law_455 : decode cL_law 455 = .ok (.invokevirtual 45, 3) := by decide +kernel
theorem dL_law_458 : decode cL_law 458 = .ok (.if_icmp .eq 902, 3) := by decide +kernel
theorem dL_law_461 : decode cL_law 461 = .ok (.iconst 0, 1) := by decide +kernel
theorem dL_law_462 : decode cL_law 462 = .ok (.ireturn, 1) := by decide +kernel
theorem dL_law_463 : decode cL_law 463 = .ok (.aload_n 1, 1) := by decide +kernel
theorem dL_law_464 : decode cL_law 464 = .ok (.aload_n 0, 1) := by decide +kernel
theorem dL_law_465 : decode cL_law 465 = .ok (.iload_n 3, 1) := by decide +kernel
theorem dL_law_466 : decode cL_law 466 = .ok (.iconst 1, 1) := by decide +kernel
theorem dL_law_467 : decode cL_law 467 = .ok (.iadd, 1) := by decide +kernel
theorem dL_law_468 : decode cL_law 468 = .ok (.iaload, 1) := by decide +kernel
theorem dL_law_469 : decode cL_law 469 = .ok (.aload_n 0, 1) := by decide +kernel
theorem dL_law_470 : decode cL_law 470 = .ok (.iload_n 3, 1) := by decide +kernel
theorem dL_law_471 : decode cL_law 471 = .ok (.iconst 2, 1) := by decide +kernel
theorem dL_law_472 : decode cL_law 472 = .ok (.iadd, 1) := by decide +kernel
theorem dL_law_473 : decode cL_law 473 = .ok (.iaload, 1) := by decide +kernel
theorem dL_law_474 : decode cL_law 474 = .ok (.invokevirtual 46, 3) := by decide +kernel
theorem dL_law_477 : decode cL_law 477 = .ok (.aload_n 2, 1) := by decide +kernel
theorem dL_law_478 : decode cL_law 478 = .ok (.aload_n 0, 1) := by decide +kernel
theorem dL_law_479 : decode cL_law 479 = .ok (.iload_n 3, 1) := by decide +kernel
theorem dL_law_480 : decode cL_law 480 = .ok (.iconst 1, 1) := by decide +kernel
theorem dL_law_481 : decode cL_law 481 = .ok (.iadd, 1) := by decide +kernel
theorem dL_law_482 : decode cL_law 482 = .ok (.iaload, 1) := by decide +kernel
theorem dL_law_483 : decode cL_law 483 = .ok (.aload_n 0, 1) := by decide +kernel
theorem dL_law_484 : decode cL_law 484 = .ok (.iload_n 3, 1) := by decide +kernel
theorem dL_law_485 : decode cL_law 485 = .ok (.iconst 2, 1) := by decide +kernel
theorem dL_law_486 : decode cL_law 486 = .ok (.iadd, 1) := by decide +kernel
theorem dL_law_487 : decode cL_law 487 = .ok (.iaload, 1) := by decide +kernel
theorem dL_law_488 : decode cL_law 488 = .ok (.invokevirtual 49, 3) := by decide +kernel
theorem dL_law_491 : decode cL_law 491 = .ok (.if_icmp .eq 869, 3) := by decide +kernel
theorem dL_law_494 : decode cL_law 494 = .ok (.iconst 0, 1) := by decide +kernel
theorem dL_law_495 : decode cL_law 495 = .ok (.ireturn, 1) := by decide +kernel
theorem dL_law_496 : decode cL_law 496 = .ok (.aload_n 1, 1) := by decide +kernel
theorem dL_law_497 : decode cL_law 497 = .ok (.aload_n 0, 1) := by decide +kernel
theorem dL_law_498 : decode cL_law 498 = .ok (.iload_n 3, 1) := by decide +kernel
theorem dL_law_499 : decode cL_law 499 = .ok (.iconst 1, 1) := by decide +kernel
theorem dL_law_500 : decode cL_law 500 = .ok (.iadd, 1) := by decide +kernel
theorem dL_law_501 : decode cL_law 501 = .ok (.iaload, 1) := by decide +kernel
theorem dL_law_502 : decode cL_law 502 = .ok (.aload_n 0, 1) := by decide +kernel
theorem dL_law_503 : decode cL_law 503 = .ok (.iload_n 3, 1) := by decide +kernel
theorem dL_law_504 : decode cL_law 504 = .ok (.iconst 2, 1) := by decide +kernel
theorem dL_law_505 : decode cL_law 505 = .ok (.iadd, 1) := by decide +kernel
theorem dL_law_506 : decode cL_law 506 = .ok (.iaload, 1) := by decide +kernel
theorem dL_law_507 : decode cL_law 507 = .ok (.invokevirtual 50, 3) := by decide +kernel
theorem dL_law_510 : decode cL_law 510 = .ok (.aload_n 2, 1) := by decide +kernel
theorem dL_law_511 : decode cL_law 511 = .ok (.aload_n 0, 1) := by decide +kernel
theorem dL_law_512 : decode cL_law 512 = .ok (.iload_n 3, 1) := by decide +kernel
theorem dL_law_513 : decode cL_law 513 = .ok (.iconst 1, 1) := by decide +kernel
theorem dL_law_514 : decode cL_law 514 = .ok (.iadd, 1) := by decide +kernel
theorem dL_law_515 : decode cL_law 515 = .ok (.iaload, 1) := by decide +kernel
theorem dL_law_516 : decode cL_law 516 = .ok (.aload_n 0, 1) := by decide +kernel
theorem dL_law_517 : decode cL_law 517 = .ok (.iload_n 3, 1) := by decide +kernel
theorem dL_law_518 : decode cL_law 518 = .ok (.iconst 2, 1) := by decide +kernel
theorem dL_law_519 : decode cL_law 519 = .ok (.iadd, 1) := by decide +kernel
theorem dL_law_520 : decode cL_law 520 = .ok (.iaload, 1) := by decide +kernel
theorem dL_law_521 : decode cL_law 521 = .ok (.invokevirtual 53, 3) := by decide +kernel
theorem dL_law_524 : decode cL_law 524 = .ok (.if_icmp .eq 836, 3) := by decide +kernel
theorem dL_law_527 : decode cL_law 527 = .ok (.iconst 0, 1) := by decide +kernel
theorem dL_law_528 : decode cL_law 528 = .ok (.ireturn, 1) := by decide +kernel
theorem dL_law_529 : decode cL_law 529 = .ok (.aload_n 1, 1) := by decide +kernel
theorem dL_law_530 : decode cL_law 530 = .ok (.aload_n 0, 1) := by decide +kernel
theorem dL_law_531 : decode cL_law 531 = .ok (.iload_n 3, 1) := by decide +kernel
theorem dL_law_532 : decode cL_law 532 = .ok (.iconst 1, 1) := by decide +kernel
theorem dL_law_533 : decode cL_law 533 = .ok (.iadd, 1) := by decide +kernel
theorem dL_law_534 : decode cL_law 534 = .ok (.iaload, 1) := by decide +kernel
theorem dL_law_535 : decode cL_law 535 = .ok (.invokevirtual 54, 3) := by decide +kernel
theorem dL_law_538 : decode cL_law 538 = .ok (.aload_n 2, 1) := by decide +kernel
theorem dL_law_539 : decode cL_law 539 = .ok (.aload_n 0, 1) := by decide +kernel
theorem dL_law_540 : decode cL_law 540 = .ok (.iload_n 3, 1) := by decide +kernel
theorem dL_law_541 : decode cL_law 541 = .ok (.iconst 1, 1) := by decide +kernel
theorem dL_law_542 : decode cL_law 542 = .ok (.iadd, 1) := by decide +kernel
theorem dL_law_543 : decode cL_law 543 = .ok (.iaload, 1) := by decide +kernel
theorem dL_law_544 : decode cL_law 544 = .ok (.invokevirtual 58, 3) := by decide +kernel
theorem dL_law_547 : decode cL_law 547 = .ok (.if_icmp .eq 813, 3) := by decide +kernel
theorem dL_law_550 : decode cL_law 550 = .ok (.iconst 0, 1) := by decide +kernel
theorem dL_law_551 : decode cL_law 551 = .ok (.ireturn, 1) := by decide +kernel
theorem dL_law_552 : decode cL_law 552 = .ok (.aload_n 1, 1) := by decide +kernel
theorem dL_law_553 : decode cL_law 553 = .ok (.aload_n 0, 1) := by decide +kernel
theorem dL_law_554 : decode cL_law 554 = .ok (.iload_n 3, 1) := by decide +kernel
theorem dL_law_555 : decode cL_law 555 = .ok (.iconst 1, 1) := by decide +kernel
theorem dL_law_556 : decode cL_law 556 = .ok (.iadd, 1) := by decide +kernel
theorem dL_law_557 : decode cL_law 557 = .ok (.iaload, 1) := by decide +kernel
theorem dL_law_558 : decode cL_law 558 = .ok (.invokevirtual 59, 3) := by decide +kernel
theorem dL_law_561 : decode cL_law 561 = .ok (.aload_n 2, 1) := by decide +kernel
theorem dL_law_562 : decode cL_law 562 = .ok (.aload_n 0, 1) := by decide +kernel
theorem dL_law_563 : decode cL_law 563 = .ok (.iload_n 3, 1) := by decide +kernel
theorem dL_law_564 : decode cL_law 564 = .ok (.iconst 1, 1) := by decide +kernel
theorem dL_law_565 : decode cL_law 565 = .ok (.iadd, 1) := by decide +kernel
theorem dL_law_566 : decode cL_law 566 = .ok (.iaload, 1) := by decide +kernel
theorem dL_law_567 : decode cL_law 567 = .ok (.invokevirtual 62, 3) := by decide +kernel
theorem dL_law_570 : decode cL_law 570 = .ok (.if_icmp .eq 790, 3) := by decide +kernel
theorem dL_law_573 : decode cL_law 573 = .ok (.iconst 0, 1) := by decide +kernel
theorem dL_law_574 : decode cL_law 574 = .ok (.ireturn, 1) := by decide +kernel
theorem dL_law_575 : decode cL_law 575 = .ok (.aload_n 1, 1) := by decide +kernel
theorem dL_law_576 : decode cL_law 576 = .ok (.aload_n 0, 1) := by decide +kernel
theorem dL_law_577 : decode cL_law 577 = .ok (.iload_n 3, 1) := by decide +kernel
theorem dL_law_578 : decode cL_law 578 = .ok (.iconst 1, 1) := by decide +kernel
theorem dL_law_579 : decode cL_law 579 = .ok (.iadd, 1) := by decide +kernel
theorem dL_law_580 : decode cL_law 580 = .ok (.iaload, 1) := by decide +kernel
theorem dL_law_581 : decode cL_law 581 = .ok (.aload_n 0, 1) := by decide +kernel
theorem dL_law_582 : decode cL_law 582 = .ok (.iload_n 3, 1) := by decide +kernel
theorem dL_law_583 : decode cL_law 583 = .ok (.iconst 2, 1) := by decide +kernel
theorem dL_law_584 : decode cL_law 584 = .ok (.iadd, 1) := by decide +kernel
theorem dL_law_585 : decode cL_law 585 = .ok (.iaload, 1) := by decide +kernel
theorem dL_law_586 : decode cL_law 586 = .ok (.invokevirtual 63, 3) := by decide +kernel
theorem dL_law_589 : decode cL_law 589 = .ok (.aload_n 2, 1) := by decide +kernel
theorem dL_law_590 : decode cL_law 590 = .ok (.aload_n 0, 1) := by decide +kernel
theorem dL_law_591 : decode cL_law 591 = .ok (.iload_n 3, 1) := by decide +kernel
theorem dL_law_592 : decode cL_law 592 = .ok (.iconst 1, 1) := by decide +kernel
theorem dL_law_593 : decode cL_law 593 = .ok (.iadd, 1) := by decide +kernel
theorem dL_law_594 : decode cL_law 594 = .ok (.iaload, 1) := by decide +kernel
theorem dL_law_595 : decode cL_law 595 = .ok (.aload_n 0, 1) := by decide +kernel
theorem dL_law_596 : decode cL_law 596 = .ok (.iload_n 3, 1) := by decide +kernel
theorem dL_law_597 : decode cL_law 597 = .ok (.iconst 2, 1) := by decide +kernel
theorem dL_law_598 : decode cL_law 598 = .ok (.iadd, 1) := by decide +kernel
theorem dL_law_599 : decode cL_law 599 = .ok (.iaload, 1) := by decide +kernel
theorem dL_law_600 : decode cL_law 600 = .ok (.invokevirtual 66, 3) := by decide +kernel
theorem dL_law_603 : decode cL_law 603 = .ok (.if_icmp .eq 757, 3) := by decide +kernel
theorem dL_law_606 : decode cL_law 606 = .ok (.iconst 0, 1) := by decide +kernel
theorem dL_law_607 : decode cL_law 607 = .ok (.ireturn, 1) := by decide +kernel
theorem dL_law_608 : decode cL_law 608 = .ok (.aload_n 1, 1) := by decide +kernel
theorem dL_law_609 : decode cL_law 609 = .ok (.aload_n 0, 1) := by decide +kernel
theorem dL_law_610 : decode cL_law 610 = .ok (.iload_n 3, 1) := by decide +kernel
theorem dL_law_611 : decode cL_law 611 = .ok (.iconst 1, 1) := by decide +kernel
theorem dL_law_612 : decode cL_law 612 = .ok (.iadd, 1) := by decide +kernel
theorem dL_law_613 : decode cL_law 613 = .ok (.iaload, 1) := by decide +kernel
theorem dL_law_614 : decode cL_law 614 = .ok (.aload_n 0, 1) := by decide +kernel
theorem dL_law_615 : decode cL_law 615 = .ok (.iload_n 3, 1) := by decide +kernel
theorem dL_law_616 : decode cL_law 616 = .ok (.iconst 2, 1) := by decide +kernel
theorem dL_law_617 : decode cL_law 617 = .ok (.iadd, 1) := by decide +kernel
theorem dL_law_618 : decode cL_law 618 = .ok (.iaload, 1) := by decide +kernel
theorem dL_law_619 : decode cL_law 619 = .ok (.aload_n 0, 1) := by decide +kernel
theorem dL_law_620 : decode cL_law 620 = .ok (.iload_n 3, 1) := by decide +kernel
theorem dL_law_621 : decode cL_law 621 = .ok (.iconst 3, 1) := by decide +kernel
theorem dL_law_622 : decode cL_law 622 = .ok (.iadd, 1) := by decide +kernel
theorem dL_law_623 : decode cL_law 623 = .ok (.iaload, 1) := by decide +kernel
theorem dL_law_624 : decode cL_law 624 = .ok (.aload_n 0, 1) := by decide +kernel
theorem dL_law_625 : decode cL_law 625 = .ok (.iload_n 3, 1) := by decide +kernel
theorem dL_law_626 : decode cL_law 626 = .ok (.iconst 4, 1) := by decide +kernel
theorem dL_law_627 : decode cL_law 627 = .ok (.iadd, 1) := by decide +kernel
theorem dL_law_628 : decode cL_law 628 = .ok (.iaload, 1) := by decide +kernel
theorem dL_law_629 : decode cL_law 629 = .ok (.invokevirtual 67, 3) := by decide +kernel
theorem dL_law_632 : decode cL_law 632 = .ok (.aload_n 2, 1) := by decide +kernel
theorem dL_law_633 : decode cL_law 633 = .ok (.aload_n 0, 1) := by decide +kernel
theorem dL_law_634 : decode cL_law 634 = .ok (.iload_n 3, 1) := by decide +kernel
theorem dL_law_635 : decode cL_law 635 = .ok (.iconst 1, 1) := by decide +kernel
theorem dL_law_636 : decode cL_law 636 = .ok (.iadd, 1) := by decide +kernel
theorem dL_law_637 : decode cL_law 637 = .ok (.iaload, 1) := by decide +kernel
theorem dL_law_638 : decode cL_law 638 = .ok (.aload_n 0, 1) := by decide +kernel
theorem dL_law_639 : decode cL_law 639 = .ok (.iload_n 3, 1) := by decide +kernel
theorem dL_law_640 : decode cL_law 640 = .ok (.iconst 2, 1) := by decide +kernel
theorem dL_law_641 : decode cL_law 641 = .ok (.iadd, 1) := by decide +kernel
theorem dL_law_642 : decode cL_law 642 = .ok (.iaload, 1) := by decide +kernel
theorem dL_law_643 : decode cL_law 643 = .ok (.aload_n 0, 1) := by decide +kernel
end
section
theorem dL_law_644 : decode cL_law 644 = .ok (.iload_n 3, 1) := by decide +kernel
theorem dL_law_645 : decode cL_law 645 = .ok (.iconst 3, 1) := by decide +kernel
theorem dL_law_646 : decode cL_law 646 = .ok (.iadd, 1) := by decide +kernel
theorem dL_law_647 : decode cL_law 647 = .ok (.iaload, 1) := by decide +kernel
theorem dL_law_648 : decode cL_law 648 = .ok (.aload_n 0, 1) := by decide +kernel
theorem dL_law_649 : decode cL_law 649 = .ok (.iload_n 3, 1) := by decide +kernel
theorem dL_law_650 : decode cL_law 650 = .ok (.iconst 4, 1) := by decide +kernel
theorem dL_law_651 : decode cL_law 651 = .ok (.iadd, 1) := by decide +kernel
theorem dL_law_652 : decode cL_law 652 = .ok (.iaload, 1) := by decide +kernel
theorem dL_law_653 : decode cL_law 653 = .ok (.invokevirtual 70, 3) := by decide +kernel
theorem dL_law_656 : decode cL_law 656 = .ok (.if_icmp .eq 704, 3) := by decide +kernel
theorem dL_law_659 : decode cL_law 659 = .ok (.iconst 0, 1) := by decide +kernel
theorem dL_law_660 : decode cL_law 660 = .ok (.ireturn, 1) := by decide +kernel
theorem dL_law_661 : decode cL_law 661 = .ok (.aload_n 1, 1) := by decide +kernel
theorem dL_law_662 : decode cL_law 662 = .ok (.aload_n 0, 1) := by decide +kernel
theorem dL_law_663 : decode cL_law 663 = .ok (.iload_n 3, 1) := by decide +kernel
theorem dL_law_664 : decode cL_law 664 = .ok (.iconst 1, 1) := by decide +kernel
theorem dL_law_665 : decode cL_law 665 = .ok (.iadd, 1) := by decide +kernel
theorem dL_law_666 : decode cL_law 666 = .ok (.iaload, 1) := by decide +kernel
theorem dL_law_667 : decode cL_law 667 = .ok (.aload_n 0, 1) := by decide +kernel
theorem dL_law_668 : decode cL_law 668 = .ok (.iload_n 3, 1) := by decide +kernel
theorem dL_law_669 : decode cL_law 669 = .ok (.iconst 2, 1) := by decide +kernel
theorem dL_law_670 : decode cL_law 670 = .ok (.iadd, 1) := by decide +kernel
theorem dL_law_671 : decode cL_law 671 = .ok (.iaload, 1) := by decide +kernel
theorem dL_law_672 : decode cL_law 672 = .ok (.invokevirtual 71, 3) := by decide +kernel
theorem dL_law_675 : decode cL_law 675 = .ok (.aload_n 2, 1) := by decide +kernel
theorem dL_law_676 : decode cL_law 676 = .ok (.aload_n 0, 1) := by decide +kernel
theorem dL_law_677 : decode cL_law 677 = .ok (.iload_n 3, 1) := by decide +kernel
theorem dL_law_678 : decode cL_law 678 = .ok (.iconst 1, 1) := by decide +kernel
theorem dL_law_679 : decode cL_law 679 = .ok (.iadd, 1) := by decide +kernel
theorem dL_law_680 : decode cL_law 680 = .ok (.iaload, 1) := by decide +kernel
theorem dL_law_681 : decode cL_law 681 = .ok (.aload_n 0, 1) := by decide +kernel
theorem dL_law_682 : decode cL_law 682 = .ok (.iload_n 3, 1) := by decide +kernel
theorem dL_law_683 : decode cL_law 683 = .ok (.iconst 2, 1) := by decide +kernel
theorem dL_law_684 : decode cL_law 684 = .ok (.iadd, 1) := by decide +kernel
theorem dL_law_685 : decode cL_law 685 = .ok (.iaload, 1) := by decide +kernel
theorem dL_law_686 : decode cL_law 686 = .ok (.invokevirtual 74, 3) := by decide +kernel
theorem dL_law_689 : decode cL_law 689 = .ok (.if_icmp .eq 671, 3) := by decide +kernel
theorem dL_law_692 : decode cL_law 692 = .ok (.iconst 0, 1) := by decide +kernel
theorem dL_law_693 : decode cL_law 693 = .ok (.ireturn, 1) := by decide +kernel
theorem dL_law_694 : decode cL_law 694 = .ok (.aload_n 1, 1) := by decide +kernel
theorem dL_law_695 : decode cL_law 695 = .ok (.aload_n 0, 1) := by decide +kernel
theorem dL_law_696 : decode cL_law 696 = .ok (.iload_n 3, 1) := by decide +kernel
theorem dL_law_697 : decode cL_law 697 = .ok (.iconst 1, 1) := by decide +kernel
theorem dL_law_698 : decode cL_law 698 = .ok (.iadd, 1) := by decide +kernel
theorem dL_law_699 : decode cL_law 699 = .ok (.iaload, 1) := by decide +kernel
theorem dL_law_700 : decode cL_law 700 = .ok (.invokevirtual 75, 3) := by decide +kernel
theorem dL_law_703 : decode cL_law 703 = .ok (.aload_n 2, 1) := by decide +kernel
theorem dL_law_704 : decode cL_law 704 = .ok (.aload_n 0, 1) := by decide +kernel
theorem dL_law_705 : decode cL_law 705 = .ok (.iload_n 3, 1) := by decide +kernel
theorem dL_law_706 : decode cL_law 706 = .ok (.iconst 1, 1) := by decide +kernel
theorem dL_law_707 : decode cL_law 707 = .ok (.iadd, 1) := by decide +kernel
theorem dL_law_708 : decode cL_law 708 = .ok (.iaload, 1) := by decide +kernel
theorem dL_law_709 : decode cL_law 709 = .ok (.invokevirtual 78, 3) := by decide +kernel
theorem dL_law_712 : decode cL_law 712 = .ok (.if_icmp .eq 648, 3) := by decide +kernel
theorem dL_law_715 : decode cL_law 715 = .ok (.iconst 0, 1) := by decide +kernel
theorem dL_law_716 : decode cL_law 716 = .ok (.ireturn, 1) := by decide +kernel
theorem dL_law_717 : decode cL_law 717 = .ok (.aload_n 1, 1) := by decide +kernel
theorem dL_law_718 : decode cL_law 718 = .ok (.aload_n 0, 1) := by decide +kernel
theorem dL_law_719 : decode cL_law 719 = .ok (.iload_n 3, 1) := by decide +kernel
theorem dL_law_720 : decode cL_law 720 = .ok (.iconst 1, 1) := by decide +kernel
theorem dL_law_721 : decode cL_law 721 = .ok (.iadd, 1) := by decide +kernel
theorem dL_law_722 : decode cL_law 722 = .ok (.iaload, 1) := by decide +kernel
theorem dL_law_723 : decode cL_law 723 = .ok (.aload_n 0, 1) := by decide +kernel
theorem dL_law_724 : decode cL_law 724 = .ok (.iload_n 3, 1) := by decide +kernel
theorem dL_law_725 : decode cL_law 725 = .ok (.iconst 2, 1) := by decide +kernel
theorem dL_law_726 : decode cL_law 726 = .ok (.iadd, 1) := by decide +kernel
theorem dL_law_727 : decode cL_law 727 = .ok (.iaload, 1) := by decide +kernel
theorem dL_law_728 : decode cL_law 728 = .ok (.invokevirtual 79, 3) := by decide +kernel
theorem dL_law_731 : decode cL_law 731 = .ok (.aload_n 2, 1) := by decide +kernel
theorem dL_law_732 : decode cL_law 732 = .ok (.aload_n 0, 1) := by decide +kernel
theorem dL_law_733 : decode cL_law 733 = .ok (.iload_n 3, 1) := by decide +kernel
theorem dL_law_734 : decode cL_law 734 = .ok (.iconst 1, 1) := by decide +kernel
theorem dL_law_735 : decode cL_law 735 = .ok (.iadd, 1) := by decide +kernel
theorem dL_law_736 : decode cL_law 736 = .ok (.iaload, 1) := by decide +kernel
theorem dL_law_737 : decode cL_law 737 = .ok (.aload_n 0, 1) := by decide +kernel
theorem dL_law_738 : decode cL_law 738 = .ok (.iload_n 3, 1) := by decide +kernel
theorem dL_law_739 : decode cL_law 739 = .ok (.iconst 2, 1) := by decide +kernel
theorem dL_law_740 : decode cL_law 740 = .ok (.iadd, 1) := by decide +kernel
theorem dL_law_741 : decode cL_law 741 = .ok (.iaload, 1) := by decide +kernel
theorem dL_law_742 : decode cL_law 742 = .ok (.invokevirtual 82, 3) := by decide +kernel
theorem dL_law_745 : decode cL_law 745 = .ok (.if_icmp .eq 615, 3) := by decide +kernel
theorem dL_law_748 : decode cL_law 748 = .ok (.iconst 0, 1) := by decide +kernel
theorem dL_law_749 : decode cL_law 749 = .ok (.ireturn, 1) := by decide +kernel
theorem dL_law_750 : decode cL_law 750 = .ok (.aload_n 1, 1) := by decide +kernel
theorem dL_law_751 : decode cL_law 751 = .ok (.aload_n 0, 1) := by decide +kernel
theorem dL_law_752 : decode cL_law 752 = .ok (.iload_n 3, 1) := by decide +kernel
theorem dL_law_753 : decode cL_law 753 = .ok (.iconst 1, 1) := by decide +kernel
theorem dL_law_754 : decode cL_law 754 = .ok (.iadd, 1) := by decide +kernel
theorem dL_law_755 : decode cL_law 755 = .ok (.iaload, 1) := by decide +kernel
theorem dL_law_756 : decode cL_law 756 = .ok (.aload_n 0, 1) := by decide +kernel
theorem dL_law_757 : decode cL_law 757 = .ok (.iload_n 3, 1) := by decide +kernel
theorem dL_law_758 : decode cL_law 758 = .ok (.iconst 2, 1) := by decide +kernel
theorem dL_law_759 : decode cL_law 759 = .ok (.iadd, 1) := by decide +kernel
theorem dL_law_760 : decode cL_law 760 = .ok (.iaload, 1) := by decide +kernel
theorem dL_law_761 : decode cL_law 761 = .ok (.aload_n 0, 1) := by decide +kernel
theorem dL_law_762 : decode cL_law 762 = .ok (.iload_n 3, 1) := by decide +kernel
theorem dL_law_763 : decode cL_law 763 = .ok (.iconst 3, 1) := by decide +kernel
theorem dL_law_764 : decode cL_law 764 = .ok (.iadd, 1) := by decide +kernel
theorem dL_law_765 : decode cL_law 765 = .ok (.iaload, 1) := by decide +kernel
theorem dL_law_766 : decode cL_law 766 = .ok (.aload_n 0, 1) := by decide +kernel
theorem dL_law_767 : decode cL_law 767 = .ok (.iload_n 3, 1) := by decide +kernel
theorem dL_law_768 : decode cL_law 768 = .ok (.iconst 4, 1) := by decide +kernel
theorem dL_law_769 : decode cL_law 769 = .ok (.iadd, 1) := by decide +kernel
theorem dL_law_770 : decode cL_law 770 = .ok (.iaload, 1) := by decide +kernel
theorem dL_law_771 : decode cL_law 771 = .ok (.aload_n 0, 1) := by decide +kernel
theorem dL_law_772 : decode cL_law 772 = .ok (.iload_n 3, 1) := by decide +kernel
theorem dL_law_773 : decode cL_law 773 = .ok (.iconst 5, 1) := by decide +kernel
theorem dL_law_774 : decode cL_law 774 = .ok (.iadd, 1) := by decide +kernel
theorem dL_law_775 : decode cL_law 775 = .ok (.iaload, 1) := by decide +kernel
theorem dL_law_776 : decode cL_law 776 = .ok (.invokevirtual 83, 3) := by decide +kernel
theorem dL_law_779 : decode cL_law 779 = .ok (.aload_n 2, 1) := by decide +kernel
theorem dL_law_780 : decode cL_law 780 = .ok (.aload_n 0, 1) := by decide +kernel
theorem dL_law_781 : decode cL_law 781 = .ok (.iload_n 3, 1) := by decide +kernel
theorem dL_law_782 : decode cL_law 782 = .ok (.iconst 1, 1) := by decide +kernel
theorem dL_law_783 : decode cL_law 783 = .ok (.iadd, 1) := by decide +kernel
theorem dL_law_784 : decode cL_law 784 = .ok (.iaload, 1) := by decide +kernel
theorem dL_law_785 : decode cL_law 785 = .ok (.aload_n 0, 1) := by decide +kernel
theorem dL_law_786 : decode cL_law 786 = .ok (.iload_n 3, 1) := by decide +kernel
theorem dL_law_787 : decode cL_law 787 = .ok (.iconst 2, 1) := by decide +kernel
theorem dL_law_788 : decode cL_law 788 = .ok (.iadd, 1) := by decide +kernel
theorem dL_law_789 : decode cL_law 789 = .ok (.iaload, 1) := by decide +kernel
theorem dL_law_790 : decode cL_law 790 = .ok (.aload_n 0, 1) := by decide +kernel
theorem dL_law_791 : decode cL_law 791 = .ok (.iload_n 3, 1) := by decide +kernel
theorem dL_law_792 : decode cL_law 792 = .ok (.iconst 3, 1) := by decide +kernel
theorem dL_law_793 : decode cL_law 793 = .ok (.iadd, 1) := by decide +kernel
theorem dL_law_794 : decode cL_law 794 = .ok (.iaload, 1) := by decide +kernel
theorem dL_law_795 : decode cL_law 795 = .ok (.aload_n 0, 1) := by decide +kernel
theorem dL_law_796 : decode cL_law 796 = .ok (.iload_n 3, 1) := by decide +kernel
theorem dL_law_797 : decode cL_law 797 = .ok (.iconst 4, 1) := by decide +kernel
theorem dL_law_798 : decode cL_law 798 = .ok (.iadd, 1) := by decide +kernel
theorem dL_law_799 : decode cL_law 799 = .ok (.iaload, 1) := by decide +kernel
theorem dL_law_800 : decode cL_law 800 = .ok (.aload_n 0, 1) := by decide +kernel
theorem dL_law_801 : decode cL_law 801 = .ok (.iload_n 3, 1) := by decide +kernel
theorem dL_law_802 : decode cL_law 802 = .ok (.iconst 5, 1) := by decide +kernel
theorem dL_law_803 : decode cL_law 803 = .ok (.iadd, 1) := by decide +kernel
theorem dL_law_804 : decode cL_law 804 = .ok (.iaload, 1) := by decide +kernel
theorem dL_law_805 : decode cL_law 805 = .ok (.invokevirtual 86, 3) := by decide +kernel
theorem dL_law_808 : decode cL_law 808 = .ok (.if_icmp .eq 552, 3) := by decide +kernel
theorem dL_law_811 : decode cL_law 811 = .ok (.iconst 0, 1) := by decide +kernel
theorem dL_law_812 : decode cL_law 812 = .ok (.ireturn, 1) := by decide +kernel
theorem dL_law_813 : decode cL_law 813 = .ok (.aload_n 1, 1) := by decide +kernel
theorem dL_law_814 : decode cL_law 814 = .ok (.aload_n 0, 1) := by decide +kernel
theorem dL_law_815 : decode cL_law 815 = .ok (.iload_n 3, 1) := by decide +kernel
theorem dL_law_816 : decode cL_law 816 = .ok (.iconst 1, 1) := by decide +kernel
theorem dL_law_817 : decode cL_law 817 = .ok (.iadd, 1) := by decide +kernel
theorem dL_law_818 : decode cL_law 818 = .ok (.iaload, 1) := by decide +kernel
theorem dL_law_819 : decode cL_law 819 = .ok (.aload_n 0, 1) := by decide +kernel
theorem dL_law_820 : decode cL_law 820 = .ok (.iload_n 3, 1) := by decide +kernel
theorem dL_law_821 : decode cL_law 821 = .ok (.iconst 2, 1) := by decide +kernel
theorem dL_law_822 : decode cL_law 822 = .ok (.iadd, 1) := by decide +kernel
theorem dL_law_823 : decode cL_law 823 = .ok (.iaload, 1) := by decide +kernel
theorem dL_law_824 : decode cL_law 824 = .ok (.aload_n 0, 1) := by decide +kernel
theorem dL_law_825 : decode cL_law 825 = .ok (.iload_n 3, 1) := by decide +kernel
theorem dL_law_826 : decode cL_law 826 = .ok (.iconst 3, 1) := by decide +kernel
theorem dL_law_827 : decode cL_law 827 = .ok (.iadd, 1) := by decide +kernel
theorem dL_law_828 : decode cL_law 828 = .ok (.iaload, 1) := by decide +kernel
theorem dL_law_829 : decode cL_law 829 = .ok (.invokevirtual 87, 3) := by decide +kernel
theorem dL_law_832 : decode cL_law 832 = .ok (.aload_n 2, 1) := by decide +kernel
theorem dL_law_833 : decode cL_law 833 = .ok (.aload_n 0, 1) := by decide +kernel
theorem dL_law_834 : decode cL_law 834 = .ok (.iload_n 3, 1) := by decide +kernel
theorem dL_law_835 : decode cL_law 835 = .ok (.iconst 1, 1) := by decide +kernel
theorem dL_law_836 : decode cL_law 836 = .ok (.iadd, 1) := by decide +kernel
theorem dL_law_837 : decode cL_law 837 = .ok (.iaload, 1) := by decide +kernel
theorem dL_law_838 : decode cL_law 838 = .ok (.aload_n 0, 1) := by decide +kernel
theorem dL_law_839 : decode cL_law 839 = .ok (.iload_n 3, 1) := by decide +kernel
theorem dL_law_840 : decode cL_law 840 = .ok (.iconst 2, 1) := by decide +kernel
theorem dL_law_841 : decode cL_law 841 = .ok (.iadd, 1) := by decide +kernel
theorem dL_law_842 : decode cL_law 842 = .ok (.iaload, 1) := by decide +kernel
theorem dL_law_843 : decode cL_law 843 = .ok (.aload_n 0, 1) := by decide +kernel
theorem dL_law_844 : decode cL_law 844 = .ok (.iload_n 3, 1) := by decide +kernel
theorem dL_law_845 : decode cL_law 845 = .ok (.iconst 3, 1) := by decide +kernel
theorem dL_law_846 : decode cL_law 846 = .ok (.iadd, 1) := by decide +kernel
theorem dL_law_847 : decode cL_law 847 = .ok (.iaload, 1) := by decide +kernel
theorem dL_law_848 : decode cL_law 848 = .ok (.invokevirtual 90, 3) := by decide +kernel
theorem dL_law_851 : decode cL_law 851 = .ok (.if_icmp .eq 509, 3) := by decide +kernel
theorem dL_law_854 : decode cL_law 854 = .ok (.iconst 0, 1) := by decide +kernel
theorem dL_law_855 : decode cL_law 855 = .ok (.ireturn, 1) := by decide +kernel
theorem dL_law_856 : decode cL_law 856 = .ok (.aload_n 1, 1) := by decide +kernel
theorem dL_law_857 : decode cL_law 857 = .ok (.aload_n 0, 1) := by decide +kernel
theorem dL_law_858 : decode cL_law 858 = .ok (.iload_n 3, 1) := by decide +kernel
theorem dL_law_859 : decode cL_law 859 = .ok (.iconst 1, 1) := by decide +kernel
theorem dL_law_860 : decode cL_law 860 = .ok (.iadd, 1) := by decide +kernel
theorem dL_law_861 : decode cL_law 861 = .ok (.iaload, 1) := by decide +kernel
theorem dL_law_862 : decode cL_law 862 = .ok (.invokevirtual 91, 3) := by decide +kernel
theorem dL_law_865 : decode cL_law 865 = .ok (.aload_n 2, 1) := by decide +kernel
theorem dL_law_866 : decode cL_law 866 = .ok (.aload_n 0, 1) := by decide +kernel
theorem dL_law_867 : decode cL_law 867 = .ok (.iload_n 3, 1) := by decide +kernel
theorem dL_law_868 : decode cL_law 868 = .ok (.iconst 1, 1) := by decide +kernel
theorem dL_law_869 : decode cL_law 869 = .ok (.iadd, 1) := by decide +kernel
theorem dL_law_870 : decode cL_law 870 = .ok (.iaload, 1) := by decide +kernel
theorem dL_law_871 : decode cL_law 871 = .ok (.invokevirtual 94, 3) := by decide +kernel
theorem dL_law_874 : decode cL_law 874 = .ok (.if_icmp .eq 486, 3) := by decide +kernel
theorem dL_law_877 : decode cL_law 877 = .ok (.iconst 0, 1) := by decide +kernel
theorem dL_law_878 : decode cL_law 878 = .ok (.ireturn, 1) := by decide +kernel
theorem dL_law_879 : decode cL_law 879 = .ok (.aload_n 1, 1) := by decide +kernel
theorem dL_law_880 : decode cL_law 880 = .ok (.aload_n 0, 1) := by decide +kernel
theorem dL_law_881 : decode cL_law 881 = .ok (.iload_n 3, 1) := by decide +kernel
theorem dL_law_882 : decode cL_law 882 = .ok (.iconst 1, 1) := by decide +kernel
theorem dL_law_883 : decode cL_law 883 = .ok (.iadd, 1) := by decide +kernel
theorem dL_law_884 : decode cL_law 884 = .ok (.iaload, 1) := by decide +kernel
theorem dL_law_885 : decode cL_law 885 = .ok (.aload_n 0, 1) := by decide +kernel
theorem dL_law_886 : decode cL_law 886 = .ok (.iload_n 3, 1) := by decide +kernel
theorem dL_law_887 : decode cL_law 887 = .ok (.iconst 2, 1) := by decide +kernel
theorem dL_law_888 : decode cL_law 888 = .ok (.iadd, 1) := by decide +kernel
theorem dL_law_889 : decode cL_law 889 = .ok (.iaload, 1) := by decide +kernel
theorem dL_law_890 : decode cL_law 890 = .ok (.invokevirtual 95, 3) := by decide +kernel
theorem dL_law_893 : decode cL_law 893 = .ok (.aload_n 2, 1) := by decide +kernel
theorem dL_law_894 : decode cL_law 894 = .ok (.aload_n 0, 1) := by decide +kernel
theorem dL_law_895 : decode cL_law 895 = .ok (.iload_n 3, 1) := by decide +kernel
theorem dL_law_896 : decode cL_law 896 = .ok (.iconst 1, 1) := by decide +kernel
theorem dL_law_897 : decode cL_law 897 = .ok (.iadd, 1) := by decide +kernel
theorem dL_law_898 : decode cL_law 898 = .ok (.iaload, 1) := by decide +kernel
theorem dL_law_899 : decode cL_law 899 = .ok (.aload_n 0, 1) := by decide +kernel
theorem dL_law_900 : decode cL_law 900 = .ok (.iload_n 3, 1) := by decide +kernel
theorem dL_law_901 : decode cL_law 901 = .ok (.iconst 2, 1) := by decide +kernel
theorem dL_law_902 : decode cL_law 902 = .ok (.iadd, 1) := by decide +kernel
theorem dL_law_903 : decode cL_law 903 = .ok (.iaload, 1) := by decide +kernel
theorem dL_law_904 : decode cL_law 904 = .ok (.invokevirtual 98, 3) := by decide +kernel
theorem dL_law_907 : decode cL_law 907 = .ok (.if_icmp .eq 453, 3) := by decide +kernel
theorem dL_law_910 : decode cL_law 910 = .ok (.iconst 0, 1) := by decide +kernel
theorem dL_law_911 : decode cL_law 911 = .ok (.ireturn, 1) := by decide +kernel
theorem dL_law_912 : decode cL_law 912 = .ok (.aload_n 1, 1) := by decide +kernel
theorem dL_law_913 : decode cL_law 913 = .ok (.aload_n 0, 1) := by decide +kernel
theorem dL_law_914 : decode cL_law 914 = .ok (.iload_n 3, 1) := by decide +kernel
theorem dL_law_915 : decode cL_law 915 = .ok (.iconst 1, 1) := by decide +kernel
theorem dL_law_916 : decode cL_law 916 = .ok (.iadd, 1) := by decide +kernel
theorem dL_law_917 : decode cL_law 917 = .ok (.iaload, 1) := by decide +kernel
theorem dL_law_918 : decode cL_law 918 = .ok (.aload_n 0, 1) := by decide +kernel
theorem dL_law_919 : decode cL_law 919 = .ok (.iload_n 3, 1) := by decide +kernel
theorem dL_law_920 : decode cL_law 920 = .ok (.iconst 2, 1) := by decide +kernel
theorem dL_law_921 : decode cL_law 921 = .ok (.iadd, 1) := by decide +kernel
theorem dL_law_922 : decode cL_law 922 = .ok (.iaload, 1) := by decide +kernel
theorem dL_law_923 : decode cL_law 923 = .ok (.aload_n 0, 1) := by decide +kernel
theorem dL_law_924 : decode cL_law 924 = .ok (.iload_n 3, 1) := by decide +kernel
theorem dL_law_925 : decode cL_law 925 = .ok (.iconst 3, 1) := by decide +kernel
theorem dL_law_926 : decode cL_law 926 = .ok (.iadd, 1) := by decide +kernel
theorem dL_law_927 : decode cL_law 927 = .ok (.iaload, 1) := by decide +kernel
theorem dL_law_928 : decode cL_law 928 = .ok (.invokevirtual 99, 3) := by decide +kernel
theorem dL_law_931 : decode cL_law 931 = .ok (.aload_n 2, 1) := by decide +kernel
theorem dL_law_932 : decode cL_law 932 = .ok (.aload_n 0, 1) := by decide +kernel
theorem dL_law_933 : decode cL_law 933 = .ok (.iload_n 3, 1) := by decide +kernel
theorem dL_law_934 : decode cL_law 934 = .ok (.iconst 1, 1) := by decide +kernel
theorem dL_law_935 : decode cL_law 935 = .ok (.iadd, 1) := by decide +kernel
theorem dL_law_936 : decode cL_law 936 = .ok (.iaload, 1) := by decide +kernel
theorem dL_law_937 : decode cL_law 937 = .ok (.aload_n 0, 1) := by decide +kernel
theorem dL_law_938 : decode cL_law 938 = .ok (.iload_n 3, 1) := by decide +kernel
theorem dL_law_939 : decode cL_law 939 = .ok (.iconst 2, 1) := by decide +kernel
theorem dL_law_940 : decode cL_law 940 = .ok (.iadd, 1) := by decide +kernel
theorem dL_law_941 : decode cL_law 941 = .ok (.iaload, 1) := by decide +kernel
theorem dL_law_942 : decode cL_law 942 = .ok (.aload_n 0, 1) := by decide +kernel
theorem dL_law_943 : decode cL_law 943 = .ok (.iload_n 3, 1) := by decide +kernel
theorem dL_law_944 : decode cL_law 944 = .ok (.iconst 3, 1) := by decide +kernel
theorem dL_law_945 : decode cL_law 945 = .ok (.iadd, 1) := by decide +kernel
theorem dL_law_946 : decode cL_law 946 = .ok (.iaload, 1) := by decide +kernel
theorem dL_law_947 : decode cL_law 947 = .ok (.invokevirtual 102, 3) := by decide +kernel
theorem dL_law_950 : decode cL_law 950 = .ok (.if_icmp .eq 410, 3) := by decide +kernel
theorem dL_law_953 : decode cL_law 953 = .ok (.iconst 0, 1) := by decide +kernel
theorem dL_law_954 : decode cL_law 954 = .ok (.ireturn, 1) := by decide +kernel
theorem dL_law_955 : decode cL_law 955 = .ok (.aload_n 1, 1) := by decide +kernel
theorem dL_law_956 : decode cL_law 956 = .ok (.invokevirtual 103, 3) := by decide +kernel
theorem dL_law_959 : decode cL_law 959 = .ok (.aload_n 2, 1) := by decide +kernel
theorem dL_law_960 : decode cL_law 960 = .ok (.invokevirtual 106, 3) := by decide +kernel
theorem dL_law_963 : decode cL_law 963 = .ok (.if_icmp .eq 397, 3) := by decide +kernel
theorem dL_law_966 : decode cL_law 966 = .ok (.iconst 0, 1) := by decide +kernel
theorem dL_law_967 : decode cL_law 967 = .ok (.ireturn, 1) := by decide +kernel
theorem dL_law_968 : decode cL_law 968 = .ok (.aload_n 1, 1) := by decide +kernel
theorem dL_law_969 : decode cL_law 969 = .ok (.aload_n 0, 1) := by decide +kernel
theorem dL_law_970 : decode cL_law 970 = .ok (.iload_n 3, 1) := by decide +kernel
theorem dL_law_971 : decode cL_law 971 = .ok (.iconst 1, 1) := by decide +kernel
theorem dL_law_972 : decode cL_law 972 = .ok (.iadd, 1) := by decide +kernel
theorem dL_law_973 : decode cL_law 973 = .ok (.iaload, 1) := by decide +kernel
theorem dL_law_974 : decode cL_law 974 = .ok (.invokevirtual 107, 3) := by decide +kernel
theorem dL_law_977 : decode cL_law 977 = .ok (.aload_n 2, 1) := by decide +kernel
theorem dL_law_978 : decode cL_law 978 = .ok (.aload_n 0, 1) := by decide +kernel
theorem dL_law_979 : decode cL_law 979 = .ok (.iload_n 3, 1) := by decide +kernel
theorem dL_law_980 : decode cL_law 980 = .ok (.iconst 1, 1) := by decide +kernel
theorem dL_law_981 : decode cL_law 981 = .ok (.iadd, 1) := by decide +kernel
theorem dL_law_982 : decode cL_law 982 = .ok (.iaload, 1) := by decide +kernel
theorem dL_law_983 : decode cL_law 983 = .ok (.invokevirtual 110, 3) := by decide +kernel
theorem dL_law_986 : decode cL_law 986 = .ok (.if_icmp .eq 374, 3) := by decide +kernel
theorem dL_law_989 : decode cL_law 989 = .ok (.iconst 0, 1) := by decide +kernel
theorem dL_law_990 : decode cL_law 990 = .ok (.ireturn, 1) := by decide +kernel
theorem dL_law_991 : decode cL_law 991 = .ok (.aload_n 1, 1) := by decide +kernel
theorem dL_law_992 : decode cL_law 992 = .ok (.aload_n 0, 1) := by decide +kernel
theorem dL_law_993 : decode cL_law 993 = .ok (.iload_n 3, 1) := by decide +kernel
theorem dL_law_994 : decode cL_law 994 = .ok (.iconst 1, 1) := by decide +kernel
theorem dL_law_995 : decode cL_law 995 = .ok (.iadd, 1) := by decide +kernel
theorem dL_law_996 : decode cL_law 996 = .ok (.iaload, 1) := by decide +kernel
theorem dL_law_997 : decode cL_law 997 = .ok (.aload_n 0, 1) := by decide +kernel
theorem dL_law_998 : decode cL_law 998 = .ok (.iload_n 3, 1) := by decide +kernel
theorem dL_law_999 : decode cL_law 999 = .ok (.iconst 2, 1) := by decide +kernel
theorem dL_law_1000 : decode cL_law 1000 = .ok (.iadd, 1) := by decide +kernel
theorem dL_law_1001 : decode cL_law 1001 = .ok (.iaload, 1) := by decide +kernel
theorem dL_law_1002 : decode cL_law 1002 = .ok (.invokevirtual 111, 3) := by decide +kernel
theorem dL_law_1005 : decode cL_law 1005 = .ok (.aload_n 2, 1) := by decide +kernel
theorem dL_law_1006 : decode cL_law 1006 = .ok (.aload_n 0, 1) := by decide +kernel
theorem dL_law_1007 : decode cL_law 1007 = .ok (.iload_n 3, 1) := by decide +kernel
theorem dL_law_1008 : decode cL_law 1008 = .ok (.iconst 1, 1) := by decide +kernel
theorem dL_law_1009 : decode cL_law 1009 = .ok (.iadd, 1) := by decide +kernel
theorem dL_law_1010 : decode cL_law 1010 = .ok (.iaload, 1) := by decide +kernel
theorem dL_law_1011 : decode cL_law 1011 = .ok (.aload_n 0, 1) := by decide +kernel
theorem dL_law_1012 : decode cL_law 1012 = .ok (.iload_n 3, 1) := by decide +kernel
theorem dL_law_1013 : decode cL_law 1013 = .ok (.iconst 2, 1) := by decide +kernel
theorem dL_law_1014 : decode cL_law 1014 = .ok (.iadd, 1) := by decide +kernel
theorem dL_law_1015 : decode cL_law 1015 = .ok (.iaload, 1) := by decide +kernel
theorem dL_law_1016 : decode cL_law 1016 = .ok (.invokevirtual 114, 3) := by decide +kernel
theorem dL_law_1019 : decode cL_law 1019 = .ok (.if_icmp .eq 341, 3) := by decide +kernel
theorem dL_law_1022 : decode cL_law 1022 = .ok (.iconst 0, 1) := by decide +kernel
theorem dL_law_1023 : decode cL_law 1023 = .ok (.ireturn, 1) := by decide +kernel
theorem dL_law_1024 : decode cL_law 1024 = .ok (.aload_n 1, 1) := by decide +kernel
theorem dL_law_1025 : decode cL_law 1025 = .ok (.invokevirtual 115, 3) := by decide +kernel
theorem dL_law_1028 : decode cL_law 1028 = .ok (.aload_n 2, 1) := by decide +kernel
theorem dL_law_1029 : decode cL_law 1029 = .ok (.invokevirtual 118, 3) := by decide +kernel
theorem dL_law_1032 : decode cL_law 1032 = .ok (.if_icmp .eq 328, 3) := by decide +kernel
theorem dL_law_1035 : decode cL_law 1035 = .ok (.iconst 0, 1) := by decide +kernel
theorem dL_law_1036 : decode cL_law 1036 = .ok (.ireturn, 1) := by decide +kernel
theorem dL_law_1037 : decode cL_law 1037 = .ok (.aload_n 1, 1) := by decide +kernel
theorem dL_law_1038 : decode cL_law 1038 = .ok (.invokevirtual 119, 3) := by decide +kernel
theorem dL_law_1041 : decode cL_law 1041 = .ok (.aload_n 2, 1) := by decide +kernel
theorem dL_law_1042 : decode cL_law 1042 = .ok (.invokevirtual 122, 3) := by decide +kernel
theorem dL_law_1045 : decode cL_law 1045 = .ok (.if_icmp .eq 315, 3) := by decide +kernel
theorem dL_law_1048 : decode cL_law 1048 = .ok (.iconst 0, 1) := by decide +kernel
theorem dL_law_1049 : decode cL_law 1049 = .ok (.ireturn, 1) := by decide +kernel
theorem dL_law_1050 : decode cL_law 1050 = .ok (.aload_n 1, 1) := by decide +kernel
theorem dL_law_1051 : decode cL_law 1051 = .ok (.aload_n 0, 1) := by decide +kernel
theorem dL_law_1052 : decode cL_law 1052 = .ok (.iload_n 3, 1) := by decide +kernel
theorem dL_law_1053 : decode cL_law 1053 = .ok (.iconst 1, 1) := by decide +kernel
theorem dL_law_1054 : decode cL_law 1054 = .ok (.iadd, 1) := by decide +kernel
theorem dL_law_1055 : decode cL_law 1055 = .ok (.iaload, 1) := by decide +kernel
theorem dL_law_1056 : decode cL_law 1056 = .ok (.aload_n 0, 1) := by decide +kernel
theorem dL_law_1057 : decode cL_law 1057 = .ok (.iload_n 3, 1) := by decide +kernel
theorem dL_law_1058 : decode cL_law 1058 = .ok (.iconst 2, 1) := by decide +kernel
theorem dL_law_1059 : decode cL_law 1059 = .ok (.iadd, 1) := by decide +kernel
theorem dL_law_1060 : decode cL_law 1060 = .ok (.iaload, 1) := by decide +kernel
theorem dL_law_1061 : decode cL_law 1061 = .ok (.invokevirtual 123, 3) := by decide +kernel
theorem dL_law_1064 : decode cL_law 1064 = .ok (.aload_n 2, 1) := by decide +kernel
theorem dL_law_1065 : decode cL_law 1065 = .ok (.aload_n 0, 1) := by decide +kernel
theorem dL_law_1066 : decode cL_law 1066 = .ok (.iload_n 3, 1) := by decide +kernel
theorem dL_law_1067 : decode cL_law 1067 = .ok (.iconst 1, 1) := by decide +kernel
theorem dL_law_1068 : decode cL_law 1068 = .ok (.iadd, 1) := by decide +kernel
theorem dL_law_1069 : decode cL_law 1069 = .ok (.iaload, 1) := by decide +kernel
theorem dL_law_1070 : decode cL_law 1070 = .ok (.aload_n 0, 1) := by decide +kernel
theorem dL_law_1071 : decode cL_law 1071 = .ok (.iload_n 3, 1) := by decide +kernel
theorem dL_law_1072 : decode cL_law 1072 = .ok (.iconst 2, 1) := by decide +kernel
theorem dL_law_1073 : decode cL_law 1073 = .ok (.iadd, 1) := by decide +kernel
theorem dL_law_1074 : decode cL_law 1074 = .ok (.iaload, 1) := by decide +kernel
theorem dL_law_1075 : decode cL_law 1075 = .ok (.invokevirtual 126, 3) := by decide +kernel
theorem dL_law_1078 : decode cL_law 1078 = .ok (.if_icmp .eq 282, 3) := by decide +kernel
theorem dL_law_1081 : decode cL_law 1081 = .ok (.iconst 0, 1) := by decide +kernel
theorem dL_law_1082 : decode cL_law 1082 = .ok (.ireturn, 1) := by decide +kernel
theorem dL_law_1083 : decode cL_law 1083 = .ok (.aload_n 1, 1) := by decide +kernel
theorem dL_law_1084 : decode cL_law 1084 = .ok (.aload_n 0, 1) := by decide +kernel
theorem dL_law_1085 : decode cL_law 1085 = .ok (.iload_n 3, 1) := by decide +kernel
theorem dL_law_1086 : decode cL_law 1086 = .ok (.iconst 1, 1) := by decide +kernel
theorem dL_law_1087 : decode cL_law 1087 = .ok (.iadd, 1) := by decide +kernel
theorem dL_law_1088 : decode cL_law 1088 = .ok (.iaload, 1) := by decide +kernel
theorem dL_law_1089 : decode cL_law 1089 = .ok (.invokevirtual 127, 3) := by decide +kernel
theorem dL_law_1092 : decode cL_law 1092 = .ok (.aload_n 2, 1) := by decide +kernel
theorem dL_law_1093 : decode cL_law 1093 = .ok (.aload_n 0, 1) := by decide +kernel
theorem dL_law_1094 : decode cL_law 1094 = .ok (.iload_n 3, 1) := by decide +kernel
theorem dL_law_1095 : decode cL_law 1095 = .ok (.iconst 1, 1) := by decide +kernel
theorem dL_law_1096 : decode cL_law 1096 = .ok (.iadd, 1) := by decide +kernel
theorem dL_law_1097 : decode cL_law 1097 = .ok (.iaload, 1) := by decide +kernel
theorem dL_law_1098 : decode cL_law 1098 = .ok (.invokevirtual 130, 3) := by decide +kernel
theorem dL_law_1101 : decode cL_law 1101 = .ok (.if_icmp .eq 259, 3) := by decide +kernel
theorem dL_law_1104 : decode cL_law 1104 = .ok (.iconst 0, 1) := by decide +kernel
theorem dL_law_1105 : decode cL_law 1105 = .ok (.ireturn, 1) := by decide +kernel
theorem dL_law_1106 : decode cL_law 1106 = .ok (.aload_n 1, 1) := by decide +kernel
theorem dL_law_1107 : decode cL_law 1107 = .ok (.aload_n 0, 1) := by decide +kernel
theorem dL_law_1108 : decode cL_law 1108 = .ok (.iload_n 3, 1) := by decide +kernel
theorem dL_law_1109 : decode cL_law 1109 = .ok (.iconst 1, 1) := by decide +kernel
theorem dL_law_1110 : decode cL_law 1110 = .ok (.iadd, 1) := by decide +kernel
theorem dL_law_1111 : decode cL_law 1111 = .ok (.iaload, 1) := by decide +kernel
theorem dL_law_1112 : decode cL_law 1112 = .ok (.invokevirtual 131, 3) := by decide +kernel
theorem dL_law_1115 : decode cL_law 1115 = .ok (.aload_n 2, 1) := by decide +kernel
theorem dL_law_1116 : decode cL_law 1116 = .ok (.aload_n 0, 1) := by decide +kernel
theorem dL_law_1117 : decode cL_law 1117 = .ok (.iload_n 3, 1) := by decide +kernel
theorem dL_law_1118 : decode cL_law 1118 = .ok (.iconst 1, 1) := by decide +kernel
theorem dL_law_1119 : decode cL_law 1119 = .ok (.iadd, 1) := by decide +kernel
theorem dL_law_1120 : decode cL_law 1120 = .ok (.iaload, 1) := by decide +kernel
theorem dL_law_1121 : decode cL_law 1121 = .ok (.invokevirtual 134, 3) := by decide +kernel
theorem dL_law_1124 : decode cL_law 1124 = .ok (.if_icmp .eq 236, 3) := by decide +kernel
theorem dL_law_1127 : decode cL_law 1127 = .ok (.iconst 0, 1) := by decide +kernel
theorem dL_law_1128 : decode cL_law 1128 = .ok (.ireturn, 1) := by decide +kernel
theorem dL_law_1129 : decode cL_law 1129 = .ok (.aload_n 1, 1) := by decide +kernel
theorem dL_law_1130 : decode cL_law 1130 = .ok (.aload_n 0, 1) := by decide +kernel
theorem dL_law_1131 : decode cL_law 1131 = .ok (.iload_n 3, 1) := by decide +kernel
theorem dL_law_1132 : decode cL_law 1132 = .ok (.iconst 1, 1) := by decide +kernel
theorem dL_law_1133 : decode cL_law 1133 = .ok (.iadd, 1) := by decide +kernel
theorem dL_law_1134 : decode cL_law 1134 = .ok (.iaload, 1) := by decide +kernel
theorem dL_law_1135 : decode cL_law 1135 = .ok (.aload_n 0, 1) := by decide +kernel
theorem dL_law_1136 : decode cL_law 1136 = .ok (.iload_n 3, 1) := by decide +kernel
theorem dL_law_1137 : decode cL_law 1137 = .ok (.iconst 2, 1) := by decide +kernel
theorem dL_law_1138 : decode cL_law 1138 = .ok (.iadd, 1) := by decide +kernel
theorem dL_law_1139 : decode cL_law 1139 = .ok (.iaload, 1) := by decide +kernel
theorem dL_law_1140 : decode cL_law 1140 = .ok (.aload_n 0, 1) := by decide +kernel
theorem dL_law_1141 : decode cL_law 1141 = .ok (.iload_n 3, 1) := by decide +kernel
theorem dL_law_1142 : decode cL_law 1142 = .ok (.iconst 3, 1) := by decide +kernel
theorem dL_law_1143 : decode cL_law 1143 = .ok (.iadd, 1) := by decide +kernel
end
section
theorem dL_law_1144 : decode cL_law 1144 = .ok (.iaload, 1) := by decide +kernel
theorem dL_law_1145 : decode cL_law 1145 = .ok (.invokevirtual 135, 3) := by decide +kernel
theorem dL_law_1148 : decode cL_law 1148 = .ok (.aload_n 2, 1) := by decide +kernel
theorem dL_law_1149 : decode cL_law 1149 = .ok (.aload_n 0, 1) := by decide +kernel
theorem dL_law_1150 : decode cL_law 1150 = .ok (.iload_n 3, 1) := by decide +kernel
theorem dL_law_1151 : decode cL_law 1151 = .ok (.iconst 1, 1) := by decide +kernel
theorem dL_law_1152 : decode cL_law 1152 = .ok (.iadd, 1) := by decide +kernel
theorem dL_law_1153 : decode cL_law 1153 = .ok (.iaload, 1) := by decide +kernel
theorem dL_law_1154 : decode cL_law 1154 = .ok (.aload_n 0, 1) := by decide +kernel
theorem dL_law_1155 : decode cL_law 1155 = .ok (.iload_n 3, 1) := by decide +kernel
theorem dL_law_1156 : decode cL_law 1156 = .ok (.iconst 2, 1) := by decide +kernel
theorem dL_law_1157 : decode cL_law 1157 = .ok (.iadd, 1) := by decide +kernel
theorem dL_law_1158 : decode cL_law 1158 = .ok (.iaload, 1) := by decide +kernel
theorem dL_law_1159 : decode cL_law 1159 = .ok (.aload_n 0, 1) := by decide +kernel
theorem dL_law_1160 : decode cL_law 1160 = .ok (.iload_n 3, 1) := by decide +kernel
theorem dL_law_1161 : decode cL_law 1161 = .ok (.iconst 3, 1) := by decide +kernel
theorem dL_law_1162 : decode cL_law 1162 = .ok (.iadd, 1) := by decide +kernel
theorem dL_law_1163 : decode cL_law 1163 = .ok (.iaload, 1) := by decide +kernel
theorem dL_law_1164 : decode cL_law 1164 = .ok (.invokevirtual 138, 3) := by decide +kernel
theorem dL_law_1167 : decode cL_law 1167 = .ok (.if_icmp .eq 193, 3) := by decide +kernel
theorem dL_law_1170 : decode cL_law 1170 = .ok (.iconst 0, 1) := by decide +kernel
theorem dL_law_1171 : decode cL_law 1171 = .ok (.ireturn, 1) := by decide +kernel
theorem dL_law_1172 : decode cL_law 1172 = .ok (.aload_n 1, 1) := by decide +kernel
theorem dL_law_1173 : decode cL_law 1173 = .ok (.aload_n 0, 1) := by decide +kernel
theorem dL_law_1174 : decode cL_law 1174 = .ok (.iload_n 3, 1) := by decide +kernel
theorem dL_law_1175 : decode cL_law 1175 = .ok (.iconst 1, 1) := by decide +kernel
theorem dL_law_1176 : decode cL_law 1176 = .ok (.iadd, 1) := by decide +kernel
theorem dL_law_1177 : decode cL_law 1177 = .ok (.iaload, 1) := by decide +kernel
theorem dL_law_1178 : decode cL_law 1178 = .ok (.aload_n 0, 1) := by decide +kernel
theorem dL_law_1179 : decode cL_law 1179 = .ok (.iload_n 3, 1) := by decide +kernel
theorem dL_law_1180 : decode cL_law 1180 = .ok (.iconst 2, 1) := by decide +kernel
theorem dL_law_1181 : decode cL_law 1181 = .ok (.iadd, 1) := by decide +kernel
theorem dL_law_1182 : decode cL_law 1182 = .ok (.iaload, 1) := by decide +kernel
theorem dL_law_1183 : decode cL_law 1183 = .ok (.aload_n 0, 1) := by decide +kernel
theorem dL_law_1184 : decode cL_law 1184 = .ok (.iload_n 3, 1) := by decide +kernel
theorem dL_law_1185 : decode cL_law 1185 = .ok (.iconst 3, 1) := by decide +kernel
theorem dL_law_1186 : decode cL_law 1186 = .ok (.iadd, 1) := by decide +kernel
theorem dL_law_1187 : decode cL_law 1187 = .ok (.iaload, 1) := by decide +kernel
theorem dL_law_1188 : decode cL_law 1188 = .ok (.invokevirtual 139, 3) := by decide +kernel
theorem dL_law_1191 : decode cL_law 1191 = .ok (.aload_n 2, 1) := by decide +kernel
theorem dL_law_1192 : decode cL_law 1192 = .ok (.aload_n 0, 1) := by decide +kernel
theorem dL_law_1193 : decode cL_law 1193 = .ok (.iload_n 3, 1) := by decide +kernel
theorem dL_law_1194 : decode cL_law 1194 = .ok (.iconst 1, 1) := by decide +kernel
theorem dL_law_1195 : decode cL_law 1195 = .ok (.iadd, 1) := by decide +kernel
theorem dL_law_1196 : decode cL_law 1196 = .ok (.iaload, 1) := by decide +kernel
theorem dL_law_1197 : decode cL_law 1197 = .ok (.aload_n 0, 1) := by decide +kernel
theorem dL_law_1198 : decode cL_law 1198 = .ok (.iload_n 3, 1) := by decide +kernel
theorem dL_law_1199 : decode cL_law 1199 = .ok (.iconst 2, 1) := by decide +kernel
theorem dL_law_1200 : decode cL_law 1200 = .ok (.iadd, 1) := by decide +kernel
theorem dL_law_1201 : decode cL_law 1201 = .ok (.iaload, 1) := by decide +kernel
theorem dL_law_1202 : decode cL_law 1202 = .ok (.aload_n 0, 1) := by decide +kernel
theorem dL_law_1203 : decode cL_law 1203 = .ok (.iload_n 3, 1) := by decide +kernel
theorem dL_law_1204 : decode cL_law 1204 = .ok (.iconst 3, 1) := by decide +kernel
theorem dL_law_1205 : decode cL_law 1205 = .ok (.iadd, 1) := by decide +kernel
theorem dL_law_1206 : decode cL_law 1206 = .ok (.iaload, 1) := by decide +kernel
theorem dL_law_1207 : decode cL_law 1207 = .ok (.invokevirtual 142, 3) := by decide +kernel
theorem dL_law_1210 : decode cL_law 1210 = .ok (.if_icmp .eq 150, 3) := by decide +kernel
theorem dL_law_1213 : decode cL_law 1213 = .ok (.iconst 0, 1) := by decide +kernel
theorem dL_law_1214 : decode cL_law 1214 = .ok (.ireturn, 1) := by decide +kernel
theorem dL_law_1215 : decode cL_law 1215 = .ok (.aload_n 1, 1) := by decide +kernel
theorem dL_law_1216 : decode cL_law 1216 = .ok (.aload_n 0, 1) := by decide +kernel
theorem dL_law_1217 : decode cL_law 1217 = .ok (.iload_n 3, 1) := by decide +kernel
theorem dL_law_1218 : decode cL_law 1218 = .ok (.iconst 1, 1) := by decide +kernel
theorem dL_law_1219 : decode cL_law 1219 = .ok (.iadd, 1) := by decide +kernel
theorem dL_law_1220 : decode cL_law 1220 = .ok (.iaload, 1) := by decide +kernel
theorem dL_law_1221 : decode cL_law 1221 = .ok (.aload_n 0, 1) := by decide +kernel
theorem dL_law_1222 : decode cL_law 1222 = .ok (.iload_n 3, 1) := by decide +kernel
theorem dL_law_1223 : decode cL_law 1223 = .ok (.iconst 2, 1) := by decide +kernel
theorem dL_law_1224 : decode cL_law 1224 = .ok (.iadd, 1) := by decide +kernel
theorem dL_law_1225 : decode cL_law 1225 = .ok (.iaload, 1) := by decide +kernel
theorem dL_law_1226 : decode cL_law 1226 = .ok (.invokevirtual 143, 3) := by decide +kernel
theorem dL_law_1229 : decode cL_law 1229 = .ok (.aload_n 2, 1) := by decide +kernel
theorem dL_law_1230 : decode cL_law 1230 = .ok (.aload_n 0, 1) := by decide +kernel
theorem dL_law_1231 : decode cL_law 1231 = .ok (.iload_n 3, 1) := by decide +kernel
theorem dL_law_1232 : decode cL_law 1232 = .ok (.iconst 1, 1) := by decide +kernel
theorem dL_law_1233 : decode cL_law 1233 = .ok (.iadd, 1) := by decide +kernel
theorem dL_law_1234 : decode cL_law 1234 = .ok (.iaload, 1) := by decide +kernel
theorem dL_law_1235 : decode cL_law 1235 = .ok (.aload_n 0, 1) := by decide +kernel
theorem dL_law_1236 : decode cL_law 1236 = .ok (.iload_n 3, 1) := by decide +kernel
theorem dL_law_1237 : decode cL_law 1237 = .ok (.iconst 2, 1) := by decide +kernel
theorem dL_law_1238 : decode cL_law 1238 = .ok (.iadd, 1) := by decide +kernel
theorem dL_law_1239 : decode cL_law 1239 = .ok (.iaload, 1) := by decide +kernel
theorem dL_law_1240 : decode cL_law 1240 = .ok (.invokevirtual 146, 3) := by decide +kernel
theorem dL_law_1243 : decode cL_law 1243 = .ok (.if_icmp .eq 117, 3) := by decide +kernel
theorem dL_law_1246 : decode cL_law 1246 = .ok (.iconst 0, 1) := by decide +kernel
theorem dL_law_1247 : decode cL_law 1247 = .ok (.ireturn, 1) := by decide +kernel
theorem dL_law_1248 : decode cL_law 1248 = .ok (.aload_n 1, 1) := by decide +kernel
theorem dL_law_1249 : decode cL_law 1249 = .ok (.aload_n 0, 1) := by decide +kernel
theorem dL_law_1250 : decode cL_law 1250 = .ok (.iload_n 3, 1) := by decide +kernel
theorem dL_law_1251 : decode cL_law 1251 = .ok (.iconst 1, 1) := by decide +kernel
theorem dL_law_1252 : decode cL_law 1252 = .ok (.iadd, 1) := by decide +kernel
theorem dL_law_1253 : decode cL_law 1253 = .ok (.iaload, 1) := by decide +kernel
theorem dL_law_1254 : decode cL_law 1254 = .ok (.aload_n 0, 1) := by decide +kernel
theorem dL_law_1255 : decode cL_law 1255 = .ok (.iload_n 3, 1) := by decide +kernel
theorem dL_law_1256 : decode cL_law 1256 = .ok (.iconst 2, 1) := by decide +kernel
theorem dL_law_1257 : decode cL_law 1257 = .ok (.iadd, 1) := by decide +kernel
theorem dL_law_1258 : decode cL_law 1258 = .ok (.iaload, 1) := by decide +kernel
theorem dL_law_1259 : decode cL_law 1259 = .ok (.aload_n 0, 1) := by decide +kernel
theorem dL_law_1260 : decode cL_law 1260 = .ok (.iload_n 3, 1) := by decide +kernel
theorem dL_law_1261 : decode cL_law 1261 = .ok (.iconst 3, 1) := by decide +kernel
theorem dL_law_1262 : decode cL_law 1262 = .ok (.iadd, 1) := by decide +kernel
theorem dL_law_1263 : decode cL_law 1263 = .ok (.iaload, 1) := by decide +kernel
theorem dL_law_1264 : decode cL_law 1264 = .ok (.aload_n 0, 1) := by decide +kernel
theorem dL_law_1265 : decode cL_law 1265 = .ok (.iload_n 3, 1) := by decide +kernel
theorem dL_law_1266 : decode cL_law 1266 = .ok (.iconst 4, 1) := by decide +kernel
theorem dL_law_1267 : decode cL_law 1267 = .ok (.iadd, 1) := by decide +kernel
theorem dL_law_1268 : decode cL_law 1268 = .ok (.iaload, 1) := by decide +kernel
theorem dL_law_1269 : decode cL_law 1269 = .ok (.aload_n 0, 1) := by decide +kernel
theorem dL_law_1270 : decode cL_law 1270 = .ok (.iload_n 3, 1) := by decide +kernel
theorem dL_law_1271 : decode cL_law 1271 = .ok (.iconst 5, 1) := by decide +kernel
theorem dL_law_1272 : decode cL_law 1272 = .ok (.iadd, 1) := by decide +kernel
theorem dL_law_1273 : decode cL_law 1273 = .ok (.iaload, 1) := by decide +kernel
theorem dL_law_1274 : decode cL_law 1274 = .ok (.invokevirtual 147, 3) := by decide +kernel
theorem dL_law_1277 : decode cL_law 1277 = .ok (.aload_n 2, 1) := by decide +kernel
theorem dL_law_1278 : decode cL_law 1278 = .ok (.aload_n 0, 1) := by decide +kernel
theorem dL_law_1279 : decode cL_law 1279 = .ok (.iload_n 3, 1) := by decide +kernel
theorem dL_law_1280 : decode cL_law 1280 = .ok (.iconst 1, 1) := by decide +kernel
theorem dL_law_1281 : decode cL_law 1281 = .ok (.iadd, 1) := by decide +kernel
theorem dL_law_1282 : decode cL_law 1282 = .ok (.iaload, 1) := by decide +kernel
theorem dL_law_1283 : decode cL_law 1283 = .ok (.aload_n 0, 1) := by decide +kernel
theorem dL_law_1284 : decode cL_law 1284 = .ok (.iload_n 3, 1) := by decide +kernel
theorem dL_law_1285 : decode cL_law 1285 = .ok (.iconst 2, 1) := by decide +kernel
theorem dL_law_1286 : decode cL_law 1286 = .ok (.iadd, 1) := by decide +kernel
theorem dL_law_1287 : decode cL_law 1287 = .ok (.iaload, 1) := by decide +kernel
theorem dL_law_1288 : decode cL_law 1288 = .ok (.aload_n 0, 1) := by decide +kernel
theorem dL_law_1289 : decode cL_law 1289 = .ok (.iload_n 3, 1) := by decide +kernel
theorem dL_law_1290 : decode cL_law 1290 = .ok (.iconst 3, 1) := by decide +kernel
theorem dL_law_1291 : decode cL_law 1291 = .ok (.iadd, 1) := by decide +kernel
theorem dL_law_1292 : decode cL_law 1292 = .ok (.iaload, 1) := by decide +kernel
theorem dL_law_1293 : decode cL_law 1293 = .ok (.aload_n 0, 1) := by decide +kernel
theorem dL_law_1294 : decode cL_law 1294 = .ok (.iload_n 3, 1) := by decide +kernel
theorem dL_law_1295 : decode cL_law 1295 = .ok (.iconst 4, 1) := by decide +kernel
theorem dL_law_1296 : decode cL_law 1296 = .ok (.iadd, 1) := by decide +kernel
theorem dL_law_1297 : decode cL_law 1297 = .ok (.iaload, 1) := by decide +kernel
theorem dL_law_1298 : decode cL_law 1298 = .ok (.aload_n 0, 1) := by decide +kernel
theorem dL_law_1299 : decode cL_law 1299 = .ok (.iload_n 3, 1) := by decide +kernel
theorem dL_law_1300 : decode cL_law 1300 = .ok (.iconst 5, 1) := by decide +kernel
theorem dL_law_1301 : decode cL_law 1301 = .ok (.iadd, 1) := by decide +kernel
theorem dL_law_1302 : decode cL_law 1302 = .ok (.iaload, 1) := by decide +kernel
theorem dL_law_1303 : decode cL_law 1303 = .ok (.invokevirtual 150, 3) := by decide +kernel
theorem dL_law_1306 : decode cL_law 1306 = .ok (.if_icmp .eq 54, 3) := by decide +kernel
theorem dL_law_1309 : decode cL_law 1309 = .ok (.iconst 0, 1) := by decide +kernel
theorem dL_law_1310 : decode cL_law 1310 = .ok (.ireturn, 1) := by decide +kernel
theorem dL_law_1311 : decode cL_law 1311 = .ok (.aload_n 1, 1) := by decide +kernel
theorem dL_law_1312 : decode cL_law 1312 = .ok (.invokevirtual 151, 3) := by decide +kernel
theorem dL_law_1315 : decode cL_law 1315 = .ok (.aload_n 2, 1) := by decide +kernel
theorem dL_law_1316 : decode cL_law 1316 = .ok (.invokevirtual 154, 3) := by decide +kernel
theorem dL_law_1319 : decode cL_law 1319 = .ok (.if_icmp .eq 41, 3) := by decide +kernel
theorem dL_law_1322 : decode cL_law 1322 = .ok (.iconst 0, 1) := by decide +kernel
theorem dL_law_1323 : decode cL_law 1323 = .ok (.ireturn, 1) := by decide +kernel
theorem dL_law_1324 : decode cL_law 1324 = .ok (.aload_n 1, 1) := by decide +kernel
theorem dL_law_1325 : decode cL_law 1325 = .ok (.invokevirtual 155, 3) := by decide +kernel
theorem dL_law_1328 : decode cL_law 1328 = .ok (.aload_n 2, 1) := by decide +kernel
theorem dL_law_1329 : decode cL_law 1329 = .ok (.invokevirtual 158, 3) := by decide +kernel
theorem dL_law_1332 : decode cL_law 1332 = .ok (.if_icmp .eq 28, 3) := by decide +kernel
theorem dL_law_1335 : decode cL_law 1335 = .ok (.iconst 0, 1) := by decide +kernel
theorem dL_law_1336 : decode cL_law 1336 = .ok (.ireturn, 1) := by decide +kernel
theorem dL_law_1337 : decode cL_law 1337 = .ok (.aload_n 1, 1) := by decide +kernel
theorem dL_law_1338 : decode cL_law 1338 = .ok (.aload_n 0, 1) := by decide +kernel
theorem dL_law_1339 : decode cL_law 1339 = .ok (.iload_n 3, 1) := by decide +kernel
theorem dL_law_1340 : decode cL_law 1340 = .ok (.iconst 1, 1) := by decide +kernel
theorem dL_law_1341 : decode cL_law 1341 = .ok (.iadd, 1) := by decide +kernel
theorem dL_law_1342 : decode cL_law 1342 = .ok (.iaload, 1) := by decide +kernel
theorem dL_law_1343 : decode cL_law 1343 = .ok (.invokevirtual 159, 3) := by decide +kernel
theorem dL_law_1346 : decode cL_law 1346 = .ok (.aload_n 2, 1) := by decide +kernel
theorem dL_law_1347 : decode cL_law 1347 = .ok (.aload_n 0, 1) := by decide +kernel
theorem dL_law_1348 : decode cL_law 1348 = .ok (.iload_n 3, 1) := by decide +kernel
theorem dL_law_1349 : decode cL_law 1349 = .ok (.iconst 1, 1) := by decide +kernel
theorem dL_law_1350 : decode cL_law 1350 = .ok (.iadd, 1) := by decide +kernel
theorem dL_law_1351 : decode cL_law 1351 = .ok (.iaload, 1) := by decide +kernel
theorem dL_law_1352 : decode cL_law 1352 = .ok (.invokevirtual 162, 3) := by decide +kernel
theorem dL_law_1355 : decode cL_law 1355 = .ok (.if_icmp .eq 5, 3) := by decide +kernel
theorem dL_law_1358 : decode cL_law 1358 = .ok (.iconst 0, 1) := by decide +kernel
theorem dL_law_1359 : decode cL_law 1359 = .ok (.ireturn, 1) := by decide +kernel
theorem dL_law_1360 : decode cL_law 1360 = .ok (.iinc 3 6, 3) := by decide +kernel
theorem dL_law_1363 : decode cL_law 1363 = .ok (.goto (-1345), 3) := by decide +kernel
theorem dL_law_1366 : decode cL_law 1366 = .ok (.iconst 1, 1) := by decide +kernel
theorem dL_law_1367 : decode cL_law 1367 = .ok (.ireturn, 1) := by decide +kernel
end
section
/-- the kinds of the cells that a run makes, in their order: a class's number and 1; 20 byte[], 21 int[], 22 Thing[], 23 Effect[], 24 Rule[], 25 Watcher[], 26 Sheet[], 27 String[] -/
def zLayL : List Nat := [11, 1, 9, 22, 23, 24, 25, 21, 7, 7, 7, 7, 7, 7, 7, 7, 2, 2, 2, 2, 2, 2, 2, 2, 2, 2, 5, 5, 5, 5, 5, 5, 5, 5, 8, 8, 8, 8, 8, 8, 8, 8, 3, 21, 21, 21, 21, 21, 10, 21, 21, 21, 21, 9, 22, 23, 24, 25, 21, 7, 7, 7, 7, 7, 7, 7, 7, 2, 2, 2, 2, 2, 2, 2, 2, 2, 2, 5, 5, 5, 5, 5, 5, 5, 5, 8, 8, 8, 8, 8, 8, 8, 8, 9, 22, 23, 24, 25, 21, 7, 7, 7, 7, 7, 7, 7, 7, 2, 2, 2, 2, 2, 2, 2, 2, 2, 2, 5, 5, 5, 5, 5, 5, 5, 5, 8, 8, 8, 8, 8, 8, 8, 8, 3, 21, 21, 21, 21, 21, 10, 21, 4, 20, 23, 2, 2, 2, 2, 2, 2, 2, 2, 2, 2, 26, 21, 6, 21, 6, 21, 6, 21, 6, 21, 12, 21, 21, 21, 21, 21, 21, 21, 21, 21, 21, 27, 27, 21, 21, 21, 21]
abbrev zNT : Nat := 181
/-- how many slots each has -/
def zLenL : List Nat := [12, 7, 11, 8, 10, 8, 8, 2, 10, 10, 10, 10, 10, 10, 10, 10, 7, 7, 7, 7, 7, 7, 7, 7, 7, 7, 4, 4, 4, 4, 4, 4, 4, 4, 7, 7, 7, 7, 7, 7, 7, 7, 6, 8, 8, 8, 8, 10, 5, 8, 400, 400, 40, 11, 8, 10, 8, 8, 2, 10, 10, 10, 10, 10, 10, 10, 10, 7, 7, 7, 7, 7, 7, 7, 7, 7, 7, 4, 4, 4, 4, 4, 4, 4, 4, 7, 7, 7, 7, 7, 7, 7, 7, 11, 8, 10, 8, 8, 2, 10, 10, 10, 10, 10, 10, 10, 10, 7, 7, 7, 7, 7, 7, 7, 7, 7, 7, 4, 4, 4, 4, 4, 4, 4, 4, 7, 7, 7, 7, 7, 7, 7, 7, 6, 8, 8, 8, 8, 10, 5, 8, 9, 120, 10, 7, 7, 7, 7, 7, 7, 7, 7, 7, 7, 4, 40, 3, 40, 3, 40, 3, 40, 3, 40, 33, 246, 246, 246, 32, 32, 10, 1024, 41, 41, 120, 6, 6, 3, 4, 4, 160]
theorem ly_ex : ∃ f : Nat → Nat, ∀ c, f c = zLayL.getD c 0 := ⟨fun c => zLayL.getD c 0, fun _ => rfl⟩
noncomputable def ly : Nat → Nat := Classical.choose ly_ex
theorem ly_eq (c : Nat) : ly c = zLayL.getD c 0 := Classical.choose_spec ly_ex c
theorem lyc {c k : Nat} (h : zLayL.getD c 0 = k) : ly c = k := (ly_eq c).trans h
theorem ln_ex : ∃ f : Nat → Nat, ∀ c, f c = zLenL.getD c 0 := ⟨fun c => zLenL.getD c 0, fun _ => rfl⟩
noncomputable def ln : Nat → Nat := Classical.choose ln_ex
theorem ln_eq (c : Nat) : ln c = zLenL.getD c 0 := Classical.choose_spec ln_ex c
theorem lnc {c k : Nat} (h : zLenL.getD c 0 = k) : ln c = k := (ln_eq c).trans h
theorem ly_out {c : Nat} (h : zNT ≤ c) : ly c = 0 := by
  rw [ly_eq, List.getD_eq_getElem?_getD, List.getElem?_eq_none (by exact h)]
  rfl
theorem ln_out {c : Nat} (h : zNT ≤ c) : ln c = 0 := by
  rw [ln_eq, List.getD_eq_getElem?_getD, List.getElem?_eq_none (by exact h)]
  rfl
theorem ly_all {P : Nat → Nat → Prop} (h0 : ∀ c, zNT ≤ c → P c 0) (h : ∀ c, c < zNT → P c (zLayL.getD c 0)) (c : Nat) : P c (ly c) := by
  rcases Nat.lt_or_ge c zNT with q | q
  · rw [ly_eq]; exact h c q
  · rw [ly_out q]; exact h0 c q
theorem ln_lt (c : Nat) : ln c ≤ 1024 := by
  rcases Nat.lt_or_ge c zNT with q | q
  · rw [ln_eq]; exact (by decide +kernel : ∀ c, c < 181 → zLenL.getD c 0 ≤ 1024) c q
  · rw [ln_out q]; omega
theorem ly_27 (c : Nat) : ly c ≤ 27 := by
  rcases Nat.lt_or_ge c zNT with q | q
  · rw [ly_eq]; exact (by decide +kernel : ∀ c, c < 181 → zLayL.getD c 0 ≤ 27) c q
  · rw [ly_out q]; omega
/-- the references that never change once they are set (rows of Effects, Rules, Watchers of the three worlds left out) -/
def zStL : List (List (Option Nat)) := [[some 1, some 2, some 42, some 53, some 93, none, some 133, some 139, some 141, some 154, some 155],
  [some 2, some 42, some 48, some 50, some 51, none, some 52],
  [some 3, none, some 4, none, some 5, none, some 6, none, some 7],
  [some 8, some 9, some 10, some 11, some 12, some 13, some 14, some 15],
  [],
  [],
  [],
  [],
  [],
  [],
  [],
  [],
  [],
  [],
  [],
  [],
  [],
  [],
  [],
  [],
  [],
  [],
  [],
  [],
  [],
  [],
  [],
  [],
  [],
  [],
  [],
  [],
  [],
  [],
  [],
  [],
  [],
  [],
  [],
  [],
  [],
  [],
  [some 43, some 44, some 45, some 46, some 47],
  [],
  [],
  [],
  [],
  [],
  [none, none, none, none, some 49],
  [],
  [],
  [],
  [],
  [some 54, none, some 55, none, some 56, none, some 57, none, some 58],
  [some 59, some 60, some 61, some 62, some 63, some 64, some 65, some 66],
  [],
  [],
  [],
  [],
  [],
  [],
  [],
  [],
  [],
  [],
  [],
  [],
  [],
  [],
  [],
  [],
  [],
  [],
  [],
  [],
  [],
  [],
  [],
  [],
  [],
  [],
  [],
  [],
  [],
  [],
  [],
  [],
  [],
  [],
  [],
  [],
  [],
  [],
  [some 94, none, some 95, none, some 96, none, some 97, none, some 98],
  [some 99, some 100, some 101, some 102, some 103, some 104, some 105, some 106],
  [],
  [],
  [],
  [],
  [],
  [],
  [],
  [],
  [],
  [],
  [],
  [],
  [],
  [],
  [],
  [],
  [],
  [],
  [],
  [],
  [],
  [],
  [],
  [],
  [],
  [],
  [],
  [],
  [],
  [],
  [],
  [],
  [],
  [],
  [],
  [],
  [],
  [],
  [some 134, some 135, some 136, some 137, some 138],
  [],
  [],
  [],
  [],
  [],
  [none, none, none, none, some 140],
  [],
  [some 142, none, none, none, none, none, some 143],
  [],
  [some 144, some 145, some 146, some 147, some 148, some 149, some 150, some 151, some 152, some 153],
  [],
  [],
  [],
  [],
  [],
  [],
  [],
  [],
  [],
  [],
  [some 156, some 158, some 160, some 162],
  [],
  [none, none, some 157],
  [],
  [none, none, some 159],
  [],
  [none, none, some 161],
  [],
  [none, none, some 163],
  [],
  [some 165, some 166, some 167, none, some 168, some 169, some 170, none, none, some 171, none, none, none, none, none, none, none, some 172, some 173, none, some 174, none, none, none, none, none, some 175, some 176, some 177, none, some 178, some 179, some 180],
  [],
  [],
  [],
  [],
  [],
  [],
  [],
  [],
  [],
  [],
  [some 1010, some 1011, some 1012, some 1013, some 1014, some 1015],
  [some 1016, some 1017, some 1018, some 1019, some 1020, some 1021],
  [],
  [],
  [],
  []]
def zst (c k : Nat) : Option Nat := (zStL.getD c []).getD k none
/-- slots of the first n cells -/
noncomputable def zsl (n : Nat) : Nat := if h : n = 0 then 0 else zsl (n - 1) + ln (n - 1)
termination_by n
decreasing_by omega
theorem zsl_0 : zsl 0 = 0 := by rw [zsl, dif_pos rfl]
theorem zsl_succ {n : Nat} : zsl (n + 1) = zsl n + ln n := by rw [zsl, dif_neg (by omega), Nat.add_sub_cancel]
end
section
/-! The run's cells as two functions (whole numbers; references by the cells' numbers), and what they say of the machine's heap. -/
abbrev zHp : Type := (Nat → Nat → Int32) × (Nat → Nat → Option Nat)
/-- the first cell's address; addresses of what was there before (numbers from 1000 on); class ids; slots; array classes' ids -/
abbrev zCx : Type := Nat × (Nat → Option Nat) × (Nat → ClassId) × (Nat → Nat → Nat) × (Nat → ClassId)
def rI (h : zHp) (c k : Nat) : Int32 := h.1 c k
def rR (h : zHp) (c k : Nat) : Option Nat := h.2 c k
def wI (h : zHp) (c k : Nat) (v : Int32) : zHp := (fun a b => if a = c ∧ b = k then v else h.1 a b, h.2)
def wR (h : zHp) (c k : Nat) (v : Option Nat) : zHp := (h.1, fun a b => if a = c ∧ b = k then v else h.2 a b)
/-- a stretch of n numbers of cell c from place i on comes to cell d, from place j on -/
def wC (h : zHp) (c i d j n : Nat) : zHp := (fun a b => if a = d then va_cpy (h.1 c) (h.1 d) i j n b else h.1 a b, h.2)
def zadr (X : zCx) (i : Nat) : Option Nat := if i < 1000 then some (X.1 + i) else X.2.1 i
def zcv (X : zCx) (v : Value) : Value := match v with
  | .ref i => va_rf (zadr X i)
  | v => v
def zrf (ty : FieldType) : Bool := match ty with
  | .object _ => true
  | .array _ => true
  | _ => false
def zfty (ci k : Nat) : FieldType := match ci with
  | 0 => tyX0 k
  | 1 => tyX1 k
  | 2 => tyX2 k
  | 3 => tyX3 k
  | 4 => tyX4 k
  | 5 => tyX5 k
  | 6 => tyX6 k
  | 7 => tyX7 k
  | 8 => tyX8 k
  | 9 => tyX9 k
  | 10 => tyX10 k
  | _ => tyX11 k
def zfv (X : zCx) (h : zHp) (c ci k : Nat) : Value := if zrf (zfty ci k) = true then va_rf ((h.2 c k).bind (zadr X)) else .int (h.1 c k)
noncomputable def zent (X : zCx) (h : zHp) (c : Nat) : va_E :=
  if ly c < 20 then .inr (ly c - 1, (List.range (ln c)).map (zfv X h c (ly c - 1)))
  else if ly c < 22 then .inl (X.2.2.2.2 (ly c), ln c, .inl (h.1 c))
  else .inl (X.2.2.2.2 (ly c), ln c, .inr (.inr (.inr (.inr (fun k => (h.2 c k).bind (zadr X))))))
noncomputable def zwl (X : zCx) (h : zHp) (n : Nat) : va_W := (List.range n).map (fun c => (X.1 + c, zent X h c))
def zA (X : zCx) : Nat → Prop := fun q => X.1 ≤ q
abbrev zD (X : zCx) : va_G := (X.2.2.1, X.2.2.2.1)
def zty (k : Nat) : FieldType := match k with
  | 20 => .byte
  | 21 => .int
  | 22 => .object "LayeredRules$Thing"
  | 23 => .object "LayeredRules$Effect"
  | 24 => .object "LayeredRules$Rule"
  | 25 => .object "LayeredRules$Watcher"
  | 26 => .object "LayeredRules$Sheet"
  | _ => .object "java/lang/String"
def ztys (X : zCx) : List (ClassId × FieldType) := (List.range 8).map (fun i => (X.2.2.2.2 (20 + i), zty (20 + i)))
theorem zwl_at {X : zCx} {h : zHp} {n c : Nat} (hc : c < n) : (zwl X h n)[c]? = some (X.1 + c, zent X h c) := by
  simp [zwl, hc]
theorem zwl_len {X : zCx} {h : zHp} {n : Nat} : (zwl X h n).length = n := by simp [zwl]
theorem zwl_D {X : zCx} {h : zHp} {n : Nat} : va_D (zA X) (zwl X h n) := by
  have key : ∀ (k : Nat) (q : Nat × va_E), (zwl X h n)[k]? = some q → q.1 = X.1 + k := by
    intro k q hk
    have hl : k < n := by have := (List.getElem?_eq_some_iff.mp hk).1; rwa [zwl_len] at this
    rw [zwl_at hl] at hk
    cases hk
    rfl
  refine ⟨fun i j p q hi hj hpq => ?_, fun k q hk => ?_⟩
  · have h1 := key i p hi
    have h2 := key j q hj
    omega
  · have h1 := key k q hk
    show X.1 ≤ q.1
    omega
theorem ztys_at {X : zCx} {i : Nat} (hi : i < 8) : (ztys X)[i]? = some (X.2.2.2.2 (20 + i), zty (20 + i)) := by
  simp [ztys, hi]
theorem zly_lt {c : Nat} (h : ly c ≠ 0) : c < zNT := by
  rcases Nat.lt_or_ge c zNT with q | q
  · exact q
  · exact absurd (ly_out q) h
theorem zwl_set {X : zCx} {h h' : zHp} {n c : Nat} {E : va_E} (hc : c < n) (he : zent X h' c = E) (ho : ∀ d, d ≠ c → zent X h' d = zent X h d) : (zwl X h n).set c (X.1 + c, E) = zwl X h' n := by
  apply List.ext_getElem?
  intro i
  by_cases hi : i < n
  · rw [zwl_at hi]
    by_cases hic : i = c
    · subst hic
      rw [List.getElem?_set_self (by rw [zwl_len]; exact hi), he]
    · rw [List.getElem?_set_ne (Ne.symm hic), zwl_at hi, ho i hic]
  · rw [List.getElem?_eq_none (by rw [List.length_set, zwl_len]; omega), List.getElem?_eq_none (by rw [zwl_len]; omega)]
theorem zent_other {X : zCx} {h h' : zHp} {d : Nat} (h1 : h'.1 d = h.1 d) (h2 : h'.2 d = h.2 d) : zent X h' d = zent X h d := by
  have e : zfv X h' d (ly d - 1) = zfv X h d (ly d - 1) := by
    funext k
    unfold zfv
    rw [h1, h2]
  unfold zent
  rw [e, h1, h2]
theorem wI_ne {h : zHp} {c k d : Nat} {v : Int32} (hd : d ≠ c) : (wI h c k v).1 d = h.1 d := by
  funext b
  show (if d = c ∧ b = k then v else h.1 d b) = h.1 d b
  rw [if_neg (fun q => hd q.1)]
theorem wR_ne {h : zHp} {c k d : Nat} {v : Option Nat} (hd : d ≠ c) : (wR h c k v).2 d = h.2 d := by
  funext b
  show (if d = c ∧ b = k then v else h.2 d b) = h.2 d b
  rw [if_neg (fun q => hd q.1)]
theorem wC_ne {h : zHp} {c i a j n d : Nat} (hd : d ≠ a) : (wC h c i a j n).1 d = h.1 d := by
  funext b
  show (if d = a then _ else h.1 d b) = h.1 d b
  rw [if_neg hd]
theorem zent_obj {X : zCx} {h : zHp} {c ci : Nat} (hl : ly c = ci + 1) (hci : ci < 12) : zent X h c = .inr (ci, (List.range (ln c)).map (zfv X h c ci)) := by
  unfold zent
  rw [if_pos (by omega), hl]
  rfl
theorem zent_int {X : zCx} {h : zHp} {c : Nat} (hl : ly c = 21) : zent X h c = .inl (X.2.2.2.2 21, ln c, .inl (h.1 c)) := by
  unfold zent
  rw [if_neg (by omega), if_pos (by omega), hl]
theorem zent_byte {X : zCx} {h : zHp} {c : Nat} (hl : ly c = 20) : zent X h c = .inl (X.2.2.2.2 20, ln c, .inl (h.1 c)) := by
  unfold zent
  rw [if_neg (by omega), if_pos (by omega), hl]
theorem zent_ref {X : zCx} {h : zHp} {c : Nat} (hl : 22 ≤ ly c) : zent X h c = .inl (X.2.2.2.2 (ly c), ln c, .inr (.inr (.inr (.inr (fun k => (h.2 c k).bind (zadr X)))))) := by
  unfold zent
  rw [if_neg (by omega), if_neg (by omega)]
theorem zfs_at {X : zCx} {h : zHp} {c ci k N : Nat} (hk : k < N) : ((List.range N).map (zfv X h c ci))[k]? = some (zfv X h c ci k) := by
  simp [hk]
theorem zfs_set {X : zCx} {h h' : zHp} {c ci k N : Nat} {v : Value} (hk : k < N) (hv : zfv X h' c ci k = v) (ho : ∀ j, j ≠ k → zfv X h' c ci j = zfv X h c ci j) : ((List.range N).map (zfv X h c ci)).set k v = (List.range N).map (zfv X h' c ci) := by
  apply List.ext_getElem?
  intro i
  by_cases hi : i < N
  · rw [zfs_at hi]
    by_cases hik : i = k
    · subst hik
      rw [List.getElem?_set_self (by simpa using hi), hv]
    · rw [List.getElem?_set_ne (Ne.symm hik), zfs_at hi, ho i hik]
  · rw [List.getElem?_eq_none (by simpa using hi), List.getElem?_eq_none (by simpa using hi)]
theorem zcv_rf (X : zCx) (r : Option Nat) : zcv X (va_rf r) = va_rf (r.bind (zadr X)) := by
  cases r <;> rfl
theorem zcv_ref {X : zCx} {c : Nat} (hc : c < 1000) : zcv X (.ref c) = .ref (X.1 + c) := by
  show va_rf (zadr X c) = _
  unfold zadr
  rw [if_pos hc]
  rfl
theorem zrf_cat (r : Option Nat) : (va_rf r).category = 1 := by cases r <;> rfl
end
section
/-! A method's run over the cells: zw, the judgement; what was there before the run (statics, strings, the script). -/
/-- a method: its name, code, locals, answer; frames and locals that it needs -/
abbrev zMI : Type := MethodName × ByteArray × Nat × Option FieldType × Nat × Nat
def zSlen : List Nat := [3, 5, 4, 4, 7, 5, 2, 5, 5, 4, 4, 5, 1]
def zSbyt : List (List Int32) := [[97, 108, 108], [111, 119, 110, 101, 114], [116, 121, 112, 101], [119, 105, 116, 104], [119, 105, 116, 104, 111, 117, 116], [116, 104, 105, 110, 103], [105, 115], [103, 97, 105, 110, 115], [108, 111, 115, 101, 115], [115, 101, 116, 115], [103, 101, 116, 115], [115, 119, 97, 112, 115], [32]]
def zStr : List (String × Nat × String × Nat) := [("LayeredRules", 383, "all", 0), ("LayeredRules", 385, "owner", 1), ("LayeredRules", 386, "type", 2), ("LayeredRules", 387, "with", 3), ("LayeredRules", 389, "without", 4), ("LayeredRules", 391, "thing", 5), ("LayeredRules", 393, "is", 6), ("LayeredRules", 395, "gains", 7), ("LayeredRules", 397, "loses", 8), ("LayeredRules", 399, "sets", 9), ("LayeredRules", 401, "gets", 10), ("LayeredRules", 403, "swaps", 11), ("LayeredRules", 338, " ", 12), ("LayeredRulesModel", 42, "all", 0), ("LayeredRulesModel", 44, "owner", 1), ("LayeredRulesModel", 46, "type", 2), ("LayeredRulesModel", 48, "with", 3), ("LayeredRulesModel", 50, "without", 4), ("LayeredRulesModel", 52, "thing", 5), ("LayeredRulesModel", 58, "is", 6), ("LayeredRulesModel", 59, "gains", 7), ("LayeredRulesModel", 61, "loses", 8), ("LayeredRulesModel", 63, "sets", 9), ("LayeredRulesModel", 65, "gets", 10), ("LayeredRulesModel", 67, "swaps", 11)]
/-- the words of the tables that every method may ask -/
theorem zT_ex : ∃ l : List Cond, ∀ w, w ∈ l ↔ (w ∈ lw_tbl ∧ goodWord w = true) := ⟨lw_tbl.filter goodWord, fun _ => List.mem_filter⟩
noncomputable def zT : List Cond := Classical.choose zT_ex
theorem zT_in {w : Cond} : w ∈ zT ↔ (w ∈ lw_tbl ∧ goodWord w = true) := Classical.choose_spec zT_ex w
def zNM : List (String × Nat × MethodName × String) := [("LayeredRules", 9, ⟨"LayeredRules$Course", "<init>", "()V"⟩, "LayeredRules"), ("LayeredRules$World", 43, ⟨"LayeredRules$Thing", "<init>", "()V"⟩, "LayeredRules"), ("LayeredRules$World", 44, ⟨"LayeredRules$Effect", "<init>", "()V"⟩, "LayeredRules"), ("LayeredRules$World", 45, ⟨"LayeredRules$Rule", "<init>", "()V"⟩, "LayeredRules"), ("LayeredRules$World", 46, ⟨"LayeredRules$Watcher", "<init>", "()V"⟩, "LayeredRules"), ("LayeredRules$Course", 20, ⟨"LayeredRules$Look", "<init>", "()V"⟩, "LayeredRules"), ("LayeredRules$Course", 27, ⟨"LayeredRules$Wound", "<init>", "()V"⟩, "LayeredRules"), ("LayeredRules", 39, ⟨"LayeredRules$Look", "<init>", "()V"⟩, "LayeredRules"), ("LayeredRules", 45, ⟨"LayeredRules$Wound", "<init>", "()V"⟩, "LayeredRules"), ("LayeredRules$Reader", 21, ⟨"LayeredRules$Effect", "<init>", "()V"⟩, "LayeredRules"), ("LayeredRules", 67, ⟨"LayeredRules$Sheet", "<init>", "()V"⟩, "LayeredRules"), ("LayeredRules$Effect", 33, ⟨"LayeredRules", "within", "(III)Z"⟩, "LayeredRules"), ("LayeredRules$Look", 136, ⟨"LayeredRules", "within", "(III)Z"⟩, "LayeredRules"), ("LayeredRules$World", 75, ⟨"LayeredRules", "within", "(III)Z"⟩, "LayeredRules"), ("LayeredRules$Course", 177, ⟨"LayeredRules", "within", "(III)Z"⟩, "LayeredRules"), ("LayeredRules$Reader", 79, ⟨"LayeredRules", "scopeWord", "(I)Ljava/lang/String;"⟩, "LayeredRules"), ("LayeredRules$Reader", 87, ⟨"LayeredRules", "deedWord", "(I)Ljava/lang/String;"⟩, "LayeredRules"), ("LayeredRules$Sheet", 22, ⟨"LayeredRules", "within", "(III)Z"⟩, "LayeredRules")]
def zNF : List (String × Nat × String × String × String × String) := [("LayeredRules$Effect", 37, "LayeredRules", "LAYER_OF", "[I", "LayeredRules"), ("LayeredRules$Reader", 52, "LayeredRules", "MOST_X", "[I", "LayeredRules")]
def zAO : List String := ["LayeredRules$Thing", "LayeredRules$Effect", "LayeredRules$Rule", "LayeredRules$Watcher", "LayeredRules$Sheet", "java/lang/String"]
def zLO (j : Nat) : Int32 := ([0, 1, 1, 2, 3, 4] : List Int32).getD j 0
def zMX (j : Nat) : Int32 := ([0, 1, 5, 5, 5, 7] : List Int32).getD j 0
/-- what was there before: 1000 LAYER_OF, 1001 MOST_X, 1002 String's formatter, 1003 the script (its length stands in 1004), 1010 .. the texts, 1030 .. their bytes -/
def zSta (X : zCx) (h : zHp) (U : State) : Prop :=
  (∃ t, X.2.1 1000 = some t ∧ va_Z "LayeredRules" "LAYER_OF" "[I" (.ref t) (zA X) U U.heap ∧ va_T .int t 6 (fun j => .int (zLO j)) (zA X) U U.heap) ∧
  (∃ t, X.2.1 1001 = some t ∧ va_Z "LayeredRules" "MOST_X" "[I" (.ref t) (zA X) U U.heap ∧ va_T .int t 6 (fun j => .int (zMX j)) (zA X) U U.heap) ∧
  va_Z "jdk/internal/util/Preconditions" "SIOOBE_FORMATTER" "Ljava/util/function/BiFunction;" (va_rf (X.2.1 1002)) (zA X) U U.heap ∧
  va_Z "java/lang/String" "COMPACT_STRINGS" "Z" (.int 1) (zA X) U U.heap ∧
  (∃ adK adV : Nat → Nat, (∀ i, i < 13 → X.2.1 (1010 + i) = some (adK i) ∧ X.2.1 (1030 + i) = some (adV i)) ∧ vk_S 13 zSlen zSbyt adK adV (zA X) U U.heap ∧ ∀ q ∈ zStr, vk_R q.1 q.2.1 q.2.2.1 (adK q.2.2.2) U) ∧
  (∃ b L : Nat, X.2.1 1003 = some b ∧ h.1 1004 0 = nI L ∧ L ≤ 3072 ∧ va_X b L (h.1 1003) U U.heap ∧ b < U.heap.size ∧ ¬ zA X b) ∧
  (∀ q ∈ zNM, va_Nw (.methodLinkNest q.1 q.2.1 q.2.2.1 q.2.2.2) U) ∧ (∀ q ∈ zNF, va_Nw (.fieldLinkNest q.1 q.2.1 q.2.2.1 q.2.2.2.1 q.2.2.2.2.1 q.2.2.2.2.2) U) ∧ ∀ C ∈ zAO, va_AO C U
theorem zSta.move {X : zCx} {h : zHp} {s U : State} {H : Heap} {locs : List Loc} (hs : zSta X h s) (hS : va_S (zA X) s.heap H locs) (hU : U.heap = H) (hW : s.WarmedH U.vm) : zSta X h U := by
  subst hU
  obtain ⟨⟨t0, a1, a2, a3⟩, ⟨t1, b1, b2, b3⟩, c1, d1, ⟨adK, adV, e1, e2, e3⟩, ⟨b, L, f1, f2, f3, f4, f5, f6⟩, g1, g2, g3⟩ := hs
  have hq := hS.2.1
  have hv := hW.alike
  exact ⟨⟨t0, a1, (a2.kept hq).moved hv, (a3.kept hq).moved hv⟩, ⟨t1, b1, (b2.kept hq).moved hv, (b3.kept hq).moved hv⟩, (c1.kept hq).moved hv, (d1.kept hq).moved hv, ⟨adK, adV, e1, (e2.kept hq).moved hv, fun q hm => (e3 q hm).warm hW⟩, ⟨b, L, f1, f2, f3, (f4.kept (hq b f5 f6)).moved hv, Nat.lt_of_lt_of_le f5 hS.1, f6⟩, fun q hm => (g1 q hm).warmM hW, fun q hm => (g2 q hm).warmF hW, fun C hm => (g3 C hm).moved hv⟩
theorem zSta.to {X : zCx} {h h' : zHp} {s : State} (hs : zSta X h s) (h1 : h'.1 1003 = h.1 1003) (h2 : h'.1 1004 = h.1 1004) : zSta X h' s := by
  obtain ⟨a, b, c, d, e, ⟨b0, L, f1, f2, f3, f4, f5⟩, g⟩ := hs
  exact ⟨a, b, c, d, e, ⟨b0, L, f1, by rw [h2]; exact f2, f3, by rw [h1]; exact f4, f5⟩, g⟩
theorem zSta.wI {X : zCx} {h : zHp} {s : State} {c k : Nat} {v : Int32} (hs : zSta X h s) (hc : c < 1000) : zSta X (wI h c k v) s := hs.to (wI_ne (by omega)) (wI_ne (by omega))
theorem zSta.wR {X : zCx} {h : zHp} {s : State} {c k : Nat} {v : Option Nat} (hs : zSta X h s) : zSta X (wR h c k v) s := hs.to rfl rfl
/-- the context of a method's body -/
def zC (X : zCx) (M : zMI) (nX nE : Nat) (p : Program) (R : Room) (s : State) (m : MethodId) (args : Array Value) (meth : Method) (c : Code) : Prop :=
  p.tables.exec = Jvm.exec ∧ c.code = M.2.1 ∧ c.maxLocals = M.2.2.1 ∧ s.vm.findClass M.1.cls = some m.cls ∧ (∀ w ∈ zT, w.before args s = true) ∧ meth.name = M.1.name ∧ s.heap.size = X.1 + nE ∧ va_K (zD X) vwCl (ztys X) s ∧ (M.2.2.2.2.1 ≤ R.frames ∧ M.2.2.2.2.2 ≤ R.locals) ∧ nX - nE ≤ R.cells ∧ zsl nX - zsl nE ≤ R.slots
/-- what a method may answer -/
def zRet (ret : Option FieldType) (r : Option Value) : Prop := match ret, r with
  | none, none => True
  | some ty, some (.int v) => zrf ty = false ∧ narrow ty (.int v) = .int v
  | some ty, some (.ref _) => zrf ty = true
  | _, _ => False
def zri (r : Option Value) : Instr := match r with
  | none => .return_
  | some (.int _) => .ireturn
  | some _ => .areturn
/-- what is done at a method's end -/
def zHd (X : zCx) (M : zMI) (nX nE : Nat) (p : Program) (l : Launch) (e : Env) (R : Room) (s : State) (m : MethodId) (args : Array Value) (below : List Frame) (meth : Method) (c : Code) (Z : State → Prop) (Q : Option Value → zHp → Prop) : Prop :=
  ∀ (r : Option Value) (h' : zHp) (H' : Heap) (locs' : List Loc) (lsA : Array Slot) (pc' : Nat), Q r h' → zRet M.2.2.2.1 r → va_P (zD X) vwCl (zwl X h' nX) H' → zSta X h' s → va_S (zA X) s.heap H' locs' → decode M.2.1 pc' = .ok (zri r, 1) → W p l e R s m args below meth c H' locs' (nX - nE) (zsl nX - zsl nE) Z (F0 m pc' lsA ((r.map (zcv X)).toList))
/-- the locals -/
def zlv (X : zCx) (a : Array Slot) (nL : Nat) (ls : List (Option Value)) : Prop := a.size = nL ∧ lv_wf a ∧ ∀ (i : Nat) (v : Value), ls[i]? = some (some v) → a[i]? = some (.val (zcv X v)) ∧ (zcv X v).category = 1
/-- at pc, with n cells made, locals ls, stack st and cells h: the method comes to its end with Q, when nX cells are made -/
def zw (nX n : Nat) (M : zMI) (pc : Nat) (ls : List (Option Value)) (st : List Value) (h : zHp) (Q : Option Value → zHp → Prop) : Prop :=
  ∀ (X : zCx) (p : Program) (l : Launch) (e : Env) (R : Room) (s : State) (m : MethodId) (args : Array Value) (below : List Frame) (meth : Method) (c : Code) (Z : State → Prop) (nE : Nat), zC X M nX nE p R s m args meth c → zHd X M nX nE p l e R s m args below meth c Z Q →
  ∀ (H : Heap) (locs : List Loc) (a : Array Slot), nE ≤ n → n ≤ nX → va_P (zD X) vwCl (zwl X h n) H → zSta X h s → va_S (zA X) s.heap H locs → zlv X a M.2.2.1 ls → W p l e R s m args below meth c H locs (n - nE) (zsl n - zsl nE) Z (F0 m pc a (st.map (zcv X)))
theorem zw.mono {nX n : Nat} {M : zMI} {pc : Nat} {ls : List (Option Value)} {st : List Value} {h : zHp} {Q Q' : Option Value → zHp → Prop} (k : zw nX n M pc ls st h Q) (hq : ∀ r h', Q r h' → Q' r h') : zw nX n M pc ls st h Q' := by
  intro X p l e R s m args below meth c Z nE C hZ H locs a h1 h2 hP hSt hS hl
  exact k X p l e R s m args below meth c Z nE C (fun r h' H' locs' lsA pc' hQ => hZ r h' H' locs' lsA pc' (hq r h' hQ)) H locs a h1 h2 hP hSt hS hl
theorem zlv.set {X : zCx} {a : Array Slot} {nL : Nat} {ls : List (Option Value)} {i : Nat} {v : Value} (h : zlv X a nL ls) (hi : i < nL) (hc : (zcv X v).category = 1) : ∃ a', storeLocals a i (zcv X v) = some a' ∧ zlv X a' nL (ls.set i (some v)) := by
  let l : List (Nat × Value) := (List.range ls.length).filterMap (fun j => match ls[j]? with | some (some w) => some (j, zcv X w) | _ => none)
  have hm : ∀ (j : Nat) (w : Value), ls[j]? = some (some w) → (j, zcv X w) ∈ l := by
    intro j w hj
    refine List.mem_filterMap.mpr ⟨j, List.mem_range.mpr (List.getElem?_eq_some_iff.mp hj).1, ?_⟩
    rw [hj]
  have hl : lv_has a nL l := by
    refine ⟨h.1, h.2.1, fun q hq => ?_⟩
    obtain ⟨j, -, hj⟩ := List.mem_filterMap.mp hq
    cases e : ls[j]? with
    | none => rw [e] at hj; cases hj
    | some o =>
      cases o with
      | none => rw [e] at hj; cases hj
      | some w =>
        rw [e] at hj
        cases hj
        exact (h.2.2 j w e).1
  obtain ⟨a', e1, e2⟩ := lv_store1 hl hi hc
  refine ⟨a', e1, e2.1, e2.2.1, fun j w hj => ?_⟩
  by_cases hji : j = i
  · subst hji
    have hlen : j < ls.length := by
      have := (List.getElem?_eq_some_iff.mp hj).1
      rwa [List.length_set] at this
    rw [List.getElem?_set_self hlen] at hj
    cases hj
    exact ⟨e2.2.2 (j, zcv X v) List.mem_cons_self, hc⟩
  · rw [List.getElem?_set_ne (Ne.symm hji)] at hj
    have hw := h.2.2 j w hj
    refine ⟨e2.2.2 (j, zcv X w) (List.mem_cons_of_mem _ (List.mem_filter.mpr ⟨hm j w hj, ?_⟩)), hw.2⟩
    simp [hji, hw.2]
end
section
section ZRules
variable {nX n : Nat} {M : zMI} {pc : Nat} {ls : List (Option Value)} {st : List Value} {h : zHp} {Q : Option Value → zHp → Prop}
theorem z_iconst {k : Int} {v : Int32} (hd : decode M.2.1 pc = .ok (.iconst k, 1)) (hv : Int32.ofInt k = v) (K : zw nX n M (pc + 1) ls (.int v :: st) h Q) : zw nX n M pc ls st h Q := by
  intro X p l e R s m args below meth c Z nE C hZ H locs a h1 h2 hP hSt hS hl
  exact lv_iconst C.1 C.2.1 hd hv (K X p l e R s m args below meth c Z nE C hZ H locs a h1 h2 hP hSt hS hl)
theorem z_bipush {k : Int} {v : Int32} (hd : decode M.2.1 pc = .ok (.bipush k, 2)) (hv : (Int8.ofInt k).toInt32 = v) (K : zw nX n M (pc + 2) ls (.int v :: st) h Q) : zw nX n M pc ls st h Q := by
  intro X p l e R s m args below meth c Z nE C hZ H locs a h1 h2 hP hSt hS hl
  exact lv_bipush C.1 C.2.1 hd hv (K X p l e R s m args below meth c Z nE C hZ H locs a h1 h2 hP hSt hS hl)
theorem z_sipush {k : Int} {v : Int32} (hd : decode M.2.1 pc = .ok (.sipush k, 3)) (hv : (Int16.ofInt k).toInt32 = v) (K : zw nX n M (pc + 3) ls (.int v :: st) h Q) : zw nX n M pc ls st h Q := by
  intro X p l e R s m args below meth c Z nE C hZ H locs a h1 h2 hP hSt hS hl
  exact lv_sipush C.1 C.2.1 hd hv (K X p l e R s m args below meth c Z nE C hZ H locs a h1 h2 hP hSt hS hl)
theorem z_iload_n {k : Fin 4} {i : Nat} {x : Int32} (hd : decode M.2.1 pc = .ok (.iload_n k, 1)) (hi : (k : Nat) = i) (hx : ls[i]? = some (some (.int x))) (K : zw nX n M (pc + 1) ls (.int x :: st) h Q) : zw nX n M pc ls st h Q := by
  intro X p l e R s m args below meth c Z nE C hZ H locs a h1 h2 hP hSt hS hl
  exact lv_iload_n C.1 C.2.1 hd hi (hl.2.2 i _ hx).1 (K X p l e R s m args below meth c Z nE C hZ H locs a h1 h2 hP hSt hS hl)
theorem z_iload {i : Nat} {x : Int32} (hd : decode M.2.1 pc = .ok (.iload i, 2)) (hx : ls[i]? = some (some (.int x))) (K : zw nX n M (pc + 2) ls (.int x :: st) h Q) : zw nX n M pc ls st h Q := by
  intro X p l e R s m args below meth c Z nE C hZ H locs a h1 h2 hP hSt hS hl
  exact lv_iload C.1 C.2.1 hd (hl.2.2 i _ hx).1 (K X p l e R s m args below meth c Z nE C hZ H locs a h1 h2 hP hSt hS hl)
theorem z_aload_n {k : Fin 4} {i : Nat} {x : Nat} (hd : decode M.2.1 pc = .ok (.aload_n k, 1)) (hi : (k : Nat) = i) (hx : ls[i]? = some (some (.ref x))) (K : zw nX n M (pc + 1) ls (.ref x :: st) h Q) : zw nX n M pc ls st h Q := by
  intro X p l e R s m args below meth c Z nE C hZ H locs a h1 h2 hP hSt hS hl
  have hk := K X p l e R s m args below meth c Z nE C hZ H locs a h1 h2 hP hSt hS hl
  have hv := (hl.2.2 i _ hx).1
  have e9 : zcv X (.ref x) = va_rf (zadr X x) := rfl
  change W p l e R s m args below meth c H locs _ _ Z (F0 m (pc + 1) a (zcv X (.ref x) :: st.map (zcv X))) at hk
  rw [e9] at hv hk
  cases q : zadr X x with
  | none => rw [q] at hv hk; exact lv_aload_nN C.1 C.2.1 hd hi hv hk
  | some b => rw [q] at hv hk; exact lv_aload_n C.1 C.2.1 hd hi hv hk
theorem z_aload {i : Nat} {x : Nat} (hd : decode M.2.1 pc = .ok (.aload i, 2)) (hx : ls[i]? = some (some (.ref x))) (K : zw nX n M (pc + 2) ls (.ref x :: st) h Q) : zw nX n M pc ls st h Q := by
  intro X p l e R s m args below meth c Z nE C hZ H locs a h1 h2 hP hSt hS hl
  have hk := K X p l e R s m args below meth c Z nE C hZ H locs a h1 h2 hP hSt hS hl
  have hv := (hl.2.2 i _ hx).1
  have e9 : zcv X (.ref x) = va_rf (zadr X x) := rfl
  change W p l e R s m args below meth c H locs _ _ Z (F0 m (pc + 2) a (zcv X (.ref x) :: st.map (zcv X))) at hk
  rw [e9] at hv hk
  cases q : zadr X x with
  | none => rw [q] at hv hk; exact lv_aloadN C.1 C.2.1 hd hv hk
  | some b => rw [q] at hv hk; exact lv_aload C.1 C.2.1 hd hv hk
theorem z_istore_n {k : Fin 4} {i : Nat} {x : Int32} {ls' : List (Option Value)} (hd : decode M.2.1 pc = .ok (.istore_n k, 1)) (hi : (k : Nat) = i) (hi2 : i < M.2.2.1) (hs : ls.set i (some (.int x)) = ls') (K : zw nX n M (pc + 1) ls' st h Q) : zw nX n M pc ls (.int x :: st) h Q := by
  intro X p l e R s m args below meth c Z nE C hZ H locs a h1 h2 hP hSt hS hl
  subst hi
  obtain ⟨a', e', h'⟩ := zlv.set (v := .int x) hl hi2 rfl
  rw [hs] at h'
  have hk := K X p l e R s m args below meth c Z nE C hZ H locs a' h1 h2 hP hSt hS h'
  intro T hT Y
  obtain ⟨t, q1, q2⟩ := hk T hT Y
  refine ⟨t, ?_, q2⟩
  change storeLocals a _ (Value.int x) = some a' at e'
  show Steps p.tables e below (T.setTop (F0 m pc a (Value.int x :: st.map (zcv X)))) t
  jvm_step Y.here [Y.here.top, ↓top_set Y.here.top, C.1, C.2.1, hd, e']
  exact q1
theorem z_istore  {i : Nat} {x : Int32} {ls' : List (Option Value)} (hd : decode M.2.1 pc = .ok (.istore i, 2)) (hi2 : i < M.2.2.1) (hs : ls.set i (some (.int x)) = ls') (K : zw nX n M (pc + 2) ls' st h Q) : zw nX n M pc ls (.int x :: st) h Q := by
  intro X p l e R s m args below meth c Z nE C hZ H locs a h1 h2 hP hSt hS hl
  obtain ⟨a', e', h'⟩ := zlv.set (v := .int x) hl hi2 rfl
  rw [hs] at h'
  have hk := K X p l e R s m args below meth c Z nE C hZ H locs a' h1 h2 hP hSt hS h'
  intro T hT Y
  obtain ⟨t, q1, q2⟩ := hk T hT Y
  refine ⟨t, ?_, q2⟩
  change storeLocals a _ (Value.int x) = some a' at e'
  show Steps p.tables e below (T.setTop (F0 m pc a (Value.int x :: st.map (zcv X)))) t
  jvm_step Y.here [Y.here.top, ↓top_set Y.here.top, C.1, C.2.1, hd, e']
  exact q1
theorem z_astore_n {k : Fin 4} {i : Nat} {x : Nat} {ls' : List (Option Value)} (hd : decode M.2.1 pc = .ok (.astore_n k, 1)) (hi : (k : Nat) = i) (hi2 : i < M.2.2.1) (hs : ls.set i (some (.ref x)) = ls') (K : zw nX n M (pc + 1) ls' st h Q) : zw nX n M pc ls (.ref x :: st) h Q := by
  intro X p l e R s m args below meth c Z nE C hZ H locs a h1 h2 hP hSt hS hl
  subst hi
  obtain ⟨a', e', h'⟩ := zlv.set (v := .ref x) hl hi2 (zrf_cat _)
  rw [hs] at h'
  have hk := K X p l e R s m args below meth c Z nE C hZ H locs a' h1 h2 hP hSt hS h'
  intro T hT Y
  obtain ⟨t, q1, q2⟩ := hk T hT Y
  refine ⟨t, ?_, q2⟩
  have e9 : zcv X (.ref x) = va_rf (zadr X x) := rfl
  change Steps p.tables e below (T.setTop (F0 m pc a (zcv X (.ref x) :: st.map (zcv X)))) t
  rw [e9] at e' ⊢
  cases q : zadr X x with
  | none => rw [q] at e'; change storeLocals a _ Value.null = some a' at e'; show Steps p.tables e below (T.setTop (F0 m pc a (Value.null :: st.map (zcv X)))) t; jvm_step Y.here [Y.here.top, ↓top_set Y.here.top, C.1, C.2.1, hd, e', Value.isRef]; exact q1
  | some b => rw [q] at e'; change storeLocals a _ (Value.ref b) = some a' at e'; show Steps p.tables e below (T.setTop (F0 m pc a (Value.ref b :: st.map (zcv X)))) t; jvm_step Y.here [Y.here.top, ↓top_set Y.here.top, C.1, C.2.1, hd, e', Value.isRef]; exact q1
theorem z_astore  {i : Nat} {x : Nat} {ls' : List (Option Value)} (hd : decode M.2.1 pc = .ok (.astore i, 2)) (hi2 : i < M.2.2.1) (hs : ls.set i (some (.ref x)) = ls') (K : zw nX n M (pc + 2) ls' st h Q) : zw nX n M pc ls (.ref x :: st) h Q := by
  intro X p l e R s m args below meth c Z nE C hZ H locs a h1 h2 hP hSt hS hl
  obtain ⟨a', e', h'⟩ := zlv.set (v := .ref x) hl hi2 (zrf_cat _)
  rw [hs] at h'
  have hk := K X p l e R s m args below meth c Z nE C hZ H locs a' h1 h2 hP hSt hS h'
  intro T hT Y
  obtain ⟨t, q1, q2⟩ := hk T hT Y
  refine ⟨t, ?_, q2⟩
  have e9 : zcv X (.ref x) = va_rf (zadr X x) := rfl
  change Steps p.tables e below (T.setTop (F0 m pc a (zcv X (.ref x) :: st.map (zcv X)))) t
  rw [e9] at e' ⊢
  cases q : zadr X x with
  | none => rw [q] at e'; change storeLocals a _ Value.null = some a' at e'; show Steps p.tables e below (T.setTop (F0 m pc a (Value.null :: st.map (zcv X)))) t; jvm_step Y.here [Y.here.top, ↓top_set Y.here.top, C.1, C.2.1, hd, e', Value.isRef]; exact q1
  | some b => rw [q] at e'; change storeLocals a _ (Value.ref b) = some a' at e'; show Steps p.tables e below (T.setTop (F0 m pc a (Value.ref b :: st.map (zcv X)))) t; jvm_step Y.here [Y.here.top, ↓top_set Y.here.top, C.1, C.2.1, hd, e', Value.isRef]; exact q1
theorem z_iinc {i : Nat} {k : Int} {x v : Int32} {ls' : List (Option Value)} (hd : decode M.2.1 pc = .ok (.iinc i k, 3)) (hi2 : i < M.2.2.1) (hx : ls[i]? = some (some (.int x))) (hv : x + Int32.ofInt k = v) (hs : ls.set i (some (.int v)) = ls') (K : zw nX n M (pc + 3) ls' st h Q) : zw nX n M pc ls st h Q := by
  intro X p l e R s m args below meth c Z nE C hZ H locs a h1 h2 hP hSt hS hl
  subst hv
  have hg := (hl.2.2 i _ hx).1
  change a[i]? = some (.val (.int x)) at hg
  obtain ⟨a', e', h'⟩ := zlv.set (v := .int (x + Int32.ofInt k)) hl hi2 rfl
  rw [hs] at h'
  have hk := K X p l e R s m args below meth c Z nE C hZ H locs a' h1 h2 hP hSt hS h'
  intro T hT Y
  obtain ⟨t, q1, q2⟩ := hk T hT Y
  refine ⟨t, ?_, q2⟩
  change storeLocals a _ (Value.int (x + Int32.ofInt k)) = some a' at e'
  jvm_step Y.here [Y.here.top, ↓top_set Y.here.top, C.1, C.2.1, hd, hg, e']
  exact q1
theorem z_iadd {x y : Int32} (hd : decode M.2.1 pc = .ok (.iadd, 1)) (K : zw nX n M (pc + 1) ls (.int (x + y) :: st) h Q) : zw nX n M pc ls (.int y :: .int x :: st) h Q := by
  intro X p l e R s m args below meth c Z nE C hZ H locs a h1 h2 hP hSt hS hl
  exact lv_iadd C.1 C.2.1 hd (K X p l e R s m args below meth c Z nE C hZ H locs a h1 h2 hP hSt hS hl)
theorem z_isub {x y : Int32} (hd : decode M.2.1 pc = .ok (.isub, 1)) (K : zw nX n M (pc + 1) ls (.int (x - y) :: st) h Q) : zw nX n M pc ls (.int y :: .int x :: st) h Q := by
  intro X p l e R s m args below meth c Z nE C hZ H locs a h1 h2 hP hSt hS hl
  exact lv_isub C.1 C.2.1 hd (K X p l e R s m args below meth c Z nE C hZ H locs a h1 h2 hP hSt hS hl)
theorem z_imul {x y : Int32} (hd : decode M.2.1 pc = .ok (.imul, 1)) (K : zw nX n M (pc + 1) ls (.int (x * y) :: st) h Q) : zw nX n M pc ls (.int y :: .int x :: st) h Q := by
  intro X p l e R s m args below meth c Z nE C hZ H locs a h1 h2 hP hSt hS hl
  exact lv_imul C.1 C.2.1 hd (K X p l e R s m args below meth c Z nE C hZ H locs a h1 h2 hP hSt hS hl)
theorem z_iand {x y : Int32} (hd : decode M.2.1 pc = .ok (.iand, 1)) (K : zw nX n M (pc + 1) ls (.int (x &&& y) :: st) h Q) : zw nX n M pc ls (.int y :: .int x :: st) h Q := by
  intro X p l e R s m args below meth c Z nE C hZ H locs a h1 h2 hP hSt hS hl
  exact lv_iand C.1 C.2.1 hd (K X p l e R s m args below meth c Z nE C hZ H locs a h1 h2 hP hSt hS hl)
theorem z_ior {x y : Int32} (hd : decode M.2.1 pc = .ok (.ior, 1)) (K : zw nX n M (pc + 1) ls (.int (x ||| y) :: st) h Q) : zw nX n M pc ls (.int y :: .int x :: st) h Q := by
  intro X p l e R s m args below meth c Z nE C hZ H locs a h1 h2 hP hSt hS hl
  exact lv_ior C.1 C.2.1 hd (K X p l e R s m args below meth c Z nE C hZ H locs a h1 h2 hP hSt hS hl)
theorem z_ixor {x y : Int32} (hd : decode M.2.1 pc = .ok (.ixor, 1)) (K : zw nX n M (pc + 1) ls (.int (x ^^^ y) :: st) h Q) : zw nX n M pc ls (.int y :: .int x :: st) h Q := by
  intro X p l e R s m args below meth c Z nE C hZ H locs a h1 h2 hP hSt hS hl
  exact lv_ixor C.1 C.2.1 hd (K X p l e R s m args below meth c Z nE C hZ H locs a h1 h2 hP hSt hS hl)
theorem z_ishl {x y : Int32} (hd : decode M.2.1 pc = .ok (.ishl, 1)) (K : zw nX n M (pc + 1) ls (.int (x <<< (y &&& 31)) :: st) h Q) : zw nX n M pc ls (.int y :: .int x :: st) h Q := by
  intro X p l e R s m args below meth c Z nE C hZ H locs a h1 h2 hP hSt hS hl
  exact lv_ishl C.1 C.2.1 hd (K X p l e R s m args below meth c Z nE C hZ H locs a h1 h2 hP hSt hS hl)
theorem z_ishr {x y : Int32} (hd : decode M.2.1 pc = .ok (.ishr, 1)) (K : zw nX n M (pc + 1) ls (.int (x >>> (y &&& 31)) :: st) h Q) : zw nX n M pc ls (.int y :: .int x :: st) h Q := by
  intro X p l e R s m args below meth c Z nE C hZ H locs a h1 h2 hP hSt hS hl
  exact lv_ishr C.1 C.2.1 hd (K X p l e R s m args below meth c Z nE C hZ H locs a h1 h2 hP hSt hS hl)
theorem z_idiv {x y : Int32} (hd : decode M.2.1 pc = .ok (.idiv, 1)) (hy : ¬ y = 0) (K : zw nX n M (pc + 1) ls (.int (x / y) :: st) h Q) : zw nX n M pc ls (.int y :: .int x :: st) h Q := by
  intro X p l e R s m args below meth c Z nE C hZ H locs a h1 h2 hP hSt hS hl
  exact lv_idiv C.1 C.2.1 hd hy (K X p l e R s m args below meth c Z nE C hZ H locs a h1 h2 hP hSt hS hl)
theorem z_irem {x y : Int32} (hd : decode M.2.1 pc = .ok (.irem, 1)) (hy : ¬ y = 0) (K : zw nX n M (pc + 1) ls (.int (x - x / y * y) :: st) h Q) : zw nX n M pc ls (.int y :: .int x :: st) h Q := by
  intro X p l e R s m args below meth c Z nE C hZ H locs a h1 h2 hP hSt hS hl
  exact lv_irem C.1 C.2.1 hd hy (K X p l e R s m args below meth c Z nE C hZ H locs a h1 h2 hP hSt hS hl)
theorem z_ineg {x : Int32} (hd : decode M.2.1 pc = .ok (.ineg, 1)) (K : zw nX n M (pc + 1) ls (.int (-x) :: st) h Q) : zw nX n M pc ls (.int x :: st) h Q := by
  intro X p l e R s m args below meth c Z nE C hZ H locs a h1 h2 hP hSt hS hl
  exact lv_ineg C.1 C.2.1 hd (K X p l e R s m args below meth c Z nE C hZ H locs a h1 h2 hP hSt hS hl)
theorem z_iushr {x y : Int32} (hd : decode M.2.1 pc = .ok (.iushr, 1)) (K : zw nX n M (pc + 1) ls (.int ((x.toUInt32 >>> (y.toUInt32 &&& Int32.toUInt32 31)).toInt32) :: st) h Q) : zw nX n M pc ls (.int y :: .int x :: st) h Q := by
  intro X p l e R s m args below meth c Z nE C hZ H locs a h1 h2 hP hSt hS hl
  exact lv_iushr C.1 C.2.1 hd rfl (K X p l e R s m args below meth c Z nE C hZ H locs a h1 h2 hP hSt hS hl)
theorem z_i2b {x : Int32} (hd : decode M.2.1 pc = .ok (.i2b, 1)) (K : zw nX n M (pc + 1) ls (.int (x.toInt8.toInt32) :: st) h Q) : zw nX n M pc ls (.int x :: st) h Q := by
  intro X p l e R s m args below meth c Z nE C hZ H locs a h1 h2 hP hSt hS hl
  exact lv_i2b C.1 C.2.1 hd rfl (K X p l e R s m args below meth c Z nE C hZ H locs a h1 h2 hP hSt hS hl)
theorem z_i2c {x : Int32} (hd : decode M.2.1 pc = .ok (.i2c, 1)) (K : zw nX n M (pc + 1) ls (.int ((x.toUInt32 % 65536).toInt32) :: st) h Q) : zw nX n M pc ls (.int x :: st) h Q := by
  intro X p l e R s m args below meth c Z nE C hZ H locs a h1 h2 hP hSt hS hl
  exact lv_i2c C.1 C.2.1 hd rfl (K X p l e R s m args below meth c Z nE C hZ H locs a h1 h2 hP hSt hS hl)
theorem zcat {X : zCx} {v : Value} (hv : v.category = 1) : (zcv X v).category = 1 := by
  cases v <;> first | exact hv | exact zrf_cat _
theorem z_dup {v : Value} (hd : decode M.2.1 pc = .ok (.dup, 1)) (hv : v.category = 1) (K : zw nX n M (pc + 1) ls (v :: v :: st) h Q) : zw nX n M pc ls (v :: st) h Q := by
  intro X p l e R s m args below meth c Z nE C hZ H locs a h1 h2 hP hSt hS hl
  exact lv_dup C.1 C.2.1 hd (zcat hv) (K X p l e R s m args below meth c Z nE C hZ H locs a h1 h2 hP hSt hS hl)
theorem z_pop {v : Value} (hd : decode M.2.1 pc = .ok (.pop, 1)) (hv : v.category = 1) (K : zw nX n M (pc + 1) ls st h Q) : zw nX n M pc ls (v :: st) h Q := by
  intro X p l e R s m args below meth c Z nE C hZ H locs a h1 h2 hP hSt hS hl
  exact lv_pop C.1 C.2.1 hd (zcat hv) (K X p l e R s m args below meth c Z nE C hZ H locs a h1 h2 hP hSt hS hl)
theorem z_dup2 {v w : Value} (hd : decode M.2.1 pc = .ok (.dup2, 1)) (hv : v.category = 1) (hw : w.category = 1) (K : zw nX n M (pc + 1) ls (v :: w :: v :: w :: st) h Q) : zw nX n M pc ls (v :: w :: st) h Q := by
  intro X p l e R s m args below meth c Z nE C hZ H locs a h1 h2 hP hSt hS hl
  exact lv_dup2_11 C.1 C.2.1 hd (zcat hv) (zcat hw) (K X p l e R s m args below meth c Z nE C hZ H locs a h1 h2 hP hSt hS hl)
theorem z_if_eq {x : Int32} {off : Int} {tgt : Nat} (hd : decode M.2.1 pc = .ok (.ifCond .eq off, 3)) (ht : (pc : Int) + off = (tgt : Int)) (kt : x = 0 → zw nX n M tgt ls st h Q) (kf : ¬ (x = 0) → zw nX n M (pc + 3) ls st h Q) : zw nX n M pc ls (.int x :: st) h Q := by
  intro X p l e R s m args below meth c Z nE C hZ H locs a h1 h2 hP hSt hS hl
  exact lv_if_eq C.1 C.2.1 hd ht (fun q => kt q X p l e R s m args below meth c Z nE C hZ H locs a h1 h2 hP hSt hS hl) (fun q => kf q X p l e R s m args below meth c Z nE C hZ H locs a h1 h2 hP hSt hS hl)
theorem z_icmp_eq {x y : Int32} {off : Int} {tgt : Nat} (hd : decode M.2.1 pc = .ok (.if_icmp .eq off, 3)) (ht : (pc : Int) + off = (tgt : Int)) (kt : x = y → zw nX n M tgt ls st h Q) (kf : ¬ (x = y) → zw nX n M (pc + 3) ls st h Q) : zw nX n M pc ls (.int y :: .int x :: st) h Q := by
  intro X p l e R s m args below meth c Z nE C hZ H locs a h1 h2 hP hSt hS hl
  exact lv_icmp_eq C.1 C.2.1 hd ht (fun q => kt q X p l e R s m args below meth c Z nE C hZ H locs a h1 h2 hP hSt hS hl) (fun q => kf q X p l e R s m args below meth c Z nE C hZ H locs a h1 h2 hP hSt hS hl)
theorem z_if_ne {x : Int32} {off : Int} {tgt : Nat} (hd : decode M.2.1 pc = .ok (.ifCond .ne off, 3)) (ht : (pc : Int) + off = (tgt : Int)) (kt : ¬ x = 0 → zw nX n M tgt ls st h Q) (kf : x = 0 → zw nX n M (pc + 3) ls st h Q) : zw nX n M pc ls (.int x :: st) h Q := by
  intro X p l e R s m args below meth c Z nE C hZ H locs a h1 h2 hP hSt hS hl
  exact lv_if_ne C.1 C.2.1 hd ht (fun q => kt q X p l e R s m args below meth c Z nE C hZ H locs a h1 h2 hP hSt hS hl) (fun q => kf q X p l e R s m args below meth c Z nE C hZ H locs a h1 h2 hP hSt hS hl)
theorem z_icmp_ne {x y : Int32} {off : Int} {tgt : Nat} (hd : decode M.2.1 pc = .ok (.if_icmp .ne off, 3)) (ht : (pc : Int) + off = (tgt : Int)) (kt : ¬ x = y → zw nX n M tgt ls st h Q) (kf : x = y → zw nX n M (pc + 3) ls st h Q) : zw nX n M pc ls (.int y :: .int x :: st) h Q := by
  intro X p l e R s m args below meth c Z nE C hZ H locs a h1 h2 hP hSt hS hl
  exact lv_icmp_ne C.1 C.2.1 hd ht (fun q => kt q X p l e R s m args below meth c Z nE C hZ H locs a h1 h2 hP hSt hS hl) (fun q => kf q X p l e R s m args below meth c Z nE C hZ H locs a h1 h2 hP hSt hS hl)
theorem z_if_lt {x : Int32} {off : Int} {tgt : Nat} (hd : decode M.2.1 pc = .ok (.ifCond .lt off, 3)) (ht : (pc : Int) + off = (tgt : Int)) (kt : x < 0 → zw nX n M tgt ls st h Q) (kf : ¬ (x < 0) → zw nX n M (pc + 3) ls st h Q) : zw nX n M pc ls (.int x :: st) h Q := by
  intro X p l e R s m args below meth c Z nE C hZ H locs a h1 h2 hP hSt hS hl
  exact lv_if_lt C.1 C.2.1 hd ht (fun q => kt q X p l e R s m args below meth c Z nE C hZ H locs a h1 h2 hP hSt hS hl) (fun q => kf q X p l e R s m args below meth c Z nE C hZ H locs a h1 h2 hP hSt hS hl)
theorem z_icmp_lt {x y : Int32} {off : Int} {tgt : Nat} (hd : decode M.2.1 pc = .ok (.if_icmp .lt off, 3)) (ht : (pc : Int) + off = (tgt : Int)) (kt : x < y → zw nX n M tgt ls st h Q) (kf : ¬ (x < y) → zw nX n M (pc + 3) ls st h Q) : zw nX n M pc ls (.int y :: .int x :: st) h Q := by
  intro X p l e R s m args below meth c Z nE C hZ H locs a h1 h2 hP hSt hS hl
  exact lv_icmp_lt C.1 C.2.1 hd ht (fun q => kt q X p l e R s m args below meth c Z nE C hZ H locs a h1 h2 hP hSt hS hl) (fun q => kf q X p l e R s m args below meth c Z nE C hZ H locs a h1 h2 hP hSt hS hl)
theorem z_if_ge {x : Int32} {off : Int} {tgt : Nat} (hd : decode M.2.1 pc = .ok (.ifCond .ge off, 3)) (ht : (pc : Int) + off = (tgt : Int)) (kt : 0 ≤ x → zw nX n M tgt ls st h Q) (kf : ¬ (0 ≤ x) → zw nX n M (pc + 3) ls st h Q) : zw nX n M pc ls (.int x :: st) h Q := by
  intro X p l e R s m args below meth c Z nE C hZ H locs a h1 h2 hP hSt hS hl
  exact lv_if_ge C.1 C.2.1 hd ht (fun q => kt q X p l e R s m args below meth c Z nE C hZ H locs a h1 h2 hP hSt hS hl) (fun q => kf q X p l e R s m args below meth c Z nE C hZ H locs a h1 h2 hP hSt hS hl)
theorem z_icmp_ge {x y : Int32} {off : Int} {tgt : Nat} (hd : decode M.2.1 pc = .ok (.if_icmp .ge off, 3)) (ht : (pc : Int) + off = (tgt : Int)) (kt : y ≤ x → zw nX n M tgt ls st h Q) (kf : ¬ (y ≤ x) → zw nX n M (pc + 3) ls st h Q) : zw nX n M pc ls (.int y :: .int x :: st) h Q := by
  intro X p l e R s m args below meth c Z nE C hZ H locs a h1 h2 hP hSt hS hl
  exact lv_icmp_ge C.1 C.2.1 hd ht (fun q => kt q X p l e R s m args below meth c Z nE C hZ H locs a h1 h2 hP hSt hS hl) (fun q => kf q X p l e R s m args below meth c Z nE C hZ H locs a h1 h2 hP hSt hS hl)
theorem z_if_gt {x : Int32} {off : Int} {tgt : Nat} (hd : decode M.2.1 pc = .ok (.ifCond .gt off, 3)) (ht : (pc : Int) + off = (tgt : Int)) (kt : 0 < x → zw nX n M tgt ls st h Q) (kf : ¬ (0 < x) → zw nX n M (pc + 3) ls st h Q) : zw nX n M pc ls (.int x :: st) h Q := by
  intro X p l e R s m args below meth c Z nE C hZ H locs a h1 h2 hP hSt hS hl
  exact lv_if_gt C.1 C.2.1 hd ht (fun q => kt q X p l e R s m args below meth c Z nE C hZ H locs a h1 h2 hP hSt hS hl) (fun q => kf q X p l e R s m args below meth c Z nE C hZ H locs a h1 h2 hP hSt hS hl)
theorem z_icmp_gt {x y : Int32} {off : Int} {tgt : Nat} (hd : decode M.2.1 pc = .ok (.if_icmp .gt off, 3)) (ht : (pc : Int) + off = (tgt : Int)) (kt : y < x → zw nX n M tgt ls st h Q) (kf : ¬ (y < x) → zw nX n M (pc + 3) ls st h Q) : zw nX n M pc ls (.int y :: .int x :: st) h Q := by
  intro X p l e R s m args below meth c Z nE C hZ H locs a h1 h2 hP hSt hS hl
  exact lv_icmp_gt C.1 C.2.1 hd ht (fun q => kt q X p l e R s m args below meth c Z nE C hZ H locs a h1 h2 hP hSt hS hl) (fun q => kf q X p l e R s m args below meth c Z nE C hZ H locs a h1 h2 hP hSt hS hl)
theorem z_if_le {x : Int32} {off : Int} {tgt : Nat} (hd : decode M.2.1 pc = .ok (.ifCond .le off, 3)) (ht : (pc : Int) + off = (tgt : Int)) (kt : x ≤ 0 → zw nX n M tgt ls st h Q) (kf : ¬ (x ≤ 0) → zw nX n M (pc + 3) ls st h Q) : zw nX n M pc ls (.int x :: st) h Q := by
  intro X p l e R s m args below meth c Z nE C hZ H locs a h1 h2 hP hSt hS hl
  exact lv_if_le C.1 C.2.1 hd ht (fun q => kt q X p l e R s m args below meth c Z nE C hZ H locs a h1 h2 hP hSt hS hl) (fun q => kf q X p l e R s m args below meth c Z nE C hZ H locs a h1 h2 hP hSt hS hl)
theorem z_icmp_le {x y : Int32} {off : Int} {tgt : Nat} (hd : decode M.2.1 pc = .ok (.if_icmp .le off, 3)) (ht : (pc : Int) + off = (tgt : Int)) (kt : x ≤ y → zw nX n M tgt ls st h Q) (kf : ¬ (x ≤ y) → zw nX n M (pc + 3) ls st h Q) : zw nX n M pc ls (.int y :: .int x :: st) h Q := by
  intro X p l e R s m args below meth c Z nE C hZ H locs a h1 h2 hP hSt hS hl
  exact lv_icmp_le C.1 C.2.1 hd ht (fun q => kt q X p l e R s m args below meth c Z nE C hZ H locs a h1 h2 hP hSt hS hl) (fun q => kf q X p l e R s m args below meth c Z nE C hZ H locs a h1 h2 hP hSt hS hl)
theorem z_goto {off : Int} {tgt : Nat} (hd : decode M.2.1 pc = .ok (.goto off, 3)) (ht : (pc : Int) + off = (tgt : Int)) (K : zw nX n M tgt ls st h Q) : zw nX n M pc ls st h Q := by
  intro X p l e R s m args below meth c Z nE C hZ H locs a h1 h2 hP hSt hS hl
  exact lv_goto C.1 C.2.1 hd ht (K X p l e R s m args below meth c Z nE C hZ H locs a h1 h2 hP hSt hS hl)
theorem z_tableIn {dflt lo hi off : Int} {offs : Array Int} {len tgt : Nat} {x : Int32} (hd : decode M.2.1 pc = .ok (.tableswitch dflt lo hi offs, len)) (hx1 : ¬ x.toInt < lo) (hx2 : ¬ hi < x.toInt) (ho : offs[(x.toInt - lo).toNat]? = some off) (ht : (pc : Int) + off = (tgt : Int)) (K : zw nX n M tgt ls st h Q) : zw nX n M pc ls (.int x :: st) h Q := by
  intro X p l e R s m args below meth c Z nE C hZ H locs a h1 h2 hP hSt hS hl
  exact lv_tableIn C.1 C.2.1 hd hx1 hx2 ho ht (K X p l e R s m args below meth c Z nE C hZ H locs a h1 h2 hP hSt hS hl)
theorem z_tableOut {dflt lo hi : Int} {offs : Array Int} {len tgt : Nat} {x : Int32} (hd : decode M.2.1 pc = .ok (.tableswitch dflt lo hi offs, len)) (hx : x.toInt < lo ∨ hi < x.toInt) (ht : (pc : Int) + dflt = (tgt : Int)) (K : zw nX n M tgt ls st h Q) : zw nX n M pc ls (.int x :: st) h Q := by
  intro X p l e R s m args below meth c Z nE C hZ H locs a h1 h2 hP hSt hS hl
  exact lv_tableOut C.1 C.2.1 hd hx ht (K X p l e R s m args below meth c Z nE C hZ H locs a h1 h2 hP hSt hS hl)
theorem z_lookup {dflt off : Int} {ps : Array (Int × Int)} {len tgt : Nat} {x : Int32} (hd : decode M.2.1 pc = .ok (.lookupswitch dflt ps, len)) (hp : (ps.toList.zip (ps.toList.drop 1)).all (fun (a, next) => a.1 < next.1) = true) (ho : Op.lookupswitch.offset ps.toList dflt x.toInt = off) (ht : (pc : Int) + off = (tgt : Int)) (K : zw nX n M tgt ls st h Q) : zw nX n M pc ls (.int x :: st) h Q := by
  intro X p l e R s m args below meth c Z nE C hZ H locs a h1 h2 hP hSt hS hl
  exact lv_lookup C.1 C.2.1 hd hp ho ht (K X p l e R s m args below meth c Z nE C hZ H locs a h1 h2 hP hSt hS hl)
theorem z_sub {ls' : List (Option Value)} (hs : ∀ (i : Nat) (v : Value), ls'[i]? = some (some v) → ls[i]? = some (some v)) (K : zw nX n M pc ls' st h Q) : zw nX n M pc ls st h Q := by
  intro X p l e R s m args below meth c Z nE C hZ H locs a h1 h2 hP hSt hS hl
  exact K X p l e R s m args below meth c Z nE C hZ H locs a h1 h2 hP hSt hS ⟨hl.1, hl.2.1, fun i v hv => hl.2.2 i v (hs i v hv)⟩
theorem z_ireturn {x : Int32} (hd : decode M.2.1 pc = .ok (.ireturn, 1)) (hn : n = nX) (hr : zRet M.2.2.2.1 (some (.int x))) (K : Q (some (.int x)) h) : zw nX n M pc ls [.int x] h Q := by
  intro X p l e R s m args below meth c Z nE C hZ H locs a h1 h2 hP hSt hS hl
  subst hn
  exact hZ (some (.int x)) h H locs a pc K hr hP hSt hS hd
theorem z_return  (hd : decode M.2.1 pc = .ok (.return_, 1)) (hn : n = nX) (hr : zRet M.2.2.2.1 (none)) (K : Q (none) h) : zw nX n M pc ls [] h Q := by
  intro X p l e R s m args below meth c Z nE C hZ H locs a h1 h2 hP hSt hS hl
  subst hn
  exact hZ (none) h H locs a pc K hr hP hSt hS hd
theorem z_areturn {x : Nat} (hd : decode M.2.1 pc = .ok (.areturn, 1)) (hn : n = nX) (hr : zRet M.2.2.2.1 (some (.ref x))) (K : Q (some (.ref x)) h) : zw nX n M pc ls [.ref x] h Q := by
  intro X p l e R s m args below meth c Z nE C hZ H locs a h1 h2 hP hSt hS hl
  subst hn
  exact hZ (some (.ref x)) h H locs a pc K hr hP hSt hS hd
end ZRules
end
section
/-! rules of zw for fields, arrays, what was there before, new cells -/
/-- a field's link: own class, entry; the class's number and the field's place -/
def zLk (own : String) (idx ci k : Nat) : Prop := ∃ (C : String) (T : u_T) (N : Nat), vwCl[ci]? = some (C, T, N) ∧ k < N ∧ (Cond.fieldLink own idx (T k).1 (T k).2.1 (T k).2.2.1 ∈ zT) ∧ (∀ w ∈ u_ws C T N, w ∈ zT) ∧ (∀ j, j < N → parseFieldDescriptor (T j).2.2.1 = some (zfty ci j)) ∧ (∀ a, a < N → ∀ b, b < N → a ≠ b → (T a).2.1 ≠ (T b).2.1) ∧ (∀ c, ly c = ci + 1 → ln c = N) ∧ ci < 12 ∧ (∀ j, (T j).1 = C)
section ZHeap
variable {nX n : Nat} {M : zMI} {pc : Nat} {ls : List (Option Value)} {st : List Value} {h : zHp} {Q : Option Value → zHp → Prop}
theorem z_getI {idx ci k c : Nat} (hd : decode M.2.1 pc = .ok (.getfield idx, 3)) (hL : zLk M.1.cls idx ci k) (hf : zrf (zfty ci k) = false) (hc : ly c = ci + 1) (hn : c < n) (K : zw nX n M (pc + 3) ls (.int (rI h c k) :: st) h Q) : zw nX n M pc ls (.ref c :: st) h Q := by
  intro X p l e R s m args below meth cd Z nE C hZ H locs a h1 h2 hP hSt hS hl
  obtain ⟨Cn, T, N, q1, q2, q3, q4, q5, q6, q7, q8, q9⟩ := hL
  have hc1 : c < 1000 := Nat.lt_trans (zly_lt (by omega)) (by decide)
  have hk := K X p l e R s m args below meth cd Z nE C hZ H locs a h1 h2 hP hSt hS hl
  have e9 : zfv X h c ci k = .int (rI h c k) := by unfold zfv; rw [hf]; rfl
  show W p l e R s m args below meth cd H locs _ _ Z (F0 m pc a (zcv X (.ref c) :: st.map (zcv X)))
  rw [zcv_ref hc1]
  exact va_get (D := zD X) (ci := ci) (v := .int (rI h c k)) (C := Cn) (T := T) (N := N) C.1 C.2.1 C.2.2.2.2.1 q4 C.2.2.2.1 C.2.2.2.2.2.2.2.1 hP c (by rw [zwl_at hn, zent_obj hc q8]) q1 k q2 (C.2.2.2.2.1 _ q3) (fun _ h9 => h9) (by rw [zfs_at (by rw [q7 c hc]; exact q2), e9]) hd hk
theorem z_getR {idx ci k c i : Nat} (hd : decode M.2.1 pc = .ok (.getfield idx, 3)) (hL : zLk M.1.cls idx ci k) (hf : zrf (zfty ci k) = true) (hc : ly c = ci + 1) (hn : c < n) (hi : rR h c k = some i) (K : zw nX n M (pc + 3) ls (.ref i :: st) h Q) : zw nX n M pc ls (.ref c :: st) h Q := by
  intro X p l e R s m args below meth cd Z nE C hZ H locs a h1 h2 hP hSt hS hl
  obtain ⟨Cn, T, N, q1, q2, q3, q4, q5, q6, q7, q8, q9⟩ := hL
  have hc1 : c < 1000 := Nat.lt_trans (zly_lt (by omega)) (by decide)
  have hk := K X p l e R s m args below meth cd Z nE C hZ H locs a h1 h2 hP hSt hS hl
  have e9 : zfv X h c ci k = zcv X (.ref i) := by
    unfold zfv
    rw [hf, if_pos rfl]
    change h.2 c k = some i at hi
    rw [hi]
    rfl
  show W p l e R s m args below meth cd H locs _ _ Z (F0 m pc a (zcv X (.ref c) :: st.map (zcv X)))
  rw [zcv_ref hc1]
  exact va_get (D := zD X) (ci := ci) (v := zcv X (.ref i)) (C := Cn) (T := T) (N := N) C.1 C.2.1 C.2.2.2.2.1 q4 C.2.2.2.1 C.2.2.2.2.2.2.2.1 hP c (by rw [zwl_at hn, zent_obj hc q8]) q1 k q2 (C.2.2.2.2.1 _ q3) (fun _ h9 => h9) (by rw [zfs_at (by rw [q7 c hc]; exact q2), e9]) hd hk
theorem zent_wI {X : zCx} {h : zHp} {c ci k : Nat} {v : Int32} (hc : ly c = ci + 1) (hci : ci < 12) (hk : k < ln c) (hf : zrf (zfty ci k) = false) : zent X (wI h c k v) c = .inr (ci, ((List.range (ln c)).map (zfv X h c ci)).set k (.int v)) := by
  rw [zent_obj hc hci, zfs_set (h' := wI h c k v) hk]
  · unfold zfv
    rw [hf]
    simp [wI]
  · intro j hj
    unfold zfv wI
    simp [hj]
theorem zent_wR {X : zCx} {h : zHp} {c ci k : Nat} {v : Option Nat} (hc : ly c = ci + 1) (hci : ci < 12) (hk : k < ln c) (hf : zrf (zfty ci k) = true) : zent X (wR h c k v) c = .inr (ci, ((List.range (ln c)).map (zfv X h c ci)).set k (va_rf (v.bind (zadr X)))) := by
  rw [zent_obj hc hci, zfs_set (h' := wR h c k v) hk]
  · unfold zfv
    rw [hf]
    simp [wR]
  · intro j hj
    unfold zfv wR
    simp [hj]
theorem z_putI {idx ci k c : Nat} {v : Int32} (hd : decode M.2.1 pc = .ok (.putfield idx, 3)) (hL : zLk M.1.cls idx ci k) (hf : zrf (zfty ci k) = false) (hfin : ∀ (q : vw_C), vwCl[ci]? = some q → (q.2.1 k).2.2.2 = false) (hc : ly c = ci + 1) (hn : c < n) (hv : narrow (zfty ci k) (.int v) = .int v) (hv2 : fits (zfty ci k) (.int v) = true) (K : zw nX n M (pc + 3) ls st (wI h c k v) Q) : zw nX n M pc ls (.int v :: .ref c :: st) h Q := by
  intro X p l e R s m args below meth cd Z nE C hZ H locs a h1 h2 hP hSt hS hl
  obtain ⟨Cn, T, N, q1, q2, q3, q4, q5, q6, q7, q8, q9⟩ := hL
  have hc1 : c < 1000 := Nat.lt_trans (zly_lt (by omega)) (by decide)
  have hN := q7 c hc
  show W p l e R s m args below meth cd H locs _ _ Z (F0 m pc a (.int v :: zcv X (.ref c) :: st.map (zcv X)))
  rw [zcv_ref hc1]
  refine va_put (D := zD X) (ci := ci) (v := .int v) (ty := zfty ci k) (C := Cn) (T := T) (N := N) C.1 C.2.1 C.2.2.2.2.1 q4 (zfty ci) q5 q6 C.2.2.2.1 C.2.2.2.2.2.2.2.1 hP zwl_D hS c (by rw [zwl_at hn, zent_obj hc q8]) q1 k q2 (C.2.2.2.2.1 _ q3) (fun _ h9 => h9) (hfin _ q1) (q5 k q2) hv hv2 (by simp [hN, q2]) hd (fun H1 locs1 hP1 _ hS1 => ?_)
  rw [zwl_set (h' := wI h c k v) hn (zent_wI hc q8 (by rw [hN]; exact q2) hf) (fun d hd => zent_other (wI_ne hd) rfl)] at hP1
  exact K X p l e R s m args below meth cd Z nE C hZ H1 locs1 a h1 h2 hP1 (hSt.wI hc1) hS1 hl
theorem z_putF {idx ci k c i : Nat} (hd : decode M.2.1 pc = .ok (.putfield idx, 3)) (hL : zLk M.1.cls idx ci k) (hf : zrf (zfty ci k) = true) (hfin : ∀ (q : vw_C), vwCl[ci]? = some q → (q.2.1 k).2.2.2 = true ∧ q.1 = M.1.cls) (hin : M.1.name = "<init>") (hc : ly c = ci + 1) (hn : c < n) (hi : i < 1000) (K : zw nX n M (pc + 3) ls st (wR h c k (some i)) Q) : zw nX n M pc ls (.ref i :: .ref c :: st) h Q := by
  intro X p l e R s m args below meth cd Z nE C hZ H locs a h1 h2 hP hSt hS hl
  obtain ⟨Cn, T, N, q1, q2, q3, q4, q5, q6, q7, q8, q9⟩ := hL
  have hc1 : c < 1000 := Nat.lt_trans (zly_lt (by omega)) (by decide)
  have hN := q7 c hc
  show W p l e R s m args below meth cd H locs _ _ Z (F0 m pc a (zcv X (.ref i) :: zcv X (.ref c) :: st.map (zcv X)))
  rw [zcv_ref hc1, zcv_ref hi]
  have hty : (∃ nm, zfty ci k = .object nm) ∨ ∃ t, zfty ci k = .array t := by
    cases q : zfty ci k <;> rw [q] at hf <;> first | exact Or.inl ⟨_, rfl⟩ | exact Or.inr ⟨_, rfl⟩ | cases hf
  refine va_putF (D := zD X) (ci := ci) (v := .ref (X.1 + i)) (ty := zfty ci k) (C := Cn) (T := T) (N := N) C.1 C.2.1 C.2.2.2.2.1 q4 (zfty ci) q5 q6 C.2.2.2.1 C.2.2.2.2.2.2.2.1 hP zwl_D hS c (by rw [zwl_at hn, zent_obj hc q8]) q1 k q2 (C.2.2.2.2.1 _ q3) (fun _ h9 => h9) (hfin _ q1).1 (by rw [C.2.2.2.2.2.1]; exact hin) ((q9 k).trans (hfin _ q1).2) (q5 k q2) (by rcases hty with ⟨nm, e1⟩ | ⟨t, e1⟩ <;> rw [e1] <;> rfl) (by rcases hty with ⟨nm, e1⟩ | ⟨t, e1⟩ <;> rw [e1] <;> rfl) (by simp [hN, q2]) hd (fun H1 locs1 hP1 _ hS1 => ?_)
  have e9 : zent X (wR h c k (some i)) c = .inr (ci, ((List.range (ln c)).map (zfv X h c ci)).set k (.ref (X.1 + i))) := by
    rw [zent_wR hc q8 (by rw [hN]; exact q2) hf]
    congr 3
    show va_rf (zadr X i) = _
    unfold zadr
    rw [if_pos hi]
    rfl
  rw [zwl_set (h := h) (h' := wR h c k (some i)) hn e9 (fun d hd => zent_other rfl (wR_ne hd))] at hP1
  exact K X p l e R s m args below meth cd Z nE C hZ H1 locs1 a h1 h2 hP1 hSt.wR hS1 hl
theorem z_iald {c j : Nat} {i : Int32} (hd : decode M.2.1 pc = .ok (.iaload, 1)) (hc : ly c = 21) (hn : c < n) (hin : vp_in i (ln c)) (hj : i.toNatClampNeg = j) (K : zw nX n M (pc + 1) ls (.int (rI h c j) :: st) h Q) : zw nX n M pc ls (.int i :: .ref c :: st) h Q := by
  intro X p l e R s m args below meth cd Z nE C hZ H locs a h1 h2 hP hSt hS hl
  subst hj
  have hc1 : c < 1000 := Nat.lt_trans (zly_lt (by omega)) (by decide)
  show W p l e R s m args below meth cd H locs _ _ Z (F0 m pc a (.int i :: zcv X (.ref c) :: st.map (zcv X)))
  rw [zcv_ref hc1]
  exact va_iald (f := h.1 c) (cA := X.2.2.2.2 21) C.1 C.2.1 C.2.2.2.2.2.2.2.1 hP c 1 (by rw [zwl_at hn, zent_int hc]) (by rw [ztys_at (by decide)]; rfl) hin hd (K X p l e R s m args below meth cd Z nE C hZ H locs a h1 h2 hP hSt hS hl)
theorem z_bald {c j : Nat} {i : Int32} (hd : decode M.2.1 pc = .ok (.baload, 1)) (hc : ly c = 20) (hn : c < n) (hin : vp_in i (ln c)) (hj : i.toNatClampNeg = j) (K : zw nX n M (pc + 1) ls (.int (rI h c j) :: st) h Q) : zw nX n M pc ls (.int i :: .ref c :: st) h Q := by
  intro X p l e R s m args below meth cd Z nE C hZ H locs a h1 h2 hP hSt hS hl
  subst hj
  have hc1 : c < 1000 := Nat.lt_trans (zly_lt (by omega)) (by decide)
  show W p l e R s m args below meth cd H locs _ _ Z (F0 m pc a (.int i :: zcv X (.ref c) :: st.map (zcv X)))
  rw [zcv_ref hc1]
  exact va_bald (f := h.1 c) (cA := X.2.2.2.2 20) C.1 C.2.1 C.2.2.2.2.2.2.2.1 hP c 0 (by rw [zwl_at hn, zent_byte hc]) (by rw [ztys_at (by decide)]; rfl) hin hd (K X p l e R s m args below meth cd Z nE C hZ H locs a h1 h2 hP hSt hS hl)
theorem wI_upd {h : zHp} {c k : Nat} {v : Int32} : (wI h c k v).1 c = upd (h.1 c) k v := by
  funext b
  simp [wI, upd]
theorem z_iast {c j : Nat} {i v : Int32} (hd : decode M.2.1 pc = .ok (.iastore, 1)) (hc : ly c = 21) (hn : c < n) (hin : vp_in i (ln c)) (hj : i.toNatClampNeg = j) (K : zw nX n M (pc + 1) ls st (wI h c j v) Q) : zw nX n M pc ls (.int v :: .int i :: .ref c :: st) h Q := by
  intro X p l e R s m args below meth cd Z nE C hZ H locs a h1 h2 hP hSt hS hl
  subst hj
  have hc1 : c < 1000 := Nat.lt_trans (zly_lt (by omega)) (by decide)
  show W p l e R s m args below meth cd H locs _ _ Z (F0 m pc a (.int v :: .int i :: zcv X (.ref c) :: st.map (zcv X)))
  rw [zcv_ref hc1]
  refine va_iast (f := h.1 c) (cA := X.2.2.2.2 21) C.1 C.2.1 C.2.2.2.2.2.2.2.1 hP zwl_D hS c 1 (by rw [zwl_at hn, zent_int hc]) (by rw [ztys_at (by decide)]; rfl) hin hd (fun H1 locs1 hP1 _ hS1 => ?_)
  rw [zwl_set (h' := wI h c i.toNatClampNeg v) hn (by rw [zent_int hc, wI_upd]) (fun d hd => zent_other (wI_ne hd) rfl)] at hP1
  exact K X p l e R s m args below meth cd Z nE C hZ H1 locs1 a h1 h2 hP1 (hSt.wI hc1) hS1 hl
theorem z_bast {c j : Nat} {i v : Int32} (hd : decode M.2.1 pc = .ok (.bastore, 1)) (hc : ly c = 20) (hn : c < n) (hin : vp_in i (ln c)) (hj : i.toNatClampNeg = j) (K : zw nX n M (pc + 1) ls st (wI h c j v.toInt8.toInt32) Q) : zw nX n M pc ls (.int v :: .int i :: .ref c :: st) h Q := by
  intro X p l e R s m args below meth cd Z nE C hZ H locs a h1 h2 hP hSt hS hl
  subst hj
  have hc1 : c < 1000 := Nat.lt_trans (zly_lt (by omega)) (by decide)
  show W p l e R s m args below meth cd H locs _ _ Z (F0 m pc a (.int v :: .int i :: zcv X (.ref c) :: st.map (zcv X)))
  rw [zcv_ref hc1]
  refine va_bast (f := h.1 c) (cA := X.2.2.2.2 20) C.1 C.2.1 C.2.2.2.2.2.2.2.1 hP zwl_D hS c 0 (by rw [zwl_at hn, zent_byte hc]) (by rw [ztys_at (by decide)]; rfl) hin hd (fun H1 locs1 hP1 _ hS1 => ?_)
  rw [vp_nar_byte, zwl_set (h' := wI h c i.toNatClampNeg v.toInt8.toInt32) hn (by rw [zent_byte hc, wI_upd]) (fun d hd => zent_other (wI_ne hd) rfl)] at hP1
  exact K X p l e R s m args below meth cd Z nE C hZ H1 locs1 a h1 h2 hP1 (hSt.wI hc1) hS1 hl
theorem zly_27 {c : Nat} : ly c ≤ 27 := ly_27 c
theorem zty_ref {k : Nat} (h1 : 22 ≤ k) : ∃ C, zty k = .object C := by
  unfold zty
  split <;> first | omega | exact ⟨_, rfl⟩
theorem z_aald {c j r : Nat} {i : Int32} (hd : decode M.2.1 pc = .ok (.aaload, 1)) (hc : 22 ≤ ly c) (hn : c < n) (hin : vp_in i (ln c)) (hj : i.toNatClampNeg = j) (hr : rR h c j = some r) (K : zw nX n M (pc + 1) ls (.ref r :: st) h Q) : zw nX n M pc ls (.int i :: .ref c :: st) h Q := by
  intro X p l e R s m args below meth cd Z nE C hZ H locs a h1 h2 hP hSt hS hl
  subst hj
  have hc1 : c < 1000 := Nat.lt_trans (zly_lt (by omega)) (by decide)
  have hc2 : ly c ≤ 27 := zly_27
  obtain ⟨E, hE⟩ := zty_ref hc
  change h.2 c _ = some r at hr
  have hk := K X p l e R s m args below meth cd Z nE C hZ H locs a h1 h2 hP hSt hS hl
  show W p l e R s m args below meth cd H locs _ _ Z (F0 m pc a (.int i :: zcv X (.ref c) :: st.map (zcv X)))
  rw [zcv_ref hc1]
  refine va_aldq (C := E) C.1 C.2.1 C.2.2.2.2.2.2.2.1 hP c (ly c - 20) (by rw [zwl_at hn, zent_ref hc]) (by rw [ztys_at (by omega), show 20 + (ly c - 20) = ly c by omega, hE]) hin hd ?_
  rw [hr]
  exact hk
theorem wR_upd {h : zHp} {X : zCx} {c k r : Nat} (hr : r < 1000) : (fun b => ((wR h c k (some r)).2 c b).bind (zadr X)) = va_up (fun b => (h.2 c b).bind (zadr X)) k (some (X.1 + r)) := by
  funext b
  simp only [wR, va_up]
  by_cases hb : b = k
  · simp [hb, zadr, hr]
  · simp [hb]
theorem z_aast {c j r ci : Nat} {i : Int32} (hd : decode M.2.1 pc = .ok (.aastore, 1)) (hc : 22 ≤ ly c) (hn : c < n) (hin : vp_in i (ln c)) (hj : i.toNatClampNeg = j) (hr : ly r = ci + 1) (hrn : r < n) (hci : ci < 12) (hcl : ∀ q : vw_C, vwCl[ci]? = some q → zty (ly c) = .object q.1) (K : zw nX n M (pc + 1) ls st (wR h c j (some r)) Q) : zw nX n M pc ls (.ref r :: .int i :: .ref c :: st) h Q := by
  intro X p l e R s m args below meth cd Z nE C hZ H locs a h1 h2 hP hSt hS hl
  subst hj
  have hc1 : c < 1000 := Nat.lt_trans (zly_lt (by omega)) (by decide)
  have hr1 : r < 1000 := Nat.lt_trans (zly_lt (by omega)) (by decide)
  have hc2 : ly c ≤ 27 := zly_27
  obtain ⟨q, hq⟩ : ∃ q, vwCl[ci]? = some q := ⟨vwCl[ci]'hci, List.getElem?_eq_getElem hci⟩
  show W p l e R s m args below meth cd H locs _ _ Z (F0 m pc a (zcv X (.ref r) :: .int i :: zcv X (.ref c) :: st.map (zcv X)))
  rw [zcv_ref hc1, zcv_ref hr1]
  refine va_astq (r := q) C.1 C.2.1 C.2.2.2.2.2.2.2.1 hP zwl_D hS c (ly c - 20) r ci (by rw [zwl_at hn, zent_ref hc]) (by rw [ztys_at (by omega), show 20 + (ly c - 20) = ly c by omega, hcl q hq]) (by rw [zwl_at hrn, zent_obj hr hci]) hq hin hd (fun H1 locs1 hP1 _ hS1 => ?_)
  rw [zwl_set (h := h) (h' := wR h c i.toNatClampNeg (some r)) hn (by rw [zent_ref hc, wR_upd hr1]) (fun d hd => zent_other rfl (wR_ne hd))] at hP1
  exact K X p l e R s m args below meth cd Z nE C hZ H1 locs1 a h1 h2 hP1 hSt.wR hS1 hl
theorem z_alen {c : Nat} (hd : decode M.2.1 pc = .ok (.arraylength, 1)) (hc : 22 ≤ ly c) (hn : c < n) (K : zw nX n M (pc + 1) ls (.int (nI (ln c)) :: st) h Q) : zw nX n M pc ls (.ref c :: st) h Q := by
  intro X p l e R s m args below meth cd Z nE C hZ H locs a h1 h2 hP hSt hS hl
  have hc1 : c < 1000 := Nat.lt_trans (zly_lt (by omega)) (by decide)
  have hc2 : ly c ≤ 27 := zly_27
  show W p l e R s m args below meth cd H locs _ _ Z (F0 m pc a (zcv X (.ref c) :: st.map (zcv X)))
  rw [zcv_ref hc1]
  exact va_alen (x := (ln c, .inr (.inr (.inr (.inr (fun k => (h.2 c k).bind (zadr X))))))) (cA := X.2.2.2.2 (ly c)) C.1 C.2.1 C.2.2.2.2.2.2.2.1 hP c (ly c - 20) (by rw [zwl_at hn, zent_ref hc]) (ty := zty (ly c)) (by rw [ztys_at (by omega), show 20 + (ly c - 20) = ly c by omega]) rfl hd (K X p l e R s m args below meth cd Z nE C hZ H locs a h1 h2 hP hSt hS hl)
end ZHeap
end
section
/-! calls: a method's contract is its judgement at its entry -/
def zEn (M : zMI) (args : List Value) : List (Option Value) := args.map some ++ List.replicate (M.2.2.1 - args.length) none
/-- the call of M with args at cells h, when n cells are made -/
def zcall (nX n : Nat) (M : zMI) (args : List Value) (h : zHp) (Q : Option Value → zHp → Prop) : Prop := zw nX n M 0 (zEn M args) [] h Q
/-- what is known of a method -/
def zOk (M : zMI) : Prop := plainName M.1.cls = true ∧ Cond.code M.1 M.2.1 M.2.2.1 M.2.2.2.1 ∈ zT ∧ Cond.initialized M.1.cls ∈ zT ∧ (M.1.cls ≠ "java/lang/invoke/MethodHandle" ∧ M.1.cls ≠ "java/lang/invoke/VarHandle")
theorem zgood : zT.all goodWord = true := List.all_eq_true.mpr (fun _ hw => (zT_in.mp hw).2)
noncomputable def zws (M : zMI) : List Cond := .code M.1 M.2.1 M.2.2.1 M.2.2.2.1 :: zT
theorem zgoodIn {M : zMI} (h : zOk M) : GoodIn zT (zws M) := by
  intro w hw
  rcases List.mem_cons.mp hw with e | e
  · subst e
    exact ⟨h.2.1, good_of_word (List.all_eq_true.mp zgood _ h.2.1)⟩
  · exact ⟨e, good_of_word (List.all_eq_true.mp zgood _ e)⟩
def zrm (M : zMI) (mc ms : Nat) : Room := { frames := M.2.2.2.2.1, cells := mc, slots := ms, locals := M.2.2.2.2.2 }
def zPc (X : zCx) (args : List Value) (h : zHp) (n : Nat) : Array Value → State → Prop := va_Pc (args.map (zcv X)) (fun U => U.heap.size = X.1 + n ∧ va_P (zD X) vwCl (zwl X h n) U.heap ∧ va_K (zD X) vwCl (ztys X) U ∧ zSta X h U)
def zQc (X : zCx) (nX : Nat) (Q : Option Value → zHp → Prop) : Array Value → State → Outcome → State → Prop := fun _ st oc t => ∃ (r : Option Value) (h' : zHp), oc = .returned (r.map (zcv X)) ∧ Q r h' ∧ va_P (zD X) vwCl (zwl X h' nX) t.heap ∧ zSta X h' st ∧ va_F (zA X) st t
theorem zEn_at {M : zMI} {args : List Value} {i : Nat} {v : Value} (h : (zEn M args)[i]? = some (some v)) : args[i]? = some v := by
  unfold zEn at h
  by_cases hi : i < args.length
  · rw [List.getElem?_append_left (by simpa using hi), List.getElem?_map] at h
    cases e : args[i]? with
    | none => rw [e] at h; cases h
    | some w => rw [e] at h; cases h; rfl
  · rw [List.getElem?_append_right (by simpa using hi), List.getElem?_replicate] at h
    split at h
    · cases h
    · cases h
theorem zargs_sl {vs : List Value} (h : ∀ v ∈ vs, v.category = 1) : (lg_sl vs) = vs.map Slot.val := by
  induction vs with
  | nil => rfl
  | cons v vs ih =>
    have h1 := h v List.mem_cons_self
    have h2 := ih (fun w hw => h w (List.mem_cons_of_mem _ hw))
    unfold lg_sl at h2 ⊢
    rw [List.flatMap_cons, h2, if_neg (by omega)]
    rfl
theorem zargs_at {vs : List Value} (h : ∀ v ∈ vs, v.category = 1) : ∀ (j i : Nat) (v : Value), vs[i]? = some v → (j + i, v) ∈ lv_args j vs := by
  induction vs with
  | nil => intro j i v hv; simp at hv
  | cons w vs ih =>
    intro j i v hv
    have h1 := h w List.mem_cons_self
    unfold lv_args
    cases i with
    | zero =>
      rw [List.getElem?_cons_zero] at hv
      cases hv
      exact List.mem_cons_self
    | succ i =>
      rw [List.getElem?_cons_succ] at hv
      refine List.mem_cons_of_mem _ ?_
      rw [if_neg (by omega)]
      have := ih (fun z hz => h z (List.mem_cons_of_mem _ hz)) (j + 1) i v hv
      rwa [show j + (i + 1) = j + 1 + i by omega]
theorem zMet {nX n : Nat} {M : zMI} {args : List Value} {h : zHp} {Q : Option Value → zHp → Prop} (ok : zOk M) (hn : n ≤ nX) (hcat : ∀ v ∈ args, v.category = 1) (hlen : args.length ≤ M.2.2.1) (K : zcall nX n M args h Q) (l : Launch) (X : zCx) :
    Met l M.1 (zws M) (zrm M (nX - n) (zsl nX - zsl n)) (zPc X args h n) (zQc X nX Q) (nX - n) (zsl nX - zsl n) (zA X) := by
  refine Met.ofW (cc := M.2.1) (maxL := M.2.2.1) (ret := M.2.2.2.1) ok.1 rfl ?_
  intro p e s m args' below meth c s₁ B hml hv
  obtain ⟨rfl, hsz, hP, hK, hSt⟩ := hv
  have hr := B.returns
  have hts := atoms_spec (ws := zws M) B.pre
  have hown : s.vm.findClass M.1.cls = some m.cls := findClass_of_methodNamed B.named
  have hlocks := B.notSynchronized
  have hnm : meth.name = M.1.name := (name_of_methodNamed B.named B.method).1
  have hC : zC X M nX n p (headSpec (zws M) (zrm M (nX - n) (zsl nX - zsl n))).room s m (args.map (zcv X)).toArray meth c :=
    ⟨B.exec, B.bytes, hml, hown, fun w hw => hts w (List.mem_cons_of_mem _ hw), hnm, hsz, hK, ⟨Nat.le_refl _, Nat.le_refl _⟩, Nat.le_refl _, Nat.le_refl _⟩
  have hcat' : ∀ v ∈ args.map (zcv X), v.category = 1 := by
    intro v hv
    obtain ⟨w, hw, rfl⟩ := List.mem_map.mp hv
    exact zcat (hcat w hw)
  have hl := lv_entry (args.map (zcv X)) (n := M.2.2.1) (by rw [zargs_sl hcat']; simpa using hlen)
  rw [lg_entry_eq]
  generalize (lg_sl (args.map (zcv X)) ++ List.replicate (M.2.2.1 - (lg_sl (args.map (zcv X))).length) Slot.unset).toArray = ls at hl ⊢
  have hlv : zlv X ls M.2.2.1 (zEn M args) := by
    refine ⟨hl.1, hl.2.1, fun i v hi => ?_⟩
    have h1 := zEn_at hi
    refine ⟨?_, zcat (hcat v (List.mem_of_getElem? h1))⟩
    have h2 : (args.map (zcv X))[i]? = some (zcv X v) := by rw [List.getElem?_map, h1]; rfl
    have h3 := hl.2.2 _ (zargs_at hcat' 0 i _ h2)
    rwa [Nat.zero_add] at h3
  have hk := K X p l e _ s m (args.map (zcv X)).toArray below meth c (MQ below (zQc X nX Q) (args.map (zcv X)).toArray s (nX - n) (zsl nX - zsl n) (zA X)) n hC ?_ s.heap [] ls (Nat.le_refl _) hn hP hSt va_S.rf hlv
  · rw [Nat.sub_self, Nat.sub_self] at hk
    exact hk
  · intro r h' H' locs' lsA pc' hQ hret hP' hSt' hS' hdec
    cases r with
    | none =>
      have hr' : meth.sig.returnType = none := by
        cases q : M.2.2.2.1 with
        | none => rw [hr, q]
        | some ty => rw [q] at hret; exact absurd hret id
      exact W.vret B.exec B.bytes hr' (fun t ht hW => ⟨none, h', rfl, hQ, by rw [ht]; exact hP', hSt', hS'.F ht⟩) hS'.2.2 hdec
    | some v =>
      cases v with
      | int v =>
        cases q : M.2.2.2.1 with
        | none => rw [q] at hret; exact absurd hret id
        | some ty =>
          rw [q] at hret
          exact W.zret (ty := ty) B.exec B.bytes (hr.trans q) hret.2 (fun t ht hW => ⟨some (.int v), h', rfl, hQ, by rw [ht]; exact hP', hSt', hS'.F ht⟩) hS'.2.2 hdec
      | ref v =>
        cases q : M.2.2.2.1 with
        | none => rw [q] at hret; exact absurd hret id
        | some ty =>
          rw [q] at hret
          have hty : (∃ nm, ty = .object nm) ∨ ∃ t, ty = .array t := by
            change zrf ty = true at hret
            cases ty <;> first | exact Or.inl ⟨_, rfl⟩ | exact Or.inr ⟨_, rfl⟩ | cases hret
          exact W.aret (v := zcv X (.ref v)) (rt := ty) B.exec B.bytes (hr.trans q) hty (by show va_rf (zadr X v) = _ ∨ ∃ a, va_rf (zadr X v) = .ref a; cases zadr X v <;> first | exact Or.inl rfl | exact Or.inr ⟨_, rfl⟩) (fun t ht hW => ⟨some (.ref v), h', rfl, hQ, by rw [ht]; exact hP', hSt', hS'.F ht⟩) hS'.2.2 hdec
      | null => exfalso; revert hret; cases M.2.2.2.1 <;> exact id
      | long v => exfalso; revert hret; cases M.2.2.2.1 <;> exact id
      | float v => exfalso; revert hret; cases M.2.2.2.1 <;> exact id
      | double v => exfalso; revert hret; cases M.2.2.2.1 <;> exact id
      | retAddr v => exfalso; revert hret; cases M.2.2.2.1 <;> exact id
section ZCalls
variable {nX n : Nat} {M : zMI} {pc : Nat} {ls : List (Option Value)} {st : List Value} {h : zHp} {Q : Option Value → zHp → Prop}
theorem zPc_blind {X : zCx} {args : List Value} {h : zHp} {n : Nat} : FrameBlind (zPc X args h n) := by
  intro a U g mk q
  obtain ⟨q0, q1, q2, q3, q4⟩ := q
  obtain ⟨⟨t0, a1, a2, a3⟩, ⟨t1, b1, b2, b3⟩, c1, d1, ⟨adK, adV, e1, e2, e3⟩, ⟨b, L, f1, f2, f3, f4, f5⟩, g1, g2, g3⟩ := q4
  have hv : U.vm.Alike (U.calling g mk a).vm := Vm.Alike.refl U.vm
  exact ⟨q0, q1, q2, va_K.moved (u := U) hv q3, ⟨t0, a1, a2.moved hv, a3.moved hv⟩, ⟨t1, b1, b2.moved hv, b3.moved hv⟩, c1.moved hv, d1.moved hv, ⟨adK, adV, e1, e2.moved hv, fun q hm => (e3 q hm).same rfl⟩, ⟨b, L, f1, f2, f3, f4.moved hv, f5⟩, fun q hm => va_Nw.same rfl rfl (g1 q hm), fun q hm => va_Nw.same rfl rfl (g2 q hm), fun C hm => (g3 C hm).moved hv⟩
theorem zcats {X : zCx} {st : List Value} (h : ∀ v ∈ st, v.category = 1) : ((st.map (zcv X)).map fun v => v.category).sum = st.length := by
  induction st with
  | nil => rfl
  | cons v st ih =>
    have h1 := zcat (X := X) (h v List.mem_cons_self)
    have h2 := ih (fun w hw => h w (List.mem_cons_of_mem _ hw))
    simp only [List.map_cons, List.sum_cons, List.length_cons]
    rw [h1, h2]
    omega
theorem zSta.back {X : zCx} {h h' : zHp} {s U : State} {H : Heap} {locs : List Loc} (hs : zSta X h s) (hu : zSta X h' U) (hS : va_S (zA X) s.heap H locs) (hU : U.heap = H) : zSta X h' s := by
  obtain ⟨a, b, c, d, e, ⟨b0, L, f1, f2, f3, ⟨scr, g1, g2, g3, g4, g5⟩, f5, f6⟩, g9⟩ := hs
  obtain ⟨-, -, -, -, -, ⟨b1, L', k1, k2, k3, ⟨scr', l1, l2, l3, l4, l5⟩, k5, k6⟩, -⟩ := hu
  have hb : b1 = b0 := Option.some.inj (k1.symm.trans f1)
  subst hb
  have hsc : scr' = scr := by
    rw [hU, hS.2.1 b1 f5 f6, g1] at l1
    exact (Option.some.inj l1).symm
  subst hsc
  exact ⟨a, b, c, d, e, ⟨b1, L', f1, k2, k3, ⟨scr', g1, g2, g3, l4, l5⟩, f5, f6⟩, g9⟩
/-- behind a call -/
theorem zbehind {X : zCx} {p : Program} {l : Launch} {e : Env} {R : Room} {s : State} {m : MethodId} {args : Array Value} {below : List Frame} {meth : Method} {c : Code} {Z : State → Prop} {nE nY : Nat} {H : Heap} {locs : List Loc} {a : Array Slot} {st0 : List Value} {N : zMI} {av : Array Value}
    (C : zC X M nX nE p R s m args meth c) (hZ : zHd X M nX nE p l e R s m args below meth c Z Q) (h1 : nE ≤ n) (hY : n ≤ nY) (hYX : nY ≤ nX) (hS : va_S (zA X) s.heap H locs) (hl : zlv X a M.2.2.1 ls) (hsl : zsl nE ≤ zsl n) (hsl2 : zsl n ≤ zsl nY)
    (hr : va_Run p l e R s m args below meth c H locs (n - nE) (zsl n - zsl nE) (nY - n) (zsl nY - zsl n) (F0 m pc a st0) (st.map (zcv X)) (zQc X nY (fun r h' => zw nX nY M (pc + 3) ls (r.toList ++ st) h' Q) av) (zA X))
    (hSt : zSta X h s) : W p l e R s m args below meth c H locs (n - nE) (zsl n - zsl nE) Z (F0 m pc a st0) := by
  intro T hT Y
  obtain ⟨v, st₀, t, T', L, e0, Y', hL, e1, e2, ⟨r, h', ev, hw, hP', hSt', hF⟩, step⟩ := hr T hT Y
  cases ev
  obtain ⟨hz, hk⟩ := hF
  rw [e0] at hz hk
  have hS' : va_S (zA X) s.heap T'.heap (locs ++ L) := by
    refine ⟨Nat.le_trans hS.1 (by rw [e1]; exact hz), fun q q1 q2 => by rw [e1, hk q (Nat.lt_of_lt_of_le q1 hS.1) q2]; exact hS.2.1 q q1 q2, fun q hq => ?_⟩
    rcases List.mem_append.mp hq with z | z
    · exact hS.2.2 q z
    · exact hL q z
  have hk2 := hw X p l e R s m args below meth c Z nE C hZ T'.heap (locs ++ L) a (Nat.le_trans h1 hY) hYX (by rw [e1]; exact hP') (hSt.back hSt' hS e0) hS' hl
  rw [show n - nE + (nY - n) = nY - nE by omega, show zsl n - zsl nE + (zsl nY - zsl n) = zsl nY - zsl nE by omega] at Y'
  obtain ⟨t2, a1, b1⟩ := hk2 T' rfl Y'
  refine ⟨t2, step t2 ?_, b1⟩
  have e9 : (r.toList ++ st).map (zcv X) = (r.map (zcv X)).toList ++ st.map (zcv X) := by cases r <;> rfl
  rw [e9] at a1
  exact a1
end ZCalls
end
section
/-! rules of zw for calls and new cells -/
theorem zsl_mono {a b : Nat} (h : a ≤ b) : zsl a ≤ zsl b := by
  obtain ⟨d, rfl⟩ := Nat.exists_eq_add_of_le h
  induction d with
  | zero => exact Nat.le_refl _
  | succ d ih =>
    have h1 := ih (by omega)
    rw [← Nat.add_assoc, zsl_succ]
    omega
theorem zsize {X : zCx} {p : Program} {l : Launch} {e : Env} {R : Room} {s : State} {m : MethodId} {args : Array Value} {below : List Frame} {meth : Method} {c : Code} {nE n : Nat} {h : zHp} {T : State} {H : Heap} {locs : List Loc} {slots : Nat} (hsz : s.heap.size = X.1 + nE) (h1 : nE ≤ n) (hP : va_P (zD X) vwCl (zwl X h n) H) (hS : va_S (zA X) s.heap H locs) (hT : T.heap = H) (Y : Stand p l e R s m args below meth c T locs (n - nE) slots) : H.size = X.1 + n := by
  have a1 := Y.heapSize
  rw [hT, hsz] at a1
  have a2 : X.1 + n ≤ H.size := by
    rcases Nat.eq_zero_or_pos n with q | q
    · have := hS.1
      omega
    · have h3 := (hP (n - 1) _ (zwl_at (by omega))).lt
      have h4 : X.1 + (n - 1) < H.size := h3
      omega
  omega
def zLink (own : String) (idx : Nat) (N : zMI) : Prop := Cond.methodLink own idx N.1 ∈ zT ∨ ∃ host, (own, idx, N.1, host) ∈ zNM
/-- how many parameters a method's descriptor has -/
def zPar (N : zMI) (k : Nat) : Prop := (parseMethodDescriptor N.1.desc).map (fun d => d.parameters.length) = some k
def zRm (M N : zMI) : Prop := N.2.2.2.2.1 + 1 ≤ M.2.2.2.2.1 ∧ 8 + (N.2.2.1 + 11) + N.2.2.2.2.2 ≤ M.2.2.2.2.2
theorem zcat_cons {c : Nat} {As : List Value} (h : ∀ v ∈ As, v.category = 1) : ∀ v ∈ (Value.ref c :: As), v.category = 1 := by
  intro v hv
  rcases List.mem_cons.mp hv with q | q
  · rw [q]
    rfl
  · exact h v q
section ZInv
variable {nX n nY : Nat} {M N : zMI} {pc : Nat} {ls : List (Option Value)} {st st0 As : List Value} {h : zHp} {Q : Option Value → zHp → Prop}
theorem z_invV {idx c ci : Nat} (hd : decode M.2.1 pc = .ok (.invokevirtual idx, 3)) (ok : zOk N) (hL : zLink M.1.cls idx N) (hI : Cond.instanceMethod N.1 ∈ zT ∧ Cond.selects N.1.cls N.1 N.1 ∈ zT) (hpar : zPar N As.length) (hR : zRm M N) (hc : ly c = ci + 1) (hcn : c < n) (hcl : ∀ q : vw_C, vwCl[ci]? = some q → q.1 = N.1.cls) (hci : ci < 12) (hcat : ∀ v ∈ As, v.category = 1) (hcat2 : ∀ v ∈ st, v.category = 1) (hst : st.length ≤ 8) (hY : n ≤ nY) (hYX : nY ≤ nX) (hlen : As.length + 1 ≤ N.2.2.1) (hst0 : st0 = As.reverse ++ .ref c :: st) (K : zcall nY n N (.ref c :: As) h (fun r h' => zw nX nY M (pc + 3) ls (r.toList ++ st) h' Q)) : zw nX n M pc ls st0 h Q := by
  intro X p l e R s m args below meth cd Z nE C hZ H locs a h1 h2 hP hSt hS hl
  intro T hT Y
  have hsz := zsize C.2.2.2.2.2.2.1 h1 hP hS hT Y
  have hc1 : c < 1000 := Nat.lt_trans (zly_lt (by omega)) (by decide)
  have hM := zMet ok hY (zcat_cons hcat) (by simpa using hlen) K l X
  obtain ⟨q, hq⟩ : ∃ q, vwCl[ci]? = some q := ⟨vwCl[ci]'hci, List.getElem?_eq_getElem hci⟩
  obtain ⟨hRf, hRl⟩ := C.2.2.2.2.2.2.2.2.1
  have hp : PreV s H N.1.cls (X.1 + c) (zPc X (.ref c :: As) h n) (As.map (zcv X)) := by
    refine ⟨zPc_blind, ?_, fun U hU hW => ⟨by rw [List.map_cons, zcv_ref hc1], by rw [hU]; exact hsz, by rw [hU]; exact hP, va_K.moved hW.alike C.2.2.2.2.2.2.2.1, hSt.move hS hU hW⟩⟩
    obtain ⟨cell, g1, g2, g3⟩ := va_recv C.2.2.2.2.2.2.2.1 hP hq (q0 := c) (by rw [zwl_at hcn, zent_obj hc hci])
    exact ⟨cell, g1, g2, by rw [← hcl q hq]; exact g3⟩
  have hst9 : st0.map (zcv X) = (As.map (zcv X)).reverse ++ .ref (X.1 + c) :: st.map (zcv X) := by
    rw [hst0, List.map_append, List.map_reverse, List.map_cons, zcv_ref hc1]
  have hfit : n - nE + (nY - n) ≤ R.cells ∧ zsl n - zsl nE + (zsl nY - zsl n) ≤ R.slots := by
    have z1 := zsl_mono h1
    have z2 := zsl_mono hY
    have z3 := zsl_mono hYX
    have := C.2.2.2.2.2.2.2.2.2
    omega
  suffices key : W p l e R s m args below meth cd H locs (n - nE) (zsl n - zsl nE) Z (F0 m pc a (st0.map (zcv X))) from key T hT Y
  refine zbehind (st := st) C hZ h1 hY hYX hS hl (zsl_mono h1) (zsl_mono hY) ?_ hSt (N := N) (av := (Value.ref (X.1 + c) :: As.map (zcv X)).toArray)
  rcases hL with hL | ⟨host, hL⟩
  · exact va_runV (C := N.1.cls) ⟨C.1, C.2.1, C.2.2.1, C.2.2.2.1, C.2.2.2.2.1⟩ hM ⟨callB_of (R := R) As.length C.2.2.2.2.1 (zgoodIn ok) rfl rfl rfl (C.2.2.2.2.1 _ ok.2.2.1) (C.2.2.2.2.1 _ hL) ⟨ok.2.2.2.1, ok.2.2.2.2, hpar⟩ ⟨Nat.le_trans hR.1 hRf, Nat.le_trans hR.2 hRl⟩, C.2.2.2.2.1 _ hI.1, C.2.2.2.2.1 _ hI.2⟩ hp rfl (by simp) hl.1 hst9 (lv_room (by rw [zcats hcat2]; exact hst)) hd hfit
  · exact va_runVN (C := N.1.cls) (host := host) ⟨C.1, C.2.1, C.2.2.1, C.2.2.2.1, C.2.2.2.2.1⟩ hM ⟨va_cnB (R := R) As.length C.2.2.2.2.1 (zgoodIn ok) rfl rfl rfl (hSt.2.2.2.2.2.2.1 _ hL) (C.2.2.2.2.1 _ ok.2.2.1) ⟨ok.2.2.2.1, ok.2.2.2.2, hpar⟩ ⟨Nat.le_trans hR.1 hRf, Nat.le_trans hR.2 hRl⟩, C.2.2.2.2.1 _ hI.1, C.2.2.2.2.1 _ hI.2⟩ hp rfl (by simp) hl.1 hst9 (lv_room (by rw [zcats hcat2]; exact hst)) hd hfit
theorem z_invS {idx : Nat} (hd : decode M.2.1 pc = .ok (.invokestatic idx, 3)) (ok : zOk N) (hL : zLink M.1.cls idx N) (hI : Cond.static N.1 ∈ zT) (hpar : zPar N As.length) (hR : zRm M N) (hcat : ∀ v ∈ As, v.category = 1) (hcat2 : ∀ v ∈ st, v.category = 1) (hst : st.length ≤ 8) (hY : n ≤ nY) (hYX : nY ≤ nX) (hlen : As.length ≤ N.2.2.1) (hst0 : st0 = As.reverse ++ st) (K : zcall nY n N As h (fun r h' => zw nX nY M (pc + 3) ls (r.toList ++ st) h' Q)) : zw nX n M pc ls st0 h Q := by
  intro X p l e R s m args below meth cd Z nE C hZ H locs a h1 h2 hP hSt hS hl
  intro T hT Y
  have hsz := zsize C.2.2.2.2.2.2.1 h1 hP hS hT Y
  have hM := zMet ok hY hcat hlen K l X
  obtain ⟨hRf, hRl⟩ := C.2.2.2.2.2.2.2.2.1
  have hp : PreS s H (zPc X As h n) (As.map (zcv X)) := by
    refine ⟨zPc_blind, fun U hU hW => ⟨rfl, by rw [hU]; exact hsz, by rw [hU]; exact hP, va_K.moved hW.alike C.2.2.2.2.2.2.2.1, hSt.move hS hU hW⟩⟩
  have hst9 : st0.map (zcv X) = (As.map (zcv X)).reverse ++ st.map (zcv X) := by
    rw [hst0, List.map_append, List.map_reverse]
  have hfit : n - nE + (nY - n) ≤ R.cells ∧ zsl n - zsl nE + (zsl nY - zsl n) ≤ R.slots := by
    have z1 := zsl_mono h1
    have z2 := zsl_mono hY
    have z3 := zsl_mono hYX
    have := C.2.2.2.2.2.2.2.2.2
    omega
  suffices key : W p l e R s m args below meth cd H locs (n - nE) (zsl n - zsl nE) Z (F0 m pc a (st0.map (zcv X))) from key T hT Y
  refine zbehind (st := st) C hZ h1 hY hYX hS hl (zsl_mono h1) (zsl_mono hY) ?_ hSt (N := N) (av := (As.map (zcv X)).toArray)
  rcases hL with hL | ⟨host, hL⟩
  · exact va_runS ⟨C.1, C.2.1, C.2.2.1, C.2.2.2.1, C.2.2.2.2.1⟩ hM ⟨callB_of (R := R) As.length C.2.2.2.2.1 (zgoodIn ok) rfl rfl rfl (C.2.2.2.2.1 _ ok.2.2.1) (C.2.2.2.2.1 _ hL) ⟨ok.2.2.2.1, ok.2.2.2.2, hpar⟩ ⟨Nat.le_trans hR.1 hRf, Nat.le_trans hR.2 hRl⟩, C.2.2.2.2.1 _ hI⟩ hp rfl (by simp) hl.1 hst9 (lv_room (by rw [zcats hcat2]; exact hst)) hd hfit
  · exact va_runSN (host := host) ⟨C.1, C.2.1, C.2.2.1, C.2.2.2.1, C.2.2.2.2.1⟩ hM ⟨va_cnB (R := R) As.length C.2.2.2.2.1 (zgoodIn ok) rfl rfl rfl (hSt.2.2.2.2.2.2.1 _ hL) (C.2.2.2.2.1 _ ok.2.2.1) ⟨ok.2.2.2.1, ok.2.2.2.2, hpar⟩ ⟨Nat.le_trans hR.1 hRf, Nat.le_trans hR.2 hRl⟩, C.2.2.2.2.1 _ hI, trivial⟩ hp rfl (by simp) hl.1 hst9 (lv_room (by rw [zcats hcat2]; exact hst)) hd hfit
theorem z_invI {idx c : Nat} (hd : decode M.2.1 pc = .ok (.invokespecial idx, 3)) (ok : zOk N) (hL : zLink M.1.cls idx N) (hI : Cond.instanceMethod N.1 ∈ zT ∧ N.1.name = "<init>" ∧ N.2.2.2.1 = none) (hpar : zPar N As.length) (hR : zRm M N) (hc : c < 1000) (hcat : ∀ v ∈ As, v.category = 1) (hcat2 : ∀ v ∈ st, v.category = 1) (hst : st.length ≤ 8) (hY : n ≤ nY) (hYX : nY ≤ nX) (hlen : As.length + 1 ≤ N.2.2.1) (hst0 : st0 = As.reverse ++ .ref c :: st) (K : zcall nY n N (.ref c :: As) h (fun r h' => zw nX nY M (pc + 3) ls (r.toList ++ st) h' Q)) : zw nX n M pc ls st0 h Q := by
  intro X p l e R s m args below meth cd Z nE C hZ H locs a h1 h2 hP hSt hS hl
  intro T hT Y
  have hsz := zsize C.2.2.2.2.2.2.1 h1 hP hS hT Y
  have hM := zMet ok hY (zcat_cons hcat) (by simpa using hlen) K l X
  obtain ⟨hRf, hRl⟩ := C.2.2.2.2.2.2.2.2.1
  have hp : PreS s H (zPc X (.ref c :: As) h n) (.ref (X.1 + c) :: As.map (zcv X)) := by
    refine ⟨zPc_blind, fun U hU hW => ⟨by rw [List.map_cons, zcv_ref hc], by rw [hU]; exact hsz, by rw [hU]; exact hP, va_K.moved hW.alike C.2.2.2.2.2.2.2.1, hSt.move hS hU hW⟩⟩
  have hst9 : st0.map (zcv X) = (As.map (zcv X)).reverse ++ .ref (X.1 + c) :: st.map (zcv X) := by
    rw [hst0, List.map_append, List.map_reverse, List.map_cons, zcv_ref hc]
  have hfit : n - nE + (nY - n) ≤ R.cells ∧ zsl n - zsl nE + (zsl nY - zsl n) ≤ R.slots := by
    have z1 := zsl_mono h1
    have z2 := zsl_mono hY
    have z3 := zsl_mono hYX
    have := C.2.2.2.2.2.2.2.2.2
    omega
  have hw : zws N = Cond.code N.1 N.2.1 N.2.2.1 none :: zT := by
    unfold zws
    rw [hI.2.2]
  suffices key : W p l e R s m args below meth cd H locs (n - nE) (zsl n - zsl nE) Z (F0 m pc a (st0.map (zcv X))) from key T hT Y
  refine zbehind (st := st) C hZ h1 hY hYX hS hl (zsl_mono h1) (zsl_mono hY) ?_ hSt (N := N) (av := (Value.ref (X.1 + c) :: As.map (zcv X)).toArray)
  rcases hL with hL | ⟨host, hL⟩
  · exact va_runI ⟨C.1, C.2.1, C.2.2.1, C.2.2.2.1, C.2.2.2.2.1⟩ hM ⟨callB_of (R := R) As.length C.2.2.2.2.1 (zgoodIn ok) hw rfl rfl (C.2.2.2.2.1 _ ok.2.2.1) (C.2.2.2.2.1 _ hL) ⟨ok.2.2.2.1, ok.2.2.2.2, hpar⟩ ⟨Nat.le_trans hR.1 hRf, Nat.le_trans hR.2 hRl⟩, hI.2.1, C.2.2.2.2.1 _ hI.1⟩ hp rfl (by simp) hl.1 hst9 (lv_room (by rw [zcats hcat2]; exact hst)) hd hfit
  · exact va_runIN (host := host) ⟨C.1, C.2.1, C.2.2.1, C.2.2.2.1, C.2.2.2.2.1⟩ hM ⟨va_cnB (R := R) As.length C.2.2.2.2.1 (zgoodIn ok) hw rfl rfl (hSt.2.2.2.2.2.2.1 _ hL) (C.2.2.2.2.1 _ ok.2.2.1) ⟨ok.2.2.2.1, ok.2.2.2.2, hpar⟩ ⟨Nat.le_trans hR.1 hRf, Nat.le_trans hR.2 hRl⟩, hI.2.1, C.2.2.2.2.1 _ hI.1⟩ hp rfl (by simp) hl.1 hst9 (lv_room (by rw [zcats hcat2]; exact hst)) hd hfit
end ZInv
end
section
/-! rules of zw: Object's constructor, Math, arraycopy, constants, statics, the script, new cells -/
section ZPrim
variable {nX n : Nat} {M : zMI} {pc : Nat} {ls : List (Option Value)} {st : List Value} {h : zHp} {Q : Option Value → zHp → Prop}
theorem z_obj {idx c : Nat} (hd : decode M.2.1 pc = .ok (.invokespecial idx, 3)) (hL : Cond.methodLink M.1.cls idx Lib.objectInit ∈ zT ∧ Cond.instanceMethod Lib.objectInit ∈ zT ∧ Cond.code Lib.objectInit ⟨#[0xb1]⟩ 1 none ∈ zT) (hc : c < 1000) (hcat2 : ∀ v ∈ st, v.category = 1) (hR : 1 ≤ M.2.2.2.2.1 ∧ st.length + 12 ≤ M.2.2.2.2.2) (K : zw nX n M (pc + 3) ls st h Q) : zw nX n M pc ls (.ref c :: st) h Q := by
  intro X p l e R s m args below meth cd Z nE C hZ H locs a h1 h2 hP hSt hS hl
  obtain ⟨hRf, hRl⟩ := C.2.2.2.2.2.2.2.2.1
  show W p l e R s m args below meth cd H locs _ _ Z (F0 m pc a (zcv X (.ref c) :: st.map (zcv X)))
  rw [zcv_ref hc]
  refine W.objInit C.1 C.2.1 C.2.2.2.1 (C.2.2.2.2.1 _ hL.1) (C.2.2.2.2.1 _ hL.2.1) (C.2.2.2.2.1 _ hL.2.2) rfl (by rw [C.2.2.1]; exact hl.1) rfl hd (Nat.le_trans hR.1 hRf) ?_ (K X p l e R s m args below meth cd Z nE C hZ H locs a h1 h2 hP hSt hS hl)
  rw [zcats hcat2]
  exact Nat.le_trans (by show 2 * 0 + st.length + 12 ≤ _; omega) hRl
theorem z_max {idx : Nat} {x y : Int32} (hd : decode M.2.1 pc = .ok (.invokestatic idx, 3)) (hL : Cond.methodLink M.1.cls idx Lib.Math.max.name ∈ zT ∧ Cond.static Lib.Math.max.name ∈ zT ∧ Cond.initialized "java/lang/Math" ∈ zT ∧ Cond.code Lib.Math.max.name Lib.Math.max.code 2 (some .int) ∈ zT) (hcat2 : ∀ v ∈ st, v.category = 1) (hR : 1 ≤ M.2.2.2.2.1 ∧ st.length + 13 ≤ M.2.2.2.2.2) (K : zw nX n M (pc + 3) ls (.int (if x < y then y else x) :: st) h Q) : zw nX n M pc ls (.int y :: .int x :: st) h Q := by
  intro X p l e R s m args below meth cd Z nE C hZ H locs a h1 h2 hP hSt hS hl
  obtain ⟨hRf, hRl⟩ := C.2.2.2.2.2.2.2.2.1
  have hfit := C.2.2.2.2.2.2.2.2.2
  have z1 := zsl_mono h2
  exact va_mmax C.1 C.2.1 (by rw [C.2.2.1]; exact hl.1.symm) C.2.2.2.1 (C.2.2.2.2.1 _ hL.1) (C.2.2.2.2.1 _ hL.2.1) (C.2.2.2.2.1 _ hL.2.2.1) (C.2.2.2.2.1 _ hL.2.2.2) (Nat.le_trans hR.1 hRf) (by rw [zcats hcat2]; exact Nat.le_trans hR.2 hRl) (by omega) (by omega) hd (K X p l e R s m args below meth cd Z nE C hZ H locs a h1 h2 hP hSt hS hl)
theorem z_min {idx : Nat} {x y : Int32} (hd : decode M.2.1 pc = .ok (.invokestatic idx, 3)) (hL : Cond.methodLink M.1.cls idx Lib.Math.min.name ∈ zT ∧ Cond.static Lib.Math.min.name ∈ zT ∧ Cond.initialized "java/lang/Math" ∈ zT ∧ Cond.code Lib.Math.min.name Lib.Math.min.code 2 (some .int) ∈ zT) (hcat2 : ∀ v ∈ st, v.category = 1) (hR : 1 ≤ M.2.2.2.2.1 ∧ st.length + 13 ≤ M.2.2.2.2.2) (K : zw nX n M (pc + 3) ls (.int (if y < x then y else x) :: st) h Q) : zw nX n M pc ls (.int y :: .int x :: st) h Q := by
  intro X p l e R s m args below meth cd Z nE C hZ H locs a h1 h2 hP hSt hS hl
  obtain ⟨hRf, hRl⟩ := C.2.2.2.2.2.2.2.2.1
  have hfit := C.2.2.2.2.2.2.2.2.2
  have z1 := zsl_mono h2
  exact va_mmin C.1 C.2.1 (by rw [C.2.2.1]; exact hl.1.symm) C.2.2.2.1 (C.2.2.2.2.1 _ hL.1) (C.2.2.2.2.1 _ hL.2.1) (C.2.2.2.2.1 _ hL.2.2.1) (C.2.2.2.2.1 _ hL.2.2.2) (Nat.le_trans hR.1 hRf) (by rw [zcats hcat2]; exact Nat.le_trans hR.2 hRl) (by omega) (by omega) hd (K X p l e R s m args below meth cd Z nE C hZ H locs a h1 h2 hP hSt hS hl)
theorem z_abs {idx : Nat} {x : Int32} (hd : decode M.2.1 pc = .ok (.invokestatic idx, 3)) (hL : Cond.methodLink M.1.cls idx Lib.Math.abs.name ∈ zT ∧ Cond.static Lib.Math.abs.name ∈ zT ∧ Cond.initialized "java/lang/Math" ∈ zT ∧ Cond.code Lib.Math.abs.name Lib.Math.abs.code 1 (some .int) ∈ zT) (hcat2 : ∀ v ∈ st, v.category = 1) (hR : 1 ≤ M.2.2.2.2.1 ∧ st.length + 13 ≤ M.2.2.2.2.2) (K : zw nX n M (pc + 3) ls (.int (if 0 ≤ x then x else 0 - x) :: st) h Q) : zw nX n M pc ls (.int x :: st) h Q := by
  intro X p l e R s m args below meth cd Z nE C hZ H locs a h1 h2 hP hSt hS hl
  obtain ⟨hRf, hRl⟩ := C.2.2.2.2.2.2.2.2.1
  have hfit := C.2.2.2.2.2.2.2.2.2
  have z1 := zsl_mono h2
  exact va_mabs C.1 C.2.1 (by rw [C.2.2.1]; exact hl.1.symm) C.2.2.2.1 (C.2.2.2.2.1 _ hL.1) (C.2.2.2.2.1 _ hL.2.1) (C.2.2.2.2.1 _ hL.2.2.1) (C.2.2.2.2.1 _ hL.2.2.2) (Nat.le_trans hR.1 hRf) (by rw [zcats hcat2]; exact Nat.le_trans hR.2 hRl) (by omega) (by omega) hd (K X p l e R s m args below meth cd Z nE C hZ H locs a h1 h2 hP hSt hS hl)
theorem z_ldc {idx : Nat} {v : Int32} (hd : decode M.2.1 pc = .ok (.ldc idx, 2)) (hL : Cond.constant M.1.cls idx v ∈ zT) (K : zw nX n M (pc + 2) ls (.int v :: st) h Q) : zw nX n M pc ls st h Q := by
  intro X p l e R s m args below meth cd Z nE C hZ H locs a h1 h2 hP hSt hS hl
  exact lv_ldc C.1 C.2.1 C.2.2.2.1 (C.2.2.2.2.1 _ hL) hd (K X p l e R s m args below meth cd Z nE C hZ H locs a h1 h2 hP hSt hS hl)
theorem z_ldcw {idx : Nat} {v : Int32} (hd : decode M.2.1 pc = .ok (.ldc_w idx, 3)) (hL : Cond.constant M.1.cls idx v ∈ zT) (K : zw nX n M (pc + 3) ls (.int v :: st) h Q) : zw nX n M pc ls st h Q := by
  intro X p l e R s m args below meth cd Z nE C hZ H locs a h1 h2 hP hSt hS hl
  exact lv_ldcw C.1 C.2.1 C.2.2.2.1 (C.2.2.2.2.1 _ hL) hd (K X p l e R s m args below meth cd Z nE C hZ H locs a h1 h2 hP hSt hS hl)
/-- a text's reference -/
theorem zSta.str {X : zCx} {s : State} {own tx : String} {idx i : Nat} (hSt : zSta X h s) (hq : (own, idx, tx, i) ∈ zStr) (hi : i < 13) : ∃ q, zcv X (.ref (1010 + i)) = .ref q ∧ vk_R own idx tx q s := by
  obtain ⟨-, -, -, -, ⟨adK, adV, e1, -, e3⟩, -⟩ := hSt
  refine ⟨adK i, ?_, e3 _ hq⟩
  show va_rf (zadr X (1010 + i)) = _
  unfold zadr
  rw [if_neg (by omega), (e1 i hi).1]
  rfl
theorem z_ldcS {idx i : Nat} {tx : String} (hd : decode M.2.1 pc = .ok (.ldc idx, 2)) (hL : (M.1.cls, idx, tx, i) ∈ zStr) (hi : i < 13) (K : zw nX n M (pc + 2) ls (.ref (1010 + i) :: st) h Q) : zw nX n M pc ls st h Q := by
  intro X p l e R s m args below meth cd Z nE C hZ H locs a h1 h2 hP hSt hS hl
  obtain ⟨q, e9, hq⟩ := hSt.str hL hi
  have hk := K X p l e R s m args below meth cd Z nE C hZ H locs a h1 h2 hP hSt hS hl
  rw [List.map_cons, e9] at hk
  exact va_ldcS C.1 C.2.1 C.2.2.2.1 hq hd hk
theorem z_ldcwS {idx i : Nat} {tx : String} (hd : decode M.2.1 pc = .ok (.ldc_w idx, 3)) (hL : (M.1.cls, idx, tx, i) ∈ zStr) (hi : i < 13) (K : zw nX n M (pc + 3) ls (.ref (1010 + i) :: st) h Q) : zw nX n M pc ls st h Q := by
  intro X p l e R s m args below meth cd Z nE C hZ H locs a h1 h2 hP hSt hS hl
  obtain ⟨q, e9, hq⟩ := hSt.str hL hi
  have hk := K X p l e R s m args below meth cd Z nE C hZ H locs a h1 h2 hP hSt hS hl
  rw [List.map_cons, e9] at hk
  intro T hT Y
  obtain ⟨t, a1, b1⟩ := hk T hT Y
  exact ⟨t, ldcStringW Y C.1 C.2.2.2.1 (text := tx) (a := q) hq.1 hq.2 (g := F0 m pc a (st.map (zcv X))) rfl (by rw [C.2.1]; exact hd) t a1, b1⟩
/-- getstatic of LAYER_OF (1000), MOST_X (1001) -/
theorem z_gsN {idx i : Nat} {own nm host : String} (hd : decode M.2.1 pc = .ok (.getstatic idx, 3)) (hL : (own, idx, "LayeredRules", nm, "[I", host) ∈ zNF) (ho : M.1.cls = own) (hi : (nm = "LAYER_OF" ∧ i = 1000) ∨ (nm = "MOST_X" ∧ i = 1001)) (K : zw nX n M (pc + 3) ls (.ref i :: st) h Q) : zw nX n M pc ls st h Q := by
  intro X p l e R s m args below meth cd Z nE C hZ H locs a h1 h2 hP hSt hS hl
  subst ho
  have hN := va_Nw.use (A := args) rfl (hSt.2.2.2.2.2.2.2.1 _ hL)
  have hk := K X p l e R s m args below meth cd Z nE C hZ H locs a h1 h2 hP hSt hS hl
  obtain ⟨⟨t0, a1, a2, -⟩, ⟨t1, b1, b2, -⟩, -⟩ := hSt
  rcases hi with ⟨rfl, rfl⟩ | ⟨rfl, rfl⟩
  · have e9 : zcv X (.ref 1000) = .ref t0 := by show va_rf (zadr X 1000) = _; unfold zadr; rw [if_neg (by decide), a1]; rfl
    rw [List.map_cons, e9] at hk
    exact va_getsN C.1 C.2.1 a2 hS C.2.2.2.1 hN (fun _ h9 => h9) hd hk
  · have e9 : zcv X (.ref 1001) = .ref t1 := by show va_rf (zadr X 1001) = _; unfold zadr; rw [if_neg (by decide), b1]; rfl
    rw [List.map_cons, e9] at hk
    exact va_getsN C.1 C.2.1 b2 hS C.2.2.2.1 hN (fun _ h9 => h9) hd hk
theorem z_gs {idx : Nat} (hd : decode M.2.1 pc = .ok (.getstatic idx, 3)) (hL : Cond.fieldLink M.1.cls idx "LayeredRules" "MOST_X" "[I" ∈ zT) (K : zw nX n M (pc + 3) ls (.ref 1001 :: st) h Q) : zw nX n M pc ls st h Q := by
  intro X p l e R s m args below meth cd Z nE C hZ H locs a h1 h2 hP hSt hS hl
  have hk := K X p l e R s m args below meth cd Z nE C hZ H locs a h1 h2 hP hSt hS hl
  obtain ⟨-, ⟨t1, b1, b2, -⟩, -⟩ := hSt
  have e9 : zcv X (.ref 1001) = .ref t1 := by show va_rf (zadr X 1001) = _; unfold zadr; rw [if_neg (by decide), b1]; rfl
  rw [List.map_cons, e9] at hk
  exact va_gets C.1 C.2.1 b2 hS C.2.2.2.1 (C.2.2.2.2.1 _ hL) (fun _ h9 => h9) hd hk
theorem z_ldLO {i : Int32} {j : Nat} (hd : decode M.2.1 pc = .ok (.iaload, 1)) (hin : vp_in i 6) (hj : i.toNatClampNeg = j) (K : zw nX n M (pc + 1) ls (.int (zLO j) :: st) h Q) : zw nX n M pc ls (.int i :: .ref 1000 :: st) h Q := by
  intro X p l e R s m args below meth cd Z nE C hZ H locs a h1 h2 hP hSt hS hl
  have hk := K X p l e R s m args below meth cd Z nE C hZ H locs a h1 h2 hP hSt hS hl
  obtain ⟨⟨t1, b1, -, b3⟩, -⟩ := hSt
  have e9 : zcv X (.ref 1000) = .ref t1 := by show va_rf (zadr X 1000) = _; unfold zadr; rw [if_neg (by decide), b1]; rfl
  show W p l e R s m args below meth cd H locs _ _ Z (F0 m pc a (.int i :: zcv X (.ref 1000) :: st.map (zcv X)))
  rw [e9]
  exact va_ti C.1 C.2.1 b3 hS hin (by rw [hj]; rfl) hd hk
theorem z_ldMX {i : Int32} {j : Nat} (hd : decode M.2.1 pc = .ok (.iaload, 1)) (hin : vp_in i 6) (hj : i.toNatClampNeg = j) (K : zw nX n M (pc + 1) ls (.int (zMX j) :: st) h Q) : zw nX n M pc ls (.int i :: .ref 1001 :: st) h Q := by
  intro X p l e R s m args below meth cd Z nE C hZ H locs a h1 h2 hP hSt hS hl
  have hk := K X p l e R s m args below meth cd Z nE C hZ H locs a h1 h2 hP hSt hS hl
  obtain ⟨-, ⟨t1, b1, -, b3⟩, -⟩ := hSt
  have e9 : zcv X (.ref 1001) = .ref t1 := by show va_rf (zadr X 1001) = _; unfold zadr; rw [if_neg (by decide), b1]; rfl
  show W p l e R s m args below meth cd H locs _ _ Z (F0 m pc a (.int i :: zcv X (.ref 1001) :: st.map (zcv X)))
  rw [e9]
  exact va_ti C.1 C.2.1 b3 hS hin (by rw [hj]; rfl) hd hk
/-- the script: the place i is below its length L, which stands in 1004 -/
theorem z_ldSc {i : Int32} {j L : Nat} (hd : decode M.2.1 pc = .ok (.iaload, 1)) (hLn : rI h 1004 0 = nI L) (hL : L ≤ 3072) (hj : i = nI j) (hjL : j < L) (K : zw nX n M (pc + 1) ls (.int (rI h 1003 j) :: st) h Q) : zw nX n M pc ls (.int i :: .ref 1003 :: st) h Q := by
  intro X p l e R s m args below meth cd Z nE C hZ H locs a h1 h2 hP hSt hS hl
  have hk := K X p l e R s m args below meth cd Z nE C hZ H locs a h1 h2 hP hSt hS hl
  obtain ⟨-, -, -, -, -, ⟨b, L', f1, f2, f3, f4, f5, f6⟩, -⟩ := hSt
  have eL : L' = L := (nI_eq (by omega) (by omega)).mp (f2.symm.trans hLn)
  subst eL
  have e9 : zcv X (.ref 1003) = .ref b := by show va_rf (zadr X 1003) = _; unfold zadr; rw [if_neg (by decide), f1]; rfl
  show W p l e R s m args below meth cd H locs _ _ Z (F0 m pc a (.int i :: zcv X (.ref 1003) :: st.map (zcv X)))
  rw [e9]
  have ej : i.toNatClampNeg = j := by rw [hj, nI_clamp (by omega)]
  exact va_sld C.1 C.2.1 f4 f5 f6 hS (by rw [hj]; exact vp_in_nI hjL (by omega)) hd (by rw [ej]; exact hk)
theorem z_lenSc (hd : decode M.2.1 pc = .ok (.arraylength, 1)) (K : zw nX n M (pc + 1) ls (.int (rI h 1004 0) :: st) h Q) : zw nX n M pc ls (.ref 1003 :: st) h Q := by
  intro X p l e R s m args below meth cd Z nE C hZ H locs a h1 h2 hP hSt hS hl
  have hk := K X p l e R s m args below meth cd Z nE C hZ H locs a h1 h2 hP hSt hS hl
  obtain ⟨-, -, -, -, -, ⟨b, L', f1, f2, f3, f4, f5, f6⟩, -⟩ := hSt
  have e9 : zcv X (.ref 1003) = .ref b := by show va_rf (zadr X 1003) = _; unfold zadr; rw [if_neg (by decide), f1]; rfl
  show W p l e R s m args below meth cd H locs _ _ Z (F0 m pc a (zcv X (.ref 1003) :: st.map (zcv X)))
  rw [e9]
  change W p l e R s m args below meth cd H locs _ _ Z (F0 m (pc + 1) a (.int (h.1 1004 0) :: st.map (zcv X))) at hk
  rw [f2] at hk
  exact va_slen C.1 C.2.1 f4 f5 f6 hS hd hk
theorem z_copy {idx c d i j k : Nat} {sp dp m' : Int32} (hd : decode M.2.1 pc = .ok (.invokestatic idx, 3)) (hL : Cond.methodLink M.1.cls idx arraycopyName ∈ zT ∧ Cond.native arraycopyName ∈ zT ∧ Cond.static arraycopyName ∈ zT ∧ Cond.initialized "java/lang/System" ∈ zT) (hc : ly c = 21) (hcn : c < n) (hdl : ly d = 21) (hdn : d < n) (hsp : sp = nI i) (hdp : dp = nI j) (hk : m' = nI k) (h4 : i + k ≤ ln c) (h5 : j + k ≤ ln d) (hcat2 : ∀ v ∈ st, v.category = 1) (hR : 1 ≤ M.2.2.2.2.1 ∧ st.length + (nativeFrameWords "java/lang/System" "arraycopy" 5 + 11) ≤ M.2.2.2.2.2) (K : zw nX n M (pc + 3) ls st (wC h c i d j k) Q) : zw nX n M pc ls (.int m' :: .int dp :: .ref d :: .int sp :: .ref c :: st) h Q := by
  intro X p l e R s m args below meth cd Z nE C hZ H locs a h1 h2 hP hSt hS hl
  have hc1 : c < 1000 := Nat.lt_trans (zly_lt (by omega)) (by decide)
  have hd1 : d < 1000 := Nat.lt_trans (zly_lt (by omega)) (by decide)
  have hln : ∀ c, ln c ≤ 1024 := ln_lt
  have l1 := hln c
  have l2 := hln d
  obtain ⟨hRf, hRl⟩ := C.2.2.2.2.2.2.2.2.1
  show W p l e R s m args below meth cd H locs _ _ Z (F0 m pc a (.int m' :: .int dp :: zcv X (.ref d) :: .int sp :: zcv X (.ref c) :: st.map (zcv X)))
  rw [zcv_ref hc1, zcv_ref hd1]
  have e1 : sp.toNatClampNeg = i := by rw [hsp, nI_clamp (by omega)]
  have e2 : dp.toNatClampNeg = j := by rw [hdp, nI_clamp (by omega)]
  have e3 : m'.toNatClampNeg = k := by rw [hk, nI_clamp (by omega)]
  refine va_copyi (ty := .int) (f := h.1 c) (g := h.1 d) (n0 := ln c) (n1 := ln d) (c0 := X.2.2.2.2 21) (c1 := X.2.2.2.2 21) C.1 C.2.1 (by rw [C.2.2.1]; exact hl.1.symm) C.2.2.2.1 (C.2.2.2.2.1 _ hL.1) (C.2.2.2.2.1 _ hL.2.1) (C.2.2.2.2.1 _ hL.2.2.1) (C.2.2.2.2.1 _ hL.2.2.2) C.2.2.2.2.2.2.2.1 hP zwl_D hS c d 1 1 (by rw [zwl_at hcn, zent_int hc]) (by rw [zwl_at hdn, zent_int hdl]) (by rw [ztys_at (by decide)]; rfl) (by rw [ztys_at (by decide)]; rfl) rfl (by rw [hsp]; exact nI_pos (by omega)) (by rw [hdp]; exact nI_pos (by omega)) (by rw [hk]; exact nI_pos (by omega)) (by rw [e1, e3]; exact h4) (by rw [e2, e3]; exact h5) (fun _ _ => rfl) (Nat.le_trans hR.1 hRf) (by rw [zcats hcat2]; exact Nat.le_trans hR.2 hRl) hd (fun H1 locs1 hP1 _ hS1 => ?_)
  rw [e1, e2, e3] at hP1
  rw [zwl_set (h' := wC h c i d j k) hdn (by rw [zent_int hdl]; simp [wC]) (fun b hb => zent_other (wC_ne hb) rfl)] at hP1
  exact K X p l e R s m args below meth cd Z nE C hZ H1 locs1 a h1 h2 hP1 (hSt.to (wC_ne (by omega)) (wC_ne (by omega))) hS1 hl
end ZPrim
end
section
/-! rules of zw: new cells -/
theorem zgrow {X : zCx} {h : zHp} {n : Nat} {H H1 : Heap} {s : State} {locs : List Loc} (hP : va_P (zD X) vwCl (zwl X h n) H) (hS : va_S (zA X) s.heap H locs) (hsz : H.size = X.1 + n) (o1 : ∀ q, q < X.1 + n → H1[q]? = H[q]?) (z1 : H1.size = X.1 + n + 1) (e : va_at (zD X) vwCl (X.1 + n, zent X h n) H1) : va_P (zD X) vwCl (zwl X h (n + 1)) H1 ∧ va_S (zA X) s.heap H1 locs := by
  refine ⟨?_, Nat.le_trans hS.1 (by omega), fun x g1 g2 => (o1 x (by have := hS.1; omega)).trans (hS.2.1 x g1 g2), hS.2.2⟩
  intro k q hk
  have hl : k < n + 1 := by have := (List.getElem?_eq_some_iff.mp hk).1; rwa [zwl_len] at this
  rw [zwl_at hl] at hk
  cases hk
  rcases Nat.lt_or_ge k n with g | g
  · have h1 := hP k _ (zwl_at g)
    exact h1.kept (o1 _ (by show X.1 + k < _; omega))
  · have : k = n := by omega
    subst this
    exact e
def zLn (own : String) (idx ci : Nat) : Prop := ∃ (C : String) (T : u_T) (N : Nat), vwCl[ci]? = some (C, T, N) ∧ Cond.classLink own idx C ∈ zT ∧ Cond.instantiable C N ∈ zT ∧ Cond.initialized C ∈ zT ∧ (∀ w ∈ u_ws C T N, w ∈ zT) ∧ (∀ j, j < N → parseFieldDescriptor (T j).2.2.1 = some (zfty ci j)) ∧ (∀ c, ly c = ci + 1 → ln c = N) ∧ ci < 12 ∧ ∀ j, j < N → defaultValue (zfty ci j) = if zrf (zfty ci j) = true then .null else .int 0
/-- an array class's id out of its name -/
theorem zarr_id {X : zCx} {s : State} {i : Nat} {cA : ClassId} (hK : va_K (zD X) vwCl (ztys X) s) (hi : i < 8) (hf : s.vm.findClass ("[" ++ (zty (20 + i)).toString) = some cA) : X.2.2.2.2 (20 + i) = cA := by
  have h1 := (hK.2 i _ (ztys_at hi)).2
  generalize hty : zty (20 + i) = ty at h1 hf
  cases ty with
  | object C =>
    obtain ⟨_, _, _, _, _, h4⟩ := h1
    exact Option.some.inj (h4.symm.trans hf)
  | _ => exact Option.some.inj (Eq.trans (Eq.symm h1) hf)
section ZNew
variable {nX n : Nat} {M : zMI} {pc : Nat} {ls : List (Option Value)} {st : List Value} {h : zHp} {Q : Option Value → zHp → Prop}
theorem z_new {idx ci : Nat} (hd : decode M.2.1 pc = .ok (.new idx, 3)) (hL : zLn M.1.cls idx ci) (hly : ly n = ci + 1) (hbl : ∀ k, h.1 n k = 0 ∧ h.2 n k = none) (hX : n < nX) (K : zw nX (n + 1) M (pc + 3) ls (.ref n :: st) h Q) : zw nX n M pc ls st h Q := by
  intro X p l e R s m args below meth cd Z nE C hZ H locs a h1 h2 hP hSt hS hl
  intro T hT Y
  have hsz := zsize C.2.2.2.2.2.2.1 h1 hP hS hT Y
  have hn1 : n < 1000 := Nat.lt_trans (zly_lt (by omega)) (by decide)
  obtain ⟨Cn, Tn, N, q1, q2, q3, q4, q5, q6, q7, q8, q9⟩ := hL
  have hK := C.2.2.2.2.2.2.2.1
  have hKn := hK.1 ci _ q1
  have hfit := C.2.2.2.2.2.2.2.2.2
  have z1 := zsl_mono (show n + 1 ≤ nX from hX)
  have z2 := zsl_mono h1
  have hN : ln n = N := q7 n hly
  rw [zsl_succ, hN] at z1
  suffices key : W p l e R s m args below meth cd H locs (n - nE) (zsl n - zsl nE) Z (F0 m pc a (st.map (zcv X))) from key T hT Y
  refine W.newcK C.1 C.2.1 C.2.2.2.1 (C.2.2.2.2.1 _ q2) (C.2.2.2.2.1 _ q3) (C.2.2.2.2.1 _ q4) rfl hd (by omega) (by omega) hKn.2.1 hsz (fun H1 kC hkC e1 z3 o1 => ?_)
  have e9 : va_at (zD X) vwCl (X.1 + n, zent X h n) H1 := by
    rw [zent_obj hly q8, hN]
    refine ⟨_, q1, (u_born (zfty ci) C.2.2.2.2.1 q5 hKn hkC e1 q6).to (fun j hj => ?_)⟩
    rw [q9 j hj]
    show _ = ((List.range N).map (zfv X h n ci)).getD j .null
    rw [List.getD_eq_getElem?_getD, zfs_at hj]
    unfold zfv
    rw [(hbl j).1, (hbl j).2]
    rfl
  obtain ⟨hP1, hS1⟩ := zgrow hP hS hsz o1 z3 e9
  have hk := K X p l e R s m args below meth cd Z nE C hZ H1 locs a (by omega) hX hP1 hSt hS1 hl
  rw [List.map_cons, zcv_ref hn1] at hk
  rw [show n + 1 - nE = n - nE + 1 by omega, zsl_succ, hN, show zsl n + N - zsl nE = zsl n - zsl nE + N by omega] at hk
  exact hk
theorem z_newa {k : Nat} {v : Int32} {atype : ArrayType} (hd : decode M.2.1 pc = .ok (.newarray atype, 2)) (hty : (atype = .int ∧ ly n = 21 ∧ Cond.arrayClass .int ∈ zT) ∨ (atype = .byte ∧ ly n = 20 ∧ Cond.arrayClass .byte ∈ zT)) (hv : v = nI k) (hk : ln n = k) (hk2 : k ≤ 2000) (hbl : ∀ k, h.1 n k = 0) (hX : n < nX) (K : zw nX (n + 1) M (pc + 2) ls (.ref n :: st) h Q) : zw nX n M pc ls (.int v :: st) h Q := by
  intro X p l e R s m args below meth cd Z nE C hZ H locs a h1 h2 hP hSt hS hl
  intro T hT Y
  have hsz := zsize C.2.2.2.2.2.2.1 h1 hP hS hT Y
  have hn1 : n < 1000 := Nat.lt_trans (zly_lt (by rcases hty with ⟨-, q, -⟩ | ⟨-, q, -⟩ <;> omega)) (by decide)
  have hK := C.2.2.2.2.2.2.2.1
  have hfit := C.2.2.2.2.2.2.2.2.2
  have z1 := zsl_mono (show n + 1 ≤ nX from hX)
  have z2 := zsl_mono h1
  rw [zsl_succ, hk] at z1
  have ev : v.toNatClampNeg = k := by rw [hv, nI_clamp (by omega)]
  have fin : ∀ (H1 : Heap) (cA : ClassId), H1[X.1 + n]? = some (arrV cA k (fun _ => .int 0)) → X.2.2.2.2 (ly n) = cA → (ly n = 20 ∨ ly n = 21) → H1.size = X.1 + n + 1 → (∀ q, q < X.1 + n → H1[q]? = H[q]?) → W p l e R s m args below meth cd H1 locs (n - nE + 1) (zsl n - zsl nE + k) Z (F0 m (pc + 2) a (.ref (X.1 + n) :: st.map (zcv X))) := by
    intro H1 cA e1 e2 e3 z3 o1
    have e9 : va_at (zD X) vwCl (X.1 + n, zent X h n) H1 := by
      have e4 : zent X h n = .inl (X.2.2.2.2 (ly n), ln n, .inl (h.1 n)) := by
        unfold zent
        rw [if_neg (by omega), if_pos (by omega)]
      rw [e4]
      show H1[X.1 + n]? = some (vp_cell _ _)
      rw [e1, vp_cell_i, e2, hk]
      congr 2
      funext j
      rw [hbl]
    obtain ⟨hP1, hS1⟩ := zgrow hP hS hsz o1 z3 e9
    have hq := K X p l e R s m args below meth cd Z nE C hZ H1 locs a (by omega) hX hP1 hSt hS1 hl
    rw [List.map_cons, zcv_ref hn1] at hq
    rw [show n + 1 - nE = n - nE + 1 by omega, zsl_succ, hk, show zsl n + k - zsl nE = zsl n - zsl nE + k by omega] at hq
    exact hq
  suffices key : W p l e R s m args below meth cd H locs (n - nE) (zsl n - zsl nE) Z (F0 m pc a (.int v :: st.map (zcv X))) from key T hT Y
  rcases hty with ⟨rfl, hly, hw⟩ | ⟨rfl, hly, hw⟩
  · refine va_newaK (atype := .int) C.1 C.2.1 (C.2.2.2.2.1 _ hw) rfl hd rfl (by rw [hv]; exact nI_pos (by omega)) ev (by show k * 4 ≤ _; omega) (by omega) (by omega) hsz (fun H1 cA e1 z3 o1 _ hf => ?_)
    exact fin H1 cA e1 (by rw [hly]; exact zarr_id (i := 1) hK (by decide) hf) (Or.inr hly) z3 o1
  · refine va_newaK (atype := .byte) C.1 C.2.1 (C.2.2.2.2.1 _ hw) rfl hd rfl (by rw [hv]; exact nI_pos (by omega)) ev (by show k * 1 ≤ _; omega) (by omega) (by omega) hsz (fun H1 cA e1 z3 o1 _ hf => ?_)
    exact fin H1 cA e1 (by rw [hly]; exact zarr_id (i := 0) hK (by decide) hf) (Or.inl hly) z3 o1
theorem z_newq {idx k : Nat} {v : Int32} {E : String} (hd : decode M.2.1 pc = .ok (.anewarray idx, 3)) (hL : Cond.classLink M.1.cls idx E ∈ zT ∧ E ∈ zAO) (hE : zty (ly n) = .object E) (hly : 22 ≤ ly n) (hv : v = nI k) (hk : ln n = k) (hk2 : k ≤ 2000) (hbl : ∀ k, h.2 n k = none) (hX : n < nX) (K : zw nX (n + 1) M (pc + 3) ls (.ref n :: st) h Q) : zw nX n M pc ls (.int v :: st) h Q := by
  intro X p l e R s m args below meth cd Z nE C hZ H locs a h1 h2 hP hSt hS hl
  intro T hT Y
  have hsz := zsize C.2.2.2.2.2.2.1 h1 hP hS hT Y
  have hn1 : n < 1000 := Nat.lt_trans (zly_lt (by omega)) (by decide)
  have hK := C.2.2.2.2.2.2.2.1
  have hfit := C.2.2.2.2.2.2.2.2.2
  have z1 := zsl_mono (show n + 1 ≤ nX from hX)
  have z2 := zsl_mono h1
  have hl27 : ly n ≤ 27 := zly_27
  rw [zsl_succ, hk] at z1
  have ev : v.toNatClampNeg = k := by rw [hv, nI_clamp (by omega)]
  suffices key : W p l e R s m args below meth cd H locs (n - nE) (zsl n - zsl nE) Z (F0 m pc a (.int v :: st.map (zcv X))) from key T hT Y
  refine W.anew C.1 C.2.1 C.2.2.2.1 (C.2.2.2.2.1 _ hL.1) (va_AO.use (hSt.2.2.2.2.2.2.2.2 _ hL.2)) rfl hd rfl (by rw [hv]; exact nI_pos (by omega)) (by rw [ev]; omega) (by omega) (by rw [ev]; omega) (fun cA kA comp f1 f2 f3 f4 => ?_)
  rw [ev]
  generalize hH1 : H.push ({ cls := cA, slots := Array.replicate k .null, vm := .none } : Cell) = H1
  have z3 : H1.size = X.1 + n + 1 := by rw [← hH1, Array.size_push, hsz]
  have e1 : H1[X.1 + n]? = some (arrV cA k (fun _ => .null)) := by rw [← hH1, ← hsz, Array.getElem?_push_size, ← arrV_new]
  have o1 : ∀ q : Nat, q < X.1 + n → H1[q]? = H[q]? := fun q hq => by rw [← hH1, Array.getElem?_push, if_neg (by omega)]
  have hid : X.2.2.2.2 (ly n) = cA := by
    have := zarr_id (i := ly n - 20) (cA := cA) hK (by omega) (by rw [show 20 + (ly n - 20) = ly n by omega, hE]; exact f1)
    rwa [show 20 + (ly n - 20) = ly n by omega] at this
  have e9 : va_at (zD X) vwCl (X.1 + n, zent X h n) H1 := by
    rw [zent_ref hly]
    show H1[X.1 + n]? = some (vp_cell _ _)
    rw [e1, vp_cell_q, hid, hk]
    congr 2
    funext j
    rw [hbl]
    rfl
  obtain ⟨hP1, hS1⟩ := zgrow hP hS hsz o1 z3 e9
  have hq := K X p l e R s m args below meth cd Z nE C hZ H1 locs a (by omega) hX hP1 hSt hS1 hl
  rw [List.map_cons, zcv_ref hn1] at hq
  rw [show n + 1 - nE = n - nE + 1 by omega, zsl_succ, hk, show zsl n + k - zsl nE = zsl n - zsl nE + k by omega] at hq
  rw [hsz]
  exact hq
/-- a text into a row of texts -/
theorem z_aastS {c j r : Nat} {i : Int32} (hd : decode M.2.1 pc = .ok (.aastore, 1)) (hc : ly c = 27) (hn : c < n) (hin : vp_in i (ln c)) (hj : i.toNatClampNeg = j) (hr : r < 13) (K : zw nX n M (pc + 1) ls st (wR h c j (some (1010 + r))) Q) : zw nX n M pc ls (.ref (1010 + r) :: .int i :: .ref c :: st) h Q := by
  intro X p l e R s m args below meth cd Z nE C hZ H locs a h1 h2 hP hSt hS hl
  subst hj
  have hc1 : c < 1000 := Nat.lt_trans (zly_lt (by omega)) (by decide)
  have hSt0 := hSt
  obtain ⟨-, -, -, -, ⟨adK, adV, g1, g2, -⟩, -⟩ := hSt
  have e9 : zadr X (1010 + r) = some (adK r) := by unfold zadr; rw [if_neg (by omega), (g1 r hr).1]
  have e8 : zcv X (.ref (1010 + r)) = .ref (adK r) := by show va_rf (zadr X (1010 + r)) = _; rw [e9]; rfl
  show W p l e R s m args below meth cd H locs _ _ Z (F0 m pc a (zcv X (.ref (1010 + r)) :: .int i :: zcv X (.ref c) :: st.map (zcv X)))
  rw [zcv_ref hc1, e8]
  have hAny : va_Any "java/lang/String" s H (adK r) := by
    obtain ⟨cell, k1, k2, k3⟩ := vk_recv g2 hr hS
    obtain ⟨kC, hkC, hz⟩ := Vm.findClass_spec k3
    exact ⟨cell, k1, k2, ⟨kC, hkC⟩, fun comp hcomp => by cases hcomp.symm.trans k3; exact va_asg _ _⟩
  refine va_astqM (E := "java/lang/String") C.1 C.2.1 C.2.2.2.2.2.2.2.1 hP zwl_D hS c 7 (by rw [zwl_at hn, zent_ref (by omega), hc]) (by rw [ztys_at (by decide)]; rfl) hAny hin hd (fun H1 locs1 hP1 _ hS1 => ?_)
  have e7 : (fun b => ((wR h c i.toNatClampNeg (some (1010 + r))).2 c b).bind (zadr X)) = va_up (fun b => (h.2 c b).bind (zadr X)) i.toNatClampNeg (some (adK r)) := by
    funext b
    simp only [wR, va_up]
    by_cases hb : b = i.toNatClampNeg
    · simp [hb, e9]
    · simp [hb]
  rw [zwl_set (h := h) (h' := wR h c i.toNatClampNeg (some (1010 + r))) hn (by rw [zent_ref (by omega), hc, e7]) (fun d hd => zent_other rfl (wR_ne hd))] at hP1
  exact K X p l e R s m args below meth cd Z nE C hZ H1 locs1 a h1 h2 hP1 hSt0.wR hS1 hl
end ZNew
end
