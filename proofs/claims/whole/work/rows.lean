section
-- ===== PART A: goes FIRST, ahead of the names: the tables' words, and 'selects' of the private methods out of them =====
/-- a private method of a class that the tables say can be made, by its rows of tables_1 -/
def lw_okq (q : MethodName × Nat) : Prop := (q.1.cls ≠ "java/lang/invoke/MethodHandle" ∧ q.1.cls ≠ "java/lang/invoke/VarHandle") ∧ Cond.instantiable q.1.cls q.2 ∈ tables_1 ∧ Cond.privateMethod q.1 ∈ tables_1 ∧ Cond.instanceMethod q.1 ∈ tables_1
theorem lw_p0 : lw_okq (⟨"TextAsker", "findAnswers", "(I)V"⟩, 5) := ⟨⟨by decide +kernel, by decide +kernel⟩, List.mem_of_getElem? (i := 11) (by decide +kernel), List.mem_of_getElem? (i := 117) (by decide +kernel), List.mem_of_getElem? (i := 118) (by decide +kernel)⟩
theorem lw_p1 : lw_okq (⟨"TextAsker$World", "forgetAll", "()V"⟩, 6) := ⟨⟨by decide +kernel, by decide +kernel⟩, List.mem_of_getElem? (i := 56) (by decide +kernel), List.mem_of_getElem? (i := 133) (by decide +kernel), List.mem_of_getElem? (i := 134) (by decide +kernel)⟩
theorem lw_p2 : lw_okq (⟨"TextAsker$World", "tell", "(LTextAsker$Text;II)V"⟩, 6) := ⟨⟨by decide +kernel, by decide +kernel⟩, List.mem_of_getElem? (i := 56) (by decide +kernel), List.mem_of_getElem? (i := 137) (by decide +kernel), List.mem_of_getElem? (i := 138) (by decide +kernel)⟩
theorem lw_p3 : lw_okq (⟨"TextAsker$World", "tellTaking", "(III)V"⟩, 6) := ⟨⟨by decide +kernel, by decide +kernel⟩, List.mem_of_getElem? (i := 56) (by decide +kernel), List.mem_of_getElem? (i := 163) (by decide +kernel), List.mem_of_getElem? (i := 164) (by decide +kernel)⟩
theorem lw_p4 : lw_okq (⟨"TextAsker$World", "inferPlace", "(III)V"⟩, 6) := ⟨⟨by decide +kernel, by decide +kernel⟩, List.mem_of_getElem? (i := 56) (by decide +kernel), List.mem_of_getElem? (i := 167) (by decide +kernel), List.mem_of_getElem? (i := 168) (by decide +kernel)⟩
theorem lw_p5 : lw_okq (⟨"TextAsker$World", "handTo", "(III)V"⟩, 6) := ⟨⟨by decide +kernel, by decide +kernel⟩, List.mem_of_getElem? (i := 56) (by decide +kernel), List.mem_of_getElem? (i := 171) (by decide +kernel), List.mem_of_getElem? (i := 172) (by decide +kernel)⟩
theorem lw_p6 : lw_okq (⟨"TextAsker$World", "tellDropping", "(III)V"⟩, 6) := ⟨⟨by decide +kernel, by decide +kernel⟩, List.mem_of_getElem? (i := 56) (by decide +kernel), List.mem_of_getElem? (i := 175) (by decide +kernel), List.mem_of_getElem? (i := 176) (by decide +kernel)⟩
theorem lw_p7 : lw_okq (⟨"TextAsker$World", "tellGiving", "(IIII)V"⟩, 6) := ⟨⟨by decide +kernel, by decide +kernel⟩, List.mem_of_getElem? (i := 56) (by decide +kernel), List.mem_of_getElem? (i := 179) (by decide +kernel), List.mem_of_getElem? (i := 180) (by decide +kernel)⟩
theorem lw_p8 : lw_okq (⟨"TextAsker$World", "thingPlace", "(I)I"⟩, 6) := ⟨⟨by decide +kernel, by decide +kernel⟩, List.mem_of_getElem? (i := 56) (by decide +kernel), List.mem_of_getElem? (i := 198) (by decide +kernel), List.mem_of_getElem? (i := 199) (by decide +kernel)⟩
theorem lw_p9 : lw_okq (⟨"TextAsker$World", "hadThings", "(I)I"⟩, 6) := ⟨⟨by decide +kernel, by decide +kernel⟩, List.mem_of_getElem? (i := 56) (by decide +kernel), List.mem_of_getElem? (i := 205) (by decide +kernel), List.mem_of_getElem? (i := 206) (by decide +kernel)⟩
theorem lw_p10 : lw_okq (⟨"TextAsker$World", "thingPlaceBasis", "(I)I"⟩, 6) := ⟨⟨by decide +kernel, by decide +kernel⟩, List.mem_of_getElem? (i := 56) (by decide +kernel), List.mem_of_getElem? (i := 213) (by decide +kernel), List.mem_of_getElem? (i := 214) (by decide +kernel)⟩
theorem lw_p11 : lw_okq (⟨"TextAsker$World", "hadThingsBasis", "(I)I"⟩, 6) := ⟨⟨by decide +kernel, by decide +kernel⟩, List.mem_of_getElem? (i := 56) (by decide +kernel), List.mem_of_getElem? (i := 217) (by decide +kernel), List.mem_of_getElem? (i := 218) (by decide +kernel)⟩
theorem lw_p12 : lw_okq (⟨"TextAsker$Findings", "begin", "(IIII)V"⟩, 3) := ⟨⟨by decide +kernel, by decide +kernel⟩, List.mem_of_getElem? (i := 81) (by decide +kernel), List.mem_of_getElem? (i := 221) (by decide +kernel), List.mem_of_getElem? (i := 222) (by decide +kernel)⟩
theorem lw_p13 : lw_okq (⟨"TextAsker$Findings", "join", "(IIII)V"⟩, 3) := ⟨⟨by decide +kernel, by decide +kernel⟩, List.mem_of_getElem? (i := 81) (by decide +kernel), List.mem_of_getElem? (i := 226) (by decide +kernel), List.mem_of_getElem? (i := 227) (by decide +kernel)⟩
theorem lw_p14 : lw_okq (⟨"TextAsker", "finishSentence", "()Z"⟩, 5) := ⟨⟨by decide +kernel, by decide +kernel⟩, List.mem_of_getElem? (i := 11) (by decide +kernel), List.mem_of_getElem? (i := 276) (by decide +kernel), List.mem_of_getElem? (i := 277) (by decide +kernel)⟩
theorem lw_p15 : lw_okq (⟨"TextAsker$Text", "candidates", "(I)I"⟩, 4) := ⟨⟨by decide +kernel, by decide +kernel⟩, List.mem_of_getElem? (i := 19) (by decide +kernel), List.mem_of_getElem? (i := 284) (by decide +kernel), List.mem_of_getElem? (i := 285) (by decide +kernel)⟩
def lw_privs_1 : List (MethodName × Nat) := [(⟨"TextAsker", "findAnswers", "(I)V"⟩, 5), (⟨"TextAsker$World", "forgetAll", "()V"⟩, 6), (⟨"TextAsker$World", "tell", "(LTextAsker$Text;II)V"⟩, 6), (⟨"TextAsker$World", "tellTaking", "(III)V"⟩, 6), (⟨"TextAsker$World", "inferPlace", "(III)V"⟩, 6), (⟨"TextAsker$World", "handTo", "(III)V"⟩, 6), (⟨"TextAsker$World", "tellDropping", "(III)V"⟩, 6), (⟨"TextAsker$World", "tellGiving", "(IIII)V"⟩, 6), (⟨"TextAsker$World", "thingPlace", "(I)I"⟩, 6), (⟨"TextAsker$World", "hadThings", "(I)I"⟩, 6), (⟨"TextAsker$World", "thingPlaceBasis", "(I)I"⟩, 6), (⟨"TextAsker$World", "hadThingsBasis", "(I)I"⟩, 6), (⟨"TextAsker$Findings", "begin", "(IIII)V"⟩, 3), (⟨"TextAsker$Findings", "join", "(IIII)V"⟩, 3), (⟨"TextAsker", "finishSentence", "()Z"⟩, 5), (⟨"TextAsker$Text", "candidates", "(I)I"⟩, 4)]
theorem lw_r1 : ∀ q ∈ lw_privs_1, lw_okq q := List.forall_mem_cons.mpr ⟨lw_p0, List.forall_mem_cons.mpr ⟨lw_p1, List.forall_mem_cons.mpr ⟨lw_p2, List.forall_mem_cons.mpr ⟨lw_p3, List.forall_mem_cons.mpr ⟨lw_p4, List.forall_mem_cons.mpr ⟨lw_p5, List.forall_mem_cons.mpr ⟨lw_p6, List.forall_mem_cons.mpr ⟨lw_p7, List.forall_mem_cons.mpr ⟨lw_p8, List.forall_mem_cons.mpr ⟨lw_p9, List.forall_mem_cons.mpr ⟨lw_p10, List.forall_mem_cons.mpr ⟨lw_p11, List.forall_mem_cons.mpr ⟨lw_p12, List.forall_mem_cons.mpr ⟨lw_p13, List.forall_mem_cons.mpr ⟨lw_p14, List.forall_mem_cons.mpr ⟨lw_p15, fun _ h => absurd h List.not_mem_nil⟩⟩⟩⟩⟩⟩⟩⟩⟩⟩⟩⟩⟩⟩⟩⟩
theorem lw_p16 : lw_okq (⟨"TextAsker$Text", "named", "(I)I"⟩, 4) := ⟨⟨by decide +kernel, by decide +kernel⟩, List.mem_of_getElem? (i := 19) (by decide +kernel), List.mem_of_getElem? (i := 289) (by decide +kernel), List.mem_of_getElem? (i := 290) (by decide +kernel)⟩
theorem lw_p17 : lw_okq (⟨"TextAsker", "extendWays", "(I)Z"⟩, 5) := ⟨⟨by decide +kernel, by decide +kernel⟩, List.mem_of_getElem? (i := 11) (by decide +kernel), List.mem_of_getElem? (i := 296) (by decide +kernel), List.mem_of_getElem? (i := 297) (by decide +kernel)⟩
theorem lw_p18 : lw_okq (⟨"TextAsker", "extendWay", "(II)Z"⟩, 5) := ⟨⟨by decide +kernel, by decide +kernel⟩, List.mem_of_getElem? (i := 11) (by decide +kernel), List.mem_of_getElem? (i := 304) (by decide +kernel), List.mem_of_getElem? (i := 305) (by decide +kernel)⟩
theorem lw_p19 : lw_okq (⟨"TextAsker$World", "allowsTaking", "(II)Z"⟩, 6) := ⟨⟨by decide +kernel, by decide +kernel⟩, List.mem_of_getElem? (i := 56) (by decide +kernel), List.mem_of_getElem? (i := 318) (by decide +kernel), List.mem_of_getElem? (i := 319) (by decide +kernel)⟩
theorem lw_p20 : lw_okq (⟨"TextAsker$World", "mayHave", "(II)Z"⟩, 6) := ⟨⟨by decide +kernel, by decide +kernel⟩, List.mem_of_getElem? (i := 56) (by decide +kernel), List.mem_of_getElem? (i := 325) (by decide +kernel), List.mem_of_getElem? (i := 326) (by decide +kernel)⟩
theorem lw_p21 : lw_okq (⟨"TextAsker$World", "allowsGiving", "(III)Z"⟩, 6) := ⟨⟨by decide +kernel, by decide +kernel⟩, List.mem_of_getElem? (i := 56) (by decide +kernel), List.mem_of_getElem? (i := 329) (by decide +kernel), List.mem_of_getElem? (i := 330) (by decide +kernel)⟩
theorem lw_p22 : lw_okq (⟨"TextAsker$Text", "wholeLength", "(I)I"⟩, 4) := ⟨⟨by decide +kernel, by decide +kernel⟩, List.mem_of_getElem? (i := 19) (by decide +kernel), List.mem_of_getElem? (i := 361) (by decide +kernel), List.mem_of_getElem? (i := 362) (by decide +kernel)⟩
theorem lw_p23 : lw_okq (⟨"TextAsker", "hasPrefix", "(I)Z"⟩, 5) := ⟨⟨by decide +kernel, by decide +kernel⟩, List.mem_of_getElem? (i := 11) (by decide +kernel), List.mem_of_getElem? (i := 369) (by decide +kernel), List.mem_of_getElem? (i := 370) (by decide +kernel)⟩
theorem lw_p24 : lw_okq (⟨"TextAsker", "hasReading", "(I)Z"⟩, 5) := ⟨⟨by decide +kernel, by decide +kernel⟩, List.mem_of_getElem? (i := 11) (by decide +kernel), List.mem_of_getElem? (i := 377) (by decide +kernel), List.mem_of_getElem? (i := 378) (by decide +kernel)⟩
theorem lw_p25 : lw_okq (⟨"TextAsker", "rightAnswer", "(I)I"⟩, 5) := ⟨⟨by decide +kernel, by decide +kernel⟩, List.mem_of_getElem? (i := 11) (by decide +kernel), List.mem_of_getElem? (i := 400) (by decide +kernel), List.mem_of_getElem? (i := 401) (by decide +kernel)⟩
theorem lw_p26 : lw_okq (⟨"TextAsker", "wasAnswer", "(II)Z"⟩, 5) := ⟨⟨by decide +kernel, by decide +kernel⟩, List.mem_of_getElem? (i := 11) (by decide +kernel), List.mem_of_getElem? (i := 408) (by decide +kernel), List.mem_of_getElem? (i := 409) (by decide +kernel)⟩
theorem lw_p27 : lw_okq (⟨"TextAskerModel", "canStand", "(I)Z"⟩, 9) := ⟨⟨by decide +kernel, by decide +kernel⟩, List.mem_of_getElem? (i := 474) (by decide +kernel), List.mem_of_getElem? (i := 512) (by decide +kernel), List.mem_of_getElem? (i := 513) (by decide +kernel)⟩
theorem lw_p28 : lw_okq (⟨"TextAskerModel", "signAt", "(II)I"⟩, 9) := ⟨⟨by decide +kernel, by decide +kernel⟩, List.mem_of_getElem? (i := 474) (by decide +kernel), List.mem_of_getElem? (i := 516) (by decide +kernel), List.mem_of_getElem? (i := 517) (by decide +kernel)⟩
theorem lw_p29 : lw_okq (⟨"TextAskerModel", "reads", "(I)V"⟩, 9) := ⟨⟨by decide +kernel, by decide +kernel⟩, List.mem_of_getElem? (i := 474) (by decide +kernel), List.mem_of_getElem? (i := 526) (by decide +kernel), List.mem_of_getElem? (i := 527) (by decide +kernel)⟩
theorem lw_p30 : lw_okq (⟨"TextAskerModel", "goes", "(I)V"⟩, 9) := ⟨⟨by decide +kernel, by decide +kernel⟩, List.mem_of_getElem? (i := 474) (by decide +kernel), List.mem_of_getElem? (i := 530) (by decide +kernel), List.mem_of_getElem? (i := 531) (by decide +kernel)⟩
theorem lw_p31 : lw_okq (⟨"TextAskerModel", "mayMean", "(III)Z"⟩, 9) := ⟨⟨by decide +kernel, by decide +kernel⟩, List.mem_of_getElem? (i := 474) (by decide +kernel), List.mem_of_getElem? (i := 534) (by decide +kernel), List.mem_of_getElem? (i := 535) (by decide +kernel)⟩
def lw_privs_2 : List (MethodName × Nat) := [(⟨"TextAsker$Text", "named", "(I)I"⟩, 4), (⟨"TextAsker", "extendWays", "(I)Z"⟩, 5), (⟨"TextAsker", "extendWay", "(II)Z"⟩, 5), (⟨"TextAsker$World", "allowsTaking", "(II)Z"⟩, 6), (⟨"TextAsker$World", "mayHave", "(II)Z"⟩, 6), (⟨"TextAsker$World", "allowsGiving", "(III)Z"⟩, 6), (⟨"TextAsker$Text", "wholeLength", "(I)I"⟩, 4), (⟨"TextAsker", "hasPrefix", "(I)Z"⟩, 5), (⟨"TextAsker", "hasReading", "(I)Z"⟩, 5), (⟨"TextAsker", "rightAnswer", "(I)I"⟩, 5), (⟨"TextAsker", "wasAnswer", "(II)Z"⟩, 5), (⟨"TextAskerModel", "canStand", "(I)Z"⟩, 9), (⟨"TextAskerModel", "signAt", "(II)I"⟩, 9), (⟨"TextAskerModel", "reads", "(I)V"⟩, 9), (⟨"TextAskerModel", "goes", "(I)V"⟩, 9), (⟨"TextAskerModel", "mayMean", "(III)Z"⟩, 9)]
theorem lw_r2 : ∀ q ∈ lw_privs_2, lw_okq q := List.forall_mem_cons.mpr ⟨lw_p16, List.forall_mem_cons.mpr ⟨lw_p17, List.forall_mem_cons.mpr ⟨lw_p18, List.forall_mem_cons.mpr ⟨lw_p19, List.forall_mem_cons.mpr ⟨lw_p20, List.forall_mem_cons.mpr ⟨lw_p21, List.forall_mem_cons.mpr ⟨lw_p22, List.forall_mem_cons.mpr ⟨lw_p23, List.forall_mem_cons.mpr ⟨lw_p24, List.forall_mem_cons.mpr ⟨lw_p25, List.forall_mem_cons.mpr ⟨lw_p26, List.forall_mem_cons.mpr ⟨lw_p27, List.forall_mem_cons.mpr ⟨lw_p28, List.forall_mem_cons.mpr ⟨lw_p29, List.forall_mem_cons.mpr ⟨lw_p30, List.forall_mem_cons.mpr ⟨lw_p31, fun _ h => absurd h List.not_mem_nil⟩⟩⟩⟩⟩⟩⟩⟩⟩⟩⟩⟩⟩⟩⟩⟩
theorem lw_p32 : lw_okq (⟨"TextAskerModel", "names", "(II)Z"⟩, 9) := ⟨⟨by decide +kernel, by decide +kernel⟩, List.mem_of_getElem? (i := 474) (by decide +kernel), List.mem_of_getElem? (i := 538) (by decide +kernel), List.mem_of_getElem? (i := 539) (by decide +kernel)⟩
theorem lw_p33 : lw_okq (⟨"TextAskerModel", "tries", "(IIII)V"⟩, 9) := ⟨⟨by decide +kernel, by decide +kernel⟩, List.mem_of_getElem? (i := 474) (by decide +kernel), List.mem_of_getElem? (i := 542) (by decide +kernel), List.mem_of_getElem? (i := 543) (by decide +kernel)⟩
theorem lw_p34 : lw_okq (⟨"TextAskerModel", "walks", "(IIII)Z"⟩, 9) := ⟨⟨by decide +kernel, by decide +kernel⟩, List.mem_of_getElem? (i := 474) (by decide +kernel), List.mem_of_getElem? (i := 546) (by decide +kernel), List.mem_of_getElem? (i := 547) (by decide +kernel)⟩
theorem lw_p35 : lw_okq (⟨"TextAskerModel", "takes", "(IIII)Z"⟩, 9) := ⟨⟨by decide +kernel, by decide +kernel⟩, List.mem_of_getElem? (i := 474) (by decide +kernel), List.mem_of_getElem? (i := 550) (by decide +kernel), List.mem_of_getElem? (i := 551) (by decide +kernel)⟩
theorem lw_p36 : lw_okq (⟨"TextAskerModel", "isOthers", "(III)Z"⟩, 9) := ⟨⟨by decide +kernel, by decide +kernel⟩, List.mem_of_getElem? (i := 474) (by decide +kernel), List.mem_of_getElem? (i := 554) (by decide +kernel), List.mem_of_getElem? (i := 555) (by decide +kernel)⟩
theorem lw_p37 : lw_okq (⟨"TextAskerModel", "has", "(IIII)V"⟩, 9) := ⟨⟨by decide +kernel, by decide +kernel⟩, List.mem_of_getElem? (i := 474) (by decide +kernel), List.mem_of_getElem? (i := 558) (by decide +kernel), List.mem_of_getElem? (i := 559) (by decide +kernel)⟩
theorem lw_p38 : lw_okq (⟨"TextAskerModel", "drops", "(IIII)Z"⟩, 9) := ⟨⟨by decide +kernel, by decide +kernel⟩, List.mem_of_getElem? (i := 474) (by decide +kernel), List.mem_of_getElem? (i := 562) (by decide +kernel), List.mem_of_getElem? (i := 563) (by decide +kernel)⟩
theorem lw_p39 : lw_okq (⟨"TextAskerModel", "gives", "(IIIII)Z"⟩, 9) := ⟨⟨by decide +kernel, by decide +kernel⟩, List.mem_of_getElem? (i := 474) (by decide +kernel), List.mem_of_getElem? (i := 566) (by decide +kernel), List.mem_of_getElem? (i := 567) (by decide +kernel)⟩
theorem lw_p40 : lw_okq (⟨"TextAskerModel", "answers", "(II)I"⟩, 9) := ⟨⟨by decide +kernel, by decide +kernel⟩, List.mem_of_getElem? (i := 474) (by decide +kernel), List.mem_of_getElem? (i := 593) (by decide +kernel), List.mem_of_getElem? (i := 594) (by decide +kernel)⟩
theorem lw_p41 : lw_okq (⟨"TextAskerModel", "tells", "(III)I"⟩, 9) := ⟨⟨by decide +kernel, by decide +kernel⟩, List.mem_of_getElem? (i := 474) (by decide +kernel), List.mem_of_getElem? (i := 597) (by decide +kernel), List.mem_of_getElem? (i := 598) (by decide +kernel)⟩
theorem lw_p42 : lw_okq (⟨"TextAskerModel", "by", "(III)I"⟩, 9) := ⟨⟨by decide +kernel, by decide +kernel⟩, List.mem_of_getElem? (i := 474) (by decide +kernel), List.mem_of_getElem? (i := 605) (by decide +kernel), List.mem_of_getElem? (i := 606) (by decide +kernel)⟩
theorem lw_p43 : lw_okq (⟨"TextAskerModel", "asked", "(II)I"⟩, 9) := ⟨⟨by decide +kernel, by decide +kernel⟩, List.mem_of_getElem? (i := 474) (by decide +kernel), List.mem_of_getElem? (i := 628) (by decide +kernel), List.mem_of_getElem? (i := 629) (by decide +kernel)⟩
theorem lw_p44 : lw_okq (⟨"TextAskerModel", "gathers", "()I"⟩, 9) := ⟨⟨by decide +kernel, by decide +kernel⟩, List.mem_of_getElem? (i := 474) (by decide +kernel), List.mem_of_getElem? (i := 636) (by decide +kernel), List.mem_of_getElem? (i := 637) (by decide +kernel)⟩
theorem lw_p45 : lw_okq (⟨"TextAskerModel", "isNamed", "(I)Z"⟩, 9) := ⟨⟨by decide +kernel, by decide +kernel⟩, List.mem_of_getElem? (i := 474) (by decide +kernel), List.mem_of_getElem? (i := 644) (by decide +kernel), List.mem_of_getElem? (i := 645) (by decide +kernel)⟩
def lw_privs_3 : List (MethodName × Nat) := [(⟨"TextAskerModel", "names", "(II)Z"⟩, 9), (⟨"TextAskerModel", "tries", "(IIII)V"⟩, 9), (⟨"TextAskerModel", "walks", "(IIII)Z"⟩, 9), (⟨"TextAskerModel", "takes", "(IIII)Z"⟩, 9), (⟨"TextAskerModel", "isOthers", "(III)Z"⟩, 9), (⟨"TextAskerModel", "has", "(IIII)V"⟩, 9), (⟨"TextAskerModel", "drops", "(IIII)Z"⟩, 9), (⟨"TextAskerModel", "gives", "(IIIII)Z"⟩, 9), (⟨"TextAskerModel", "answers", "(II)I"⟩, 9), (⟨"TextAskerModel", "tells", "(III)I"⟩, 9), (⟨"TextAskerModel", "by", "(III)I"⟩, 9), (⟨"TextAskerModel", "asked", "(II)I"⟩, 9), (⟨"TextAskerModel", "gathers", "()I"⟩, 9), (⟨"TextAskerModel", "isNamed", "(I)Z"⟩, 9)]
theorem lw_r3 : ∀ q ∈ lw_privs_3, lw_okq q := List.forall_mem_cons.mpr ⟨lw_p32, List.forall_mem_cons.mpr ⟨lw_p33, List.forall_mem_cons.mpr ⟨lw_p34, List.forall_mem_cons.mpr ⟨lw_p35, List.forall_mem_cons.mpr ⟨lw_p36, List.forall_mem_cons.mpr ⟨lw_p37, List.forall_mem_cons.mpr ⟨lw_p38, List.forall_mem_cons.mpr ⟨lw_p39, List.forall_mem_cons.mpr ⟨lw_p40, List.forall_mem_cons.mpr ⟨lw_p41, List.forall_mem_cons.mpr ⟨lw_p42, List.forall_mem_cons.mpr ⟨lw_p43, List.forall_mem_cons.mpr ⟨lw_p44, List.forall_mem_cons.mpr ⟨lw_p45, fun _ h => absurd h List.not_mem_nil⟩⟩⟩⟩⟩⟩⟩⟩⟩⟩⟩⟩⟩⟩
def lw_privs : List (MethodName × Nat) := lw_privs_1 ++ (lw_privs_2 ++ (lw_privs_3))
def lw_tbl : List Cond := k2_sels lw_privs ++ tables_1
theorem lw_privs_ok : ∀ q ∈ lw_privs, lw_okq q := by
  show ∀ q ∈ lw_privs_1 ++ (lw_privs_2 ++ (lw_privs_3)), lw_okq q
  exact List.forall_mem_append.mpr ⟨lw_r1, List.forall_mem_append.mpr ⟨lw_r2, lw_r3⟩⟩
end
section
def RX0 : String := "TextAsker$Cover"
def TX0 : u_T := fun k => match k with
  | 0 => ("TextAsker$Cover", "sets", "[I", true)
  | 1 => ("TextAsker$Cover", "size", "I", false)
  | _ => ("TextAsker$Cover", "all", "I", false)
def tyX0 : Nat → FieldType := fun k => match k with
  | 0 => .array .int
  | 1 => .int
  | _ => .int
theorem nmX0 : ∀ a, a < 3 → ∀ b, b < 3 → a ≠ b → (TX0 a).2.1 ≠ (TX0 b).2.1 := by decide +kernel
theorem tyX0_ok : ∀ k, k < 3 → parseFieldDescriptor (TX0 k).2.2.1 = some (tyX0 k) := by decide +kernel
abbrev cX0_init : ByteArray := prog_2_method_1_code
def yX0_init : MethodName := ⟨RX0, "<init>", "()V"⟩
abbrev cX0_clear : ByteArray := prog_2_method_2_code
def yX0_clear : MethodName := ⟨RX0, "clear", "()V"⟩
abbrev cX0_offer : ByteArray := prog_2_method_3_code
def yX0_offer : MethodName := ⟨RX0, "offer", "(I)V"⟩
abbrev cX0_least : ByteArray := prog_2_method_4_code
def yX0_least : MethodName := ⟨RX0, "least", "()I"⟩
abbrev cX0_suffice : ByteArray := prog_2_method_5_code
def yX0_suffice : MethodName := ⟨RX0, "suffice", "([IIII)Z"⟩
abbrev cX0_widest : ByteArray := prog_2_method_6_code
def yX0_widest : MethodName := ⟨RX0, "widest", "([III)I"⟩
abbrev cX0_rarest : ByteArray := prog_2_method_7_code
def yX0_rarest : MethodName := ⟨RX0, "rarest", "([III)I"⟩
abbrev cX0_holdersOf : ByteArray := prog_2_method_8_code
def yX0_holdersOf : MethodName := ⟨RX0, "holdersOf", "([III)I"⟩
def RX1 : String := "TextAsker$Findings"
def TX1 : u_T := fun k => match k with
  | 0 => ("TextAsker$Findings", "answers", "[[I", true)
  | 1 => ("TextAsker$Findings", "levels", "[[I", true)
  | _ => ("TextAsker$Findings", "asked", "[[I", true)
def tyX1 : Nat → FieldType := fun k => match k with
  | 0 => .array (.array .int)
  | 1 => .array (.array .int)
  | _ => .array (.array .int)
theorem nmX1 : ∀ a, a < 3 → ∀ b, b < 3 → a ≠ b → (TX1 a).2.1 ≠ (TX1 b).2.1 := by decide +kernel
theorem tyX1_ok : ∀ k, k < 3 → parseFieldDescriptor (TX1 k).2.2.1 = some (tyX1 k) := by decide +kernel
abbrev cX1_init : ByteArray := prog_3_method_1_code
def yX1_init : MethodName := ⟨RX1, "<init>", "()V"⟩
abbrev cX1_hear : ByteArray := prog_3_method_2_code
def yX1_hear : MethodName := ⟨RX1, "hear", "(ILTextAsker$World;Z)V"⟩
abbrev cX1_begin : ByteArray := prog_3_method_3_code
def yX1_begin : MethodName := ⟨RX1, "begin", "(IIII)V"⟩
abbrev cX1_join : ByteArray := prog_3_method_4_code
def yX1_join : MethodName := ⟨RX1, "join", "(IIII)V"⟩
abbrev cX1_close : ByteArray := prog_3_method_5_code
def yX1_close : MethodName := ⟨RX1, "close", "(I)V"⟩
abbrev cX1_answered : ByteArray := prog_3_method_6_code
def yX1_answered : MethodName := ⟨RX1, "answered", "(I)I"⟩
abbrev cX1_doubted : ByteArray := prog_3_method_7_code
def yX1_doubted : MethodName := ⟨RX1, "doubted", "(I)I"⟩
def RX2 : String := "TextAsker$Text"
def TX2 : u_T := fun k => match k with
  | 0 => ("TextAsker$Text", "signs", "[I", true)
  | 1 => ("TextAsker$Text", "meant", "[I", true)
  | 2 => ("TextAsker$Text", "sentences", "I", false)
  | _ => ("TextAsker$Text", "begun", "I", false)
def tyX2 : Nat → FieldType := fun k => match k with
  | 0 => .array .int
  | 1 => .array .int
  | 2 => .int
  | _ => .int
theorem nmX2 : ∀ a, a < 4 → ∀ b, b < 4 → a ≠ b → (TX2 a).2.1 ≠ (TX2 b).2.1 := by decide +kernel
theorem tyX2_ok : ∀ k, k < 4 → parseFieldDescriptor (TX2 k).2.2.1 = some (tyX2 k) := by decide +kernel
abbrev cX2_init : ByteArray := prog_4_method_1_code
def yX2_init : MethodName := ⟨RX2, "<init>", "()V"⟩
abbrev cX2_fits : ByteArray := prog_4_method_2_code
def yX2_fits : MethodName := ⟨RX2, "fits", "(I)Z"⟩
abbrev cX2_add : ByteArray := prog_4_method_3_code
def yX2_add : MethodName := ⟨RX2, "add", "(I)V"⟩
abbrev cX2_forgetBegun : ByteArray := prog_4_method_4_code
def yX2_forgetBegun : MethodName := ⟨RX2, "forgetBegun", "()V"⟩
abbrev cX2_closeBegun : ByteArray := prog_4_method_5_code
def yX2_closeBegun : MethodName := ⟨RX2, "closeBegun", "()V"⟩
abbrev cX2_forgetLatest : ByteArray := prog_4_method_6_code
def yX2_forgetLatest : MethodName := ⟨RX2, "forgetLatest", "()Z"⟩
abbrev cX2_signAt : ByteArray := prog_4_method_7_code
def yX2_signAt : MethodName := ⟨RX2, "signAt", "(II)I"⟩
abbrev cX2_wholeLength : ByteArray := prog_4_method_8_code
def yX2_wholeLength : MethodName := ⟨RX2, "wholeLength", "(I)I"⟩
abbrev cX2_verb : ByteArray := prog_4_method_9_code
def yX2_verb : MethodName := ⟨RX2, "verb", "(I)I"⟩
abbrev cX2_object : ByteArray := prog_4_method_10_code
def yX2_object : MethodName := ⟨RX2, "object", "(I)I"⟩
abbrev cX2_cast : ByteArray := prog_4_method_11_code
def yX2_cast : MethodName := ⟨RX2, "cast", "()V"⟩
abbrev cX2_candidates : ByteArray := prog_4_method_12_code
def yX2_candidates : MethodName := ⟨RX2, "candidates", "(I)I"⟩
abbrev cX2_named : ByteArray := prog_4_method_13_code
def yX2_named : MethodName := ⟨RX2, "named", "(I)I"⟩
abbrev cX2_personBit : ByteArray := prog_4_method_14_code
def yX2_personBit : MethodName := ⟨RX2, "personBit", "(I)I"⟩
abbrev cX2_allNamed : ByteArray := prog_4_method_15_code
def yX2_allNamed : MethodName := ⟨RX2, "allNamed", "()I"⟩
abbrev cX2_allPlaces : ByteArray := prog_4_method_16_code
def yX2_allPlaces : MethodName := ⟨RX2, "allPlaces", "()I"⟩
abbrev cX2_mayMean : ByteArray := prog_4_method_17_code
def yX2_mayMean : MethodName := ⟨RX2, "mayMean", "(II)I"⟩
abbrev cX2_person : ByteArray := prog_4_method_18_code
def yX2_person : MethodName := ⟨RX2, "person", "(III)I"⟩
def RX3 : String := "TextAsker$Ways"
def TX3 : u_T := fun k => match k with
  | 0 => ("TextAsker$Ways", "rows", "[[I", true)
  | _ => ("TextAsker$Ways", "sizes", "[I", true)
def tyX3 : Nat → FieldType := fun k => match k with
  | 0 => .array (.array .int)
  | _ => .array .int
theorem nmX3 : ∀ a, a < 2 → ∀ b, b < 2 → a ≠ b → (TX3 a).2.1 ≠ (TX3 b).2.1 := by decide +kernel
theorem tyX3_ok : ∀ k, k < 2 → parseFieldDescriptor (TX3 k).2.2.1 = some (tyX3 k) := by decide +kernel
abbrev cX3_init : ByteArray := prog_5_method_1_code
def yX3_init : MethodName := ⟨RX3, "<init>", "()V"⟩
abbrev cX3_size : ByteArray := prog_5_method_2_code
def yX3_size : MethodName := ⟨RX3, "size", "(I)I"⟩
abbrev cX3_choices : ByteArray := prog_5_method_3_code
def yX3_choices : MethodName := ⟨RX3, "choices", "(II)I"⟩
abbrev cX3_clear : ByteArray := prog_5_method_4_code
def yX3_clear : MethodName := ⟨RX3, "clear", "(I)V"⟩
abbrev cX3_add : ByteArray := prog_5_method_5_code
def yX3_add : MethodName := ⟨RX3, "add", "(II)Z"⟩
def RX4 : String := "TextAsker$World"
def TX4 : u_T := fun k => match k with
  | 0 => ("TextAsker$World", "places", "[I", true)
  | 1 => ("TextAsker$World", "placeGrounds", "[I", true)
  | 2 => ("TextAsker$World", "holders", "[I", true)
  | 3 => ("TextAsker$World", "holderGrounds", "[I", true)
  | 4 => ("TextAsker$World", "spots", "[I", true)
  | _ => ("TextAsker$World", "spotGrounds", "[I", true)
def tyX4 : Nat → FieldType := fun k => match k with
  | 0 => .array .int
  | 1 => .array .int
  | 2 => .array .int
  | 3 => .array .int
  | 4 => .array .int
  | _ => .array .int
theorem nmX4 : ∀ a, a < 6 → ∀ b, b < 6 → a ≠ b → (TX4 a).2.1 ≠ (TX4 b).2.1 := by decide +kernel
theorem tyX4_ok : ∀ k, k < 6 → parseFieldDescriptor (TX4 k).2.2.1 = some (tyX4 k) := by decide +kernel
abbrev cX4_init : ByteArray := prog_6_method_1_code
def yX4_init : MethodName := ⟨RX4, "<init>", "()V"⟩
abbrev cX4_goThrough : ByteArray := prog_6_method_2_code
def yX4_goThrough : MethodName := ⟨RX4, "goThrough", "(LTextAsker$Text;II)V"⟩
abbrev cX4_forgetAll : ByteArray := prog_6_method_3_code
def yX4_forgetAll : MethodName := ⟨RX4, "forgetAll", "()V"⟩
abbrev cX4_allows : ByteArray := prog_6_method_4_code
def yX4_allows : MethodName := ⟨RX4, "allows", "(LTextAsker$Text;II)Z"⟩
abbrev cX4_allowsTaking : ByteArray := prog_6_method_5_code
def yX4_allowsTaking : MethodName := ⟨RX4, "allowsTaking", "(II)Z"⟩
abbrev cX4_allowsGiving : ByteArray := prog_6_method_6_code
def yX4_allowsGiving : MethodName := ⟨RX4, "allowsGiving", "(III)Z"⟩
abbrev cX4_mayHave : ByteArray := prog_6_method_7_code
def yX4_mayHave : MethodName := ⟨RX4, "mayHave", "(II)Z"⟩
abbrev cX4_mayBeOnePlace : ByteArray := prog_6_method_8_code
def yX4_mayBeOnePlace : MethodName := ⟨RX4, "mayBeOnePlace", "(II)Z"⟩
abbrev cX4_tell : ByteArray := prog_6_method_9_code
def yX4_tell : MethodName := ⟨RX4, "tell", "(LTextAsker$Text;II)V"⟩
abbrev cX4_tellTaking : ByteArray := prog_6_method_10_code
def yX4_tellTaking : MethodName := ⟨RX4, "tellTaking", "(III)V"⟩
abbrev cX4_tellDropping : ByteArray := prog_6_method_11_code
def yX4_tellDropping : MethodName := ⟨RX4, "tellDropping", "(III)V"⟩
abbrev cX4_tellGiving : ByteArray := prog_6_method_12_code
def yX4_tellGiving : MethodName := ⟨RX4, "tellGiving", "(IIII)V"⟩
abbrev cX4_inferPlace : ByteArray := prog_6_method_13_code
def yX4_inferPlace : MethodName := ⟨RX4, "inferPlace", "(III)V"⟩
abbrev cX4_handTo : ByteArray := prog_6_method_14_code
def yX4_handTo : MethodName := ⟨RX4, "handTo", "(III)V"⟩
abbrev cX4_value : ByteArray := prog_6_method_15_code
def yX4_value : MethodName := ⟨RX4, "value", "(II)I"⟩
abbrev cX4_thingPlace : ByteArray := prog_6_method_16_code
def yX4_thingPlace : MethodName := ⟨RX4, "thingPlace", "(I)I"⟩
abbrev cX4_hadThings : ByteArray := prog_6_method_17_code
def yX4_hadThings : MethodName := ⟨RX4, "hadThings", "(I)I"⟩
abbrev cX4_basis : ByteArray := prog_6_method_18_code
def yX4_basis : MethodName := ⟨RX4, "basis", "(II)I"⟩
abbrev cX4_thingPlaceBasis : ByteArray := prog_6_method_19_code
def yX4_thingPlaceBasis : MethodName := ⟨RX4, "thingPlaceBasis", "(I)I"⟩
abbrev cX4_hadThingsBasis : ByteArray := prog_6_method_20_code
def yX4_hadThingsBasis : MethodName := ⟨RX4, "hadThingsBasis", "(I)I"⟩
def RX5 : String := "TextAsker"
def TX5 : u_T := fun k => match k with
  | 0 => ("TextAsker", "text", "LTextAsker$Text;", true)
  | 1 => ("TextAsker", "ways", "LTextAsker$Ways;", true)
  | 2 => ("TextAsker", "world", "LTextAsker$World;", true)
  | 3 => ("TextAsker", "findings", "LTextAsker$Findings;", true)
  | _ => ("TextAsker", "cover", "LTextAsker$Cover;", true)
def tyX5 : Nat → FieldType := fun k => match k with
  | 0 => .object "TextAsker$Text"
  | 1 => .object "TextAsker$Ways"
  | 2 => .object "TextAsker$World"
  | 3 => .object "TextAsker$Findings"
  | _ => .object "TextAsker$Cover"
theorem nmX5 : ∀ a, a < 5 → ∀ b, b < 5 → a ≠ b → (TX5 a).2.1 ≠ (TX5 b).2.1 := by decide +kernel
theorem tyX5_ok : ∀ k, k < 5 → parseFieldDescriptor (TX5 k).2.2.1 = some (tyX5 k) := by decide +kernel
abbrev cX5_init : ByteArray := prog_1_method_1_code
def yX5_init : MethodName := ⟨RX5, "<init>", "()V"⟩
abbrev cX5_sign : ByteArray := prog_1_method_2_code
def yX5_sign : MethodName := ⟨RX5, "sign", "(I)Z"⟩
abbrev cX5_back : ByteArray := prog_1_method_3_code
def yX5_back : MethodName := ⟨RX5, "back", "()Z"⟩
abbrev cX5_told : ByteArray := prog_1_method_4_code
def yX5_told : MethodName := ⟨RX5, "told", "(II)I"⟩
abbrev cX5_readings : ByteArray := prog_1_method_5_code
def yX5_readings : MethodName := ⟨RX5, "readings", "(I)I"⟩
abbrev cX5_means : ByteArray := prog_1_method_6_code
def yX5_means : MethodName := ⟨RX5, "means", "(III)I"⟩
abbrev cX5_answer : ByteArray := prog_1_method_7_code
def yX5_answer : MethodName := ⟨RX5, "answer", "(III)I"⟩
abbrev cX5_level : ByteArray := prog_1_method_8_code
def yX5_level : MethodName := ⟨RX5, "level", "(III)I"⟩
abbrev cX5_grounds : ByteArray := prog_1_method_9_code
def yX5_grounds : MethodName := ⟨RX5, "grounds", "(III)I"⟩
abbrev cX5_judge : ByteArray := prog_1_method_10_code
def yX5_judge : MethodName := ⟨RX5, "judge", "(III)I"⟩
abbrev cX5_asks : ByteArray := prog_1_method_11_code
def yX5_asks : MethodName := ⟨RX5, "asks", "(II)I"⟩
abbrev cX5_fewest : ByteArray := prog_1_method_12_code
def yX5_fewest : MethodName := ⟨RX5, "fewest", "()I"⟩
abbrev cX5_wrong : ByteArray := prog_1_method_13_code
def yX5_wrong : MethodName := ⟨RX5, "wrong", "(III)I"⟩
abbrev cX5_count : ByteArray := prog_1_method_14_code
def yX5_count : MethodName := ⟨RX5, "count", "(I)I"⟩
abbrev cX5_hasPrefix : ByteArray := prog_1_method_15_code
def yX5_hasPrefix : MethodName := ⟨RX5, "hasPrefix", "(I)Z"⟩
abbrev cX5_hasReading : ByteArray := prog_1_method_16_code
def yX5_hasReading : MethodName := ⟨RX5, "hasReading", "(I)Z"⟩
abbrev cX5_rightAnswer : ByteArray := prog_1_method_17_code
def yX5_rightAnswer : MethodName := ⟨RX5, "rightAnswer", "(I)I"⟩
abbrev cX5_wasAnswer : ByteArray := prog_1_method_18_code
def yX5_wasAnswer : MethodName := ⟨RX5, "wasAnswer", "(II)Z"⟩
abbrev cX5_finishSentence : ByteArray := prog_1_method_19_code
def yX5_finishSentence : MethodName := ⟨RX5, "finishSentence", "()Z"⟩
abbrev cX5_extendWays : ByteArray := prog_1_method_20_code
def yX5_extendWays : MethodName := ⟨RX5, "extendWays", "(I)Z"⟩
abbrev cX5_extendWay : ByteArray := prog_1_method_21_code
def yX5_extendWay : MethodName := ⟨RX5, "extendWay", "(II)Z"⟩
abbrev cX5_findAnswers : ByteArray := prog_1_method_22_code
def yX5_findAnswers : MethodName := ⟨RX5, "findAnswers", "(I)V"⟩
abbrev cX5_choiceBut : ByteArray := prog_1_method_23_code
def yX5_choiceBut : MethodName := ⟨RX5, "choiceBut", "(IIII)I"⟩
abbrev cX5_choiceBit : ByteArray := prog_1_method_24_code
def yX5_choiceBit : MethodName := ⟨RX5, "choiceBit", "(III)I"⟩
abbrev cX5_aboutCount : ByteArray := prog_1_method_25_code
def yX5_aboutCount : MethodName := ⟨RX5, "aboutCount", "(I)I"⟩
abbrev cX5_questionNumber : ByteArray := prog_1_method_26_code
def yX5_questionNumber : MethodName := ⟨RX5, "questionNumber", "(II)I"⟩
abbrev cX5_isOfKind : ByteArray := prog_1_method_27_code
def yX5_isOfKind : MethodName := ⟨RX5, "isOfKind", "(II)Z"⟩
abbrev cX5_isPerson : ByteArray := prog_1_method_28_code
def yX5_isPerson : MethodName := ⟨RX5, "isPerson", "(I)Z"⟩
abbrev cX5_isThing : ByteArray := prog_1_method_29_code
def yX5_isThing : MethodName := ⟨RX5, "isThing", "(I)Z"⟩
abbrev cX5_isPlace : ByteArray := prog_1_method_30_code
def yX5_isPlace : MethodName := ⟨RX5, "isPlace", "(I)Z"⟩
abbrev cX5_isWho : ByteArray := prog_1_method_31_code
def yX5_isWho : MethodName := ⟨RX5, "isWho", "(I)Z"⟩
def RX6 : String := "TextAskerModel"
def TX6 : u_T := fun k => match k with
  | 0 => ("TextAskerModel", "sentences", "I", false)
  | 1 => ("TextAskerModel", "signs", "[I", true)
  | 2 => ("TextAskerModel", "longs", "[I", true)
  | 3 => ("TextAskerModel", "now", "[I", true)
  | 4 => ("TextAskerModel", "next", "[I", true)
  | 5 => ("TextAskerModel", "many", "I", false)
  | 6 => ("TextAskerModel", "masks", "[I", true)
  | 7 => ("TextAskerModel", "choice", "[I", true)
  | _ => ("TextAskerModel", "covers", "[I", true)
def tyX6 : Nat → FieldType := fun k => match k with
  | 0 => .int
  | 1 => .array .int
  | 2 => .array .int
  | 3 => .array .int
  | 4 => .array .int
  | 5 => .int
  | 6 => .array .int
  | 7 => .array .int
  | _ => .array .int
theorem nmX6 : ∀ a, a < 9 → ∀ b, b < 9 → a ≠ b → (TX6 a).2.1 ≠ (TX6 b).2.1 := by decide +kernel
theorem tyX6_ok : ∀ k, k < 9 → parseFieldDescriptor (TX6 k).2.2.1 = some (tyX6 k) := by decide +kernel
abbrev cX6_init : ByteArray := prog_8_method_1_code
def yX6_init : MethodName := ⟨RX6, "<init>", "()V"⟩
abbrev cX6_in : ByteArray := prog_8_method_2_code
def yX6_in : MethodName := ⟨RX6, "in", "(III)Z"⟩
abbrev cX6_signAt : ByteArray := prog_8_method_3_code
def yX6_signAt : MethodName := ⟨RX6, "signAt", "(II)I"⟩
abbrev cX6_isWho : ByteArray := prog_8_method_4_code
def yX6_isWho : MethodName := ⟨RX6, "isWho", "(I)Z"⟩
abbrev cX6_canStand : ByteArray := prog_8_method_5_code
def yX6_canStand : MethodName := ⟨RX6, "canStand", "(I)Z"⟩
abbrev cX6_sign : ByteArray := prog_8_method_6_code
def yX6_sign : MethodName := ⟨RX6, "sign", "(I)Z"⟩
abbrev cX6_back : ByteArray := prog_8_method_7_code
def yX6_back : MethodName := ⟨RX6, "back", "()Z"⟩
abbrev cX6_told : ByteArray := prog_8_method_8_code
def yX6_told : MethodName := ⟨RX6, "told", "(II)I"⟩
abbrev cX6_names : ByteArray := prog_8_method_9_code
def yX6_names : MethodName := ⟨RX6, "names", "(II)Z"⟩
abbrev cX6_mayMean : ByteArray := prog_8_method_10_code
def yX6_mayMean : MethodName := ⟨RX6, "mayMean", "(III)Z"⟩
abbrev cX6_reads : ByteArray := prog_8_method_11_code
def yX6_reads : MethodName := ⟨RX6, "reads", "(I)V"⟩
abbrev cX6_goes : ByteArray := prog_8_method_12_code
def yX6_goes : MethodName := ⟨RX6, "goes", "(I)V"⟩
abbrev cX6_tries : ByteArray := prog_8_method_13_code
def yX6_tries : MethodName := ⟨RX6, "tries", "(IIII)V"⟩
abbrev cX6_walks : ByteArray := prog_8_method_14_code
def yX6_walks : MethodName := ⟨RX6, "walks", "(IIII)Z"⟩
abbrev cX6_isOthers : ByteArray := prog_8_method_15_code
def yX6_isOthers : MethodName := ⟨RX6, "isOthers", "(III)Z"⟩
abbrev cX6_takes : ByteArray := prog_8_method_16_code
def yX6_takes : MethodName := ⟨RX6, "takes", "(IIII)Z"⟩
abbrev cX6_has : ByteArray := prog_8_method_17_code
def yX6_has : MethodName := ⟨RX6, "has", "(IIII)V"⟩
abbrev cX6_drops : ByteArray := prog_8_method_18_code
def yX6_drops : MethodName := ⟨RX6, "drops", "(IIII)Z"⟩
abbrev cX6_gives : ByteArray := prog_8_method_19_code
def yX6_gives : MethodName := ⟨RX6, "gives", "(IIIII)Z"⟩
abbrev cX6_readings : ByteArray := prog_8_method_20_code
def yX6_readings : MethodName := ⟨RX6, "readings", "(I)I"⟩
abbrev cX6_means : ByteArray := prog_8_method_21_code
def yX6_means : MethodName := ⟨RX6, "means", "(III)I"⟩
abbrev cX6_isQuestion : ByteArray := prog_8_method_22_code
def yX6_isQuestion : MethodName := ⟨RX6, "isQuestion", "(II)Z"⟩
abbrev cX6_tells : ByteArray := prog_8_method_23_code
def yX6_tells : MethodName := ⟨RX6, "tells", "(III)I"⟩
abbrev cX6_by : ByteArray := prog_8_method_24_code
def yX6_by : MethodName := ⟨RX6, "by", "(III)I"⟩
abbrev cX6_answers : ByteArray := prog_8_method_25_code
def yX6_answers : MethodName := ⟨RX6, "answers", "(II)I"⟩
abbrev cX6_answer : ByteArray := prog_8_method_26_code
def yX6_answer : MethodName := ⟨RX6, "answer", "(III)I"⟩
abbrev cX6_bits : ByteArray := prog_8_method_27_code
def yX6_bits : MethodName := ⟨RX6, "bits", "(I)I"⟩
abbrev cX6_level : ByteArray := prog_8_method_28_code
def yX6_level : MethodName := ⟨RX6, "level", "(III)I"⟩
abbrev cX6_grounds : ByteArray := prog_8_method_29_code
def yX6_grounds : MethodName := ⟨RX6, "grounds", "(III)I"⟩
abbrev cX6_isOfKind : ByteArray := prog_8_method_30_code
def yX6_isOfKind : MethodName := ⟨RX6, "isOfKind", "(II)Z"⟩
abbrev cX6_judge : ByteArray := prog_8_method_31_code
def yX6_judge : MethodName := ⟨RX6, "judge", "(III)I"⟩
abbrev cX6_asked : ByteArray := prog_8_method_32_code
def yX6_asked : MethodName := ⟨RX6, "asked", "(II)I"⟩
abbrev cX6_asks : ByteArray := prog_8_method_33_code
def yX6_asks : MethodName := ⟨RX6, "asks", "(II)I"⟩
abbrev cX6_gathers : ByteArray := prog_8_method_34_code
def yX6_gathers : MethodName := ⟨RX6, "gathers", "()I"⟩
abbrev cX6_fewest : ByteArray := prog_8_method_35_code
def yX6_fewest : MethodName := ⟨RX6, "fewest", "()I"⟩
abbrev cX6_isNamed : ByteArray := prog_8_method_36_code
def yX6_isNamed : MethodName := ⟨RX6, "isNamed", "(I)Z"⟩
abbrev cX6_wrong : ByteArray := prog_8_method_37_code
def yX6_wrong : MethodName := ⟨RX6, "wrong", "(III)I"⟩
abbrev cX6_count : ByteArray := prog_8_method_38_code
def yX6_count : MethodName := ⟨RX6, "count", "(I)I"⟩
def RJ6 : String := "java/lang/Integer"
def TJ6 : u_T := fun k => match k with
  | _ => ("", "", "", false)
def tyJ6 : Nat → FieldType := fun k => match k with
  | _ => .int
theorem nmJ6 : ∀ a, a < 0 → ∀ b, b < 0 → a ≠ b → (TJ6 a).2.1 ≠ (TJ6 b).2.1 := by decide +kernel
theorem tyJ6_ok : ∀ k, k < 0 → parseFieldDescriptor (TJ6 k).2.2.1 = some (tyJ6 k) := by decide +kernel
abbrev cJ6_bitCount_0f7a4 : ByteArray := prog_9_method_49_code
def yJ6_bitCount_0f7a4 : MethodName := ⟨RJ6, "bitCount", "(I)I"⟩
def RJ9 : String := "java/lang/Math"
def TJ9 : u_T := fun k => match k with
  | _ => ("", "", "", false)
def tyJ9 : Nat → FieldType := fun k => match k with
  | _ => .int
theorem nmJ9 : ∀ a, a < 0 → ∀ b, b < 0 → a ≠ b → (TJ9 a).2.1 ≠ (TJ9 b).2.1 := by decide +kernel
theorem tyJ9_ok : ∀ k, k < 0 → parseFieldDescriptor (TJ9 k).2.2.1 = some (tyJ9 k) := by decide +kernel
abbrev cJ9_max_7cf53 : ByteArray := prog_10_method_65_code
def yJ9_max_7cf53 : MethodName := ⟨RJ9, "max", "(II)I"⟩
def RL : String := "TextAskerLaw"
abbrev cL_law : ByteArray := code
def yL_law : MethodName := ⟨RL, "law", "([I)Z"⟩
abbrev vwCl : List vw_C := [(RX0, TX0, 3), (RX1, TX1, 3), (RX2, TX2, 4), (RX3, TX3, 2), (RX4, TX4, 6), (RX5, TX5, 5), (RX6, TX6, 9)]
end
section
theorem dX0_init_0 : decode cX0_init 0 = .ok (.aload_n 0, 1) := by decide +kernel
theorem dX0_init_1 : decode cX0_init 1 = .ok (.invokespecial 3, 3) := by decide +kernel
theorem dX0_init_4 : decode cX0_init 4 = .ok (.aload_n 0, 1) := by decide +kernel
theorem dX0_init_5 : decode cX0_init 5 = .ok (.bipush 36, 2) := by decide +kernel
theorem dX0_init_7 : decode cX0_init 7 = .ok (.newarray .int, 2) := by decide +kernel
theorem dX0_init_9 : decode cX0_init 9 = .ok (.putfield 9, 3) := by decide +kernel
theorem dX0_init_12 : decode cX0_init 12 = .ok (.return_, 1) := by decide +kernel
theorem dX0_clear_0 : decode cX0_clear 0 = .ok (.aload_n 0, 1) := by decide +kernel
theorem dX0_clear_1 : decode cX0_clear 1 = .ok (.iconst 0, 1) := by decide +kernel
theorem dX0_clear_2 : decode cX0_clear 2 = .ok (.putfield 15, 3) := by decide +kernel
theorem dX0_clear_5 : decode cX0_clear 5 = .ok (.aload_n 0, 1) := by decide +kernel
theorem dX0_clear_6 : decode cX0_clear 6 = .ok (.iconst 0, 1) := by decide +kernel
theorem dX0_clear_7 : decode cX0_clear 7 = .ok (.putfield 19, 3) := by decide +kernel
theorem dX0_clear_10 : decode cX0_clear 10 = .ok (.return_, 1) := by decide +kernel
theorem dX0_offer_0 : decode cX0_offer 0 = .ok (.iconst 0, 1) := by decide +kernel
theorem dX0_offer_1 : decode cX0_offer 1 = .ok (.istore_n 2, 1) := by decide +kernel
theorem dX0_offer_2 : decode cX0_offer 2 = .ok (.iload_n 2, 1) := by decide +kernel
theorem dX0_offer_3 : decode cX0_offer 3 = .ok (.aload_n 0, 1) := by decide +kernel
theorem dX0_offer_4 : decode cX0_offer 4 = .ok (.getfield 15, 3) := by decide +kernel
theorem dX0_offer_7 : decode cX0_offer 7 = .ok (.if_icmp .ge 23, 3) := by decide +kernel
theorem dX0_offer_10 : decode cX0_offer 10 = .ok (.iload_n 1, 1) := by decide +kernel
theorem dX0_offer_11 : decode cX0_offer 11 = .ok (.aload_n 0, 1) := by decide +kernel
theorem dX0_offer_12 : decode cX0_offer 12 = .ok (.getfield 9, 3) := by decide +kernel
theorem dX0_offer_15 : decode cX0_offer 15 = .ok (.iload_n 2, 1) := by decide +kernel
theorem dX0_offer_16 : decode cX0_offer 16 = .ok (.iaload, 1) := by decide +kernel
theorem dX0_offer_17 : decode cX0_offer 17 = .ok (.iconst (-1), 1) := by decide +kernel
theorem dX0_offer_18 : decode cX0_offer 18 = .ok (.ixor, 1) := by decide +kernel
theorem dX0_offer_19 : decode cX0_offer 19 = .ok (.iand, 1) := by decide +kernel
theorem dX0_offer_20 : decode cX0_offer 20 = .ok (.ifCond .ne 4, 3) := by decide +kernel
theorem dX0_offer_23 : decode cX0_offer 23 = .ok (.return_, 1) := by decide +kernel
theorem dX0_offer_24 : decode cX0_offer 24 = .ok (.iinc 2 1, 3) := by decide +kernel
theorem dX0_offer_27 : decode cX0_offer 27 = .ok (.goto (-25), 3) := by decide +kernel
theorem dX0_offer_30 : decode cX0_offer 30 = .ok (.iconst 0, 1) := by decide +kernel
theorem dX0_offer_31 : decode cX0_offer 31 = .ok (.istore_n 2, 1) := by decide +kernel
theorem dX0_offer_32 : decode cX0_offer 32 = .ok (.iconst 0, 1) := by decide +kernel
theorem dX0_offer_33 : decode cX0_offer 33 = .ok (.istore_n 3, 1) := by decide +kernel
theorem dX0_offer_34 : decode cX0_offer 34 = .ok (.iload_n 3, 1) := by decide +kernel
theorem dX0_offer_35 : decode cX0_offer 35 = .ok (.aload_n 0, 1) := by decide +kernel
theorem dX0_offer_36 : decode cX0_offer 36 = .ok (.getfield 15, 3) := by decide +kernel
theorem dX0_offer_39 : decode cX0_offer 39 = .ok (.if_icmp .ge 37, 3) := by decide +kernel
theorem dX0_offer_42 : decode cX0_offer 42 = .ok (.aload_n 0, 1) := by decide +kernel
theorem dX0_offer_43 : decode cX0_offer 43 = .ok (.getfield 9, 3) := by decide +kernel
theorem dX0_offer_46 : decode cX0_offer 46 = .ok (.iload_n 3, 1) := by decide +kernel
theorem dX0_offer_47 : decode cX0_offer 47 = .ok (.iaload, 1) := by decide +kernel
theorem dX0_offer_48 : decode cX0_offer 48 = .ok (.iload_n 1, 1) := by decide +kernel
theorem dX0_offer_49 : decode cX0_offer 49 = .ok (.iconst (-1), 1) := by decide +kernel
theorem dX0_offer_50 : decode cX0_offer 50 = .ok (.ixor, 1) := by decide +kernel
theorem dX0_offer_51 : decode cX0_offer 51 = .ok (.iand, 1) := by decide +kernel
theorem dX0_offer_52 : decode cX0_offer 52 = .ok (.ifCond .eq 18, 3) := by decide +kernel
theorem dX0_offer_55 : decode cX0_offer 55 = .ok (.aload_n 0, 1) := by decide +kernel
theorem dX0_offer_56 : decode cX0_offer 56 = .ok (.getfield 9, 3) := by decide +kernel
theorem dX0_offer_59 : decode cX0_offer 59 = .ok (.iload_n 2, 1) := by decide +kernel
theorem dX0_offer_60 : decode cX0_offer 60 = .ok (.aload_n 0, 1) := by decide +kernel
theorem dX0_offer_61 : decode cX0_offer 61 = .ok (.getfield 9, 3) := by decide +kernel
theorem dX0_offer_64 : decode cX0_offer 64 = .ok (.iload_n 3, 1) := by decide +kernel
theorem dX0_offer_65 : decode cX0_offer 65 = .ok (.iaload, 1) := by decide +kernel
theorem dX0_offer_66 : decode cX0_offer 66 = .ok (.iastore, 1) := by decide +kernel
theorem dX0_offer_67 : decode cX0_offer 67 = .ok (.iinc 2 1, 3) := by decide +kernel
theorem dX0_offer_70 : decode cX0_offer 70 = .ok (.iinc 3 1, 3) := by decide +kernel
theorem dX0_offer_73 : decode cX0_offer 73 = .ok (.goto (-39), 3) := by decide +kernel
theorem dX0_offer_76 : decode cX0_offer 76 = .ok (.iload_n 2, 1) := by decide +kernel
theorem dX0_offer_77 : decode cX0_offer 77 = .ok (.bipush 36, 2) := by decide +kernel
theorem dX0_offer_79 : decode cX0_offer 79 = .ok (.if_icmp .ge 27, 3) := by decide +kernel
theorem dX0_offer_82 : decode cX0_offer 82 = .ok (.aload_n 0, 1) := by decide +kernel
theorem dX0_offer_83 : decode cX0_offer 83 = .ok (.getfield 9, 3) := by decide +kernel
theorem dX0_offer_86 : decode cX0_offer 86 = .ok (.iload_n 2, 1) := by decide +kernel
theorem dX0_offer_87 : decode cX0_offer 87 = .ok (.iload_n 1, 1) := by decide +kernel
theorem dX0_offer_88 : decode cX0_offer 88 = .ok (.iastore, 1) := by decide +kernel
theorem dX0_offer_89 : decode cX0_offer 89 = .ok (.aload_n 0, 1) := by decide +kernel
theorem dX0_offer_90 : decode cX0_offer 90 = .ok (.iload_n 2, 1) := by decide +kernel
theorem dX0_offer_91 : decode cX0_offer 91 = .ok (.iconst 1, 1) := by decide +kernel
theorem dX0_offer_92 : decode cX0_offer 92 = .ok (.iadd, 1) := by decide +kernel
theorem dX0_offer_93 : decode cX0_offer 93 = .ok (.putfield 15, 3) := by decide +kernel
theorem dX0_offer_96 : decode cX0_offer 96 = .ok (.aload_n 0, 1) := by decide +kernel
theorem dX0_offer_97 : decode cX0_offer 97 = .ok (.dup, 1) := by decide +kernel
theorem dX0_offer_98 : decode cX0_offer 98 = .ok (.getfield 19, 3) := by decide +kernel
theorem dX0_offer_101 : decode cX0_offer 101 = .ok (.iload_n 1, 1) := by decide +kernel
theorem dX0_offer_102 : decode cX0_offer 102 = .ok (.ior, 1) := by decide +kernel
theorem dX0_offer_103 : decode cX0_offer 103 = .ok (.putfield 19, 3) := by decide +kernel
theorem dX0_offer_106 : decode cX0_offer 106 = .ok (.return_, 1) := by decide +kernel
theorem dX0_least_0 : decode cX0_least 0 = .ok (.iconst 0, 1) := by decide +kernel
theorem dX0_least_1 : decode cX0_least 1 = .ok (.istore_n 1, 1) := by decide +kernel
theorem dX0_least_2 : decode cX0_least 2 = .ok (.iload_n 1, 1) := by decide +kernel
theorem dX0_least_3 : decode cX0_least 3 = .ok (.bipush 14, 2) := by decide +kernel
theorem dX0_least_5 : decode cX0_least 5 = .ok (.if_icmp .ge 30, 3) := by decide +kernel
theorem dX0_least_8 : decode cX0_least 8 = .ok (.aload_n 0, 1) := by decide +kernel
theorem dX0_least_9 : decode cX0_least 9 = .ok (.getfield 9, 3) := by decide +kernel
theorem dX0_least_12 : decode cX0_least 12 = .ok (.aload_n 0, 1) := by decide +kernel
theorem dX0_least_13 : decode cX0_least 13 = .ok (.getfield 15, 3) := by decide +kernel
theorem dX0_least_16 : decode cX0_least 16 = .ok (.aload_n 0, 1) := by decide +kernel
theorem dX0_least_17 : decode cX0_least 17 = .ok (.getfield 19, 3) := by decide +kernel
theorem dX0_least_20 : decode cX0_least 20 = .ok (.iload_n 1, 1) := by decide +kernel
theorem dX0_least_21 : decode cX0_least 21 = .ok (.invokestatic 22, 3) := by decide +kernel
theorem dX0_least_24 : decode cX0_least 24 = .ok (.ifCond .eq 5, 3) := by decide +kernel
theorem dX0_least_27 : decode cX0_least 27 = .ok (.iload_n 1, 1) := by decide +kernel
theorem dX0_least_28 : decode cX0_least 28 = .ok (.ireturn, 1) := by decide +kernel
theorem dX0_least_29 : decode cX0_least 29 = .ok (.iinc 1 1, 3) := by decide +kernel
theorem dX0_least_32 : decode cX0_least 32 = .ok (.goto (-30), 3) := by decide +kernel
theorem dX0_least_35 : decode cX0_least 35 = .ok (.bipush 14, 2) := by decide +kernel
theorem dX0_least_37 : decode cX0_least 37 = .ok (.ireturn, 1) := by decide +kernel
theorem dX0_suffice_0 : decode cX0_suffice 0 = .ok (.iload_n 2, 1) := by decide +kernel
theorem dX0_suffice_1 : decode cX0_suffice 1 = .ok (.ifCond .ne 5, 3) := by decide +kernel
theorem dX0_suffice_4 : decode cX0_suffice 4 = .ok (.iconst 1, 1) := by decide +kernel
theorem dX0_suffice_5 : decode cX0_suffice 5 = .ok (.ireturn, 1) := by decide +kernel
theorem dX0_suffice_6 : decode cX0_suffice 6 = .ok (.iload_n 3, 1) := by decide +kernel
theorem dX0_suffice_7 : decode cX0_suffice 7 = .ok (.aload_n 0, 1) := by decide +kernel
theorem dX0_suffice_8 : decode cX0_suffice 8 = .ok (.iload_n 1, 1) := by decide +kernel
theorem dX0_suffice_9 : decode cX0_suffice 9 = .ok (.iload_n 2, 1) := by decide +kernel
theorem dX0_suffice_10 : decode cX0_suffice 10 = .ok (.invokestatic 26, 3) := by decide +kernel
theorem dX0_suffice_13 : decode cX0_suffice 13 = .ok (.imul, 1) := by decide +kernel
theorem dX0_suffice_14 : decode cX0_suffice 14 = .ok (.iload_n 2, 1) := by decide +kernel
theorem dX0_suffice_15 : decode cX0_suffice 15 = .ok (.invokestatic 30, 3) := by decide +kernel
theorem dX0_suffice_18 : decode cX0_suffice 18 = .ok (.if_icmp .ge 5, 3) := by decide +kernel
theorem dX0_suffice_21 : decode cX0_suffice 21 = .ok (.iconst 0, 1) := by decide +kernel
theorem dX0_suffice_22 : decode cX0_suffice 22 = .ok (.ireturn, 1) := by decide +kernel
theorem dX0_suffice_23 : decode cX0_suffice 23 = .ok (.aload_n 0, 1) := by decide +kernel
theorem dX0_suffice_24 : decode cX0_suffice 24 = .ok (.iload_n 1, 1) := by decide +kernel
theorem dX0_suffice_25 : decode cX0_suffice 25 = .ok (.iload_n 2, 1) := by decide +kernel
theorem dX0_suffice_26 : decode cX0_suffice 26 = .ok (.invokestatic 36, 3) := by decide +kernel
theorem dX0_suffice_29 : decode cX0_suffice 29 = .ok (.istore 4, 2) := by decide +kernel
theorem dX0_suffice_31 : decode cX0_suffice 31 = .ok (.iconst 0, 1) := by decide +kernel
theorem dX0_suffice_32 : decode cX0_suffice 32 = .ok (.istore 5, 2) := by decide +kernel
theorem dX0_suffice_34 : decode cX0_suffice 34 = .ok (.iload 5, 2) := by decide +kernel
theorem dX0_suffice_36 : decode cX0_suffice 36 = .ok (.iload_n 1, 1) := by decide +kernel
theorem dX0_suffice_37 : decode cX0_suffice 37 = .ok (.if_icmp .ge 40, 3) := by decide +kernel
theorem dX0_suffice_40 : decode cX0_suffice 40 = .ok (.aload_n 0, 1) := by decide +kernel
theorem dX0_suffice_41 : decode cX0_suffice 41 = .ok (.iload 5, 2) := by decide +kernel
theorem dX0_suffice_43 : decode cX0_suffice 43 = .ok (.iaload, 1) := by decide +kernel
theorem dX0_suffice_44 : decode cX0_suffice 44 = .ok (.iload 4, 2) := by decide +kernel
theorem dX0_suffice_46 : decode cX0_suffice 46 = .ok (.iand, 1) := by decide +kernel
theorem dX0_suffice_47 : decode cX0_suffice 47 = .ok (.ifCond .eq 24, 3) := by decide +kernel
theorem dX0_suffice_50 : decode cX0_suffice 50 = .ok (.aload_n 0, 1) := by decide +kernel
theorem dX0_suffice_51 : decode cX0_suffice 51 = .ok (.iload_n 1, 1) := by decide +kernel
theorem dX0_suffice_52 : decode cX0_suffice 52 = .ok (.iload_n 2, 1) := by decide +kernel
theorem dX0_suffice_53 : decode cX0_suffice 53 = .ok (.aload_n 0, 1) := by decide +kernel
theorem dX0_suffice_54 : decode cX0_suffice 54 = .ok (.iload 5, 2) := by decide +kernel
theorem dX0_suffice_56 : decode cX0_suffice 56 = .ok (.iaload, 1) := by decide +kernel
theorem dX0_suffice_57 : decode cX0_suffice 57 = .ok (.iconst (-1), 1) := by decide +kernel
theorem dX0_suffice_58 : decode cX0_suffice 58 = .ok (.ixor, 1) := by decide +kernel
theorem dX0_suffice_59 : decode cX0_suffice 59 = .ok (.iand, 1) := by decide +kernel
theorem dX0_suffice_60 : decode cX0_suffice 60 = .ok (.iload_n 3, 1) := by decide +kernel
theorem dX0_suffice_61 : decode cX0_suffice 61 = .ok (.iconst 1, 1) := by decide +kernel
theorem dX0_suffice_62 : decode cX0_suffice 62 = .ok (.isub, 1) := by decide +kernel
theorem dX0_suffice_63 : decode cX0_suffice 63 = .ok (.invokestatic 22, 3) := by decide +kernel
theorem dX0_suffice_66 : decode cX0_suffice 66 = .ok (.ifCond .eq 5, 3) := by decide +kernel
theorem dX0_suffice_69 : decode cX0_suffice 69 = .ok (.iconst 1, 1) := by decide +kernel
theorem dX0_suffice_70 : decode cX0_suffice 70 = .ok (.ireturn, 1) := by decide +kernel
theorem dX0_suffice_71 : decode cX0_suffice 71 = .ok (.iinc 5 1, 3) := by decide +kernel
theorem dX0_suffice_74 : decode cX0_suffice 74 = .ok (.goto (-40), 3) := by decide +kernel
theorem dX0_suffice_77 : decode cX0_suffice 77 = .ok (.iconst 0, 1) := by decide +kernel
theorem dX0_suffice_78 : decode cX0_suffice 78 = .ok (.ireturn, 1) := by decide +kernel
theorem dX0_widest_0 : decode cX0_widest 0 = .ok (.iconst 0, 1) := by decide +kernel
theorem dX0_widest_1 : decode cX0_widest 1 = .ok (.istore_n 3, 1) := by decide +kernel
theorem dX0_widest_2 : decode cX0_widest 2 = .ok (.iconst 0, 1) := by decide +kernel
theorem dX0_widest_3 : decode cX0_widest 3 = .ok (.istore 4, 2) := by decide +kernel
theorem dX0_widest_5 : decode cX0_widest 5 = .ok (.iload 4, 2) := by decide +kernel
theorem dX0_widest_7 : decode cX0_widest 7 = .ok (.iload_n 1, 1) := by decide +kernel
theorem dX0_widest_8 : decode cX0_widest 8 = .ok (.if_icmp .ge 23, 3) := by decide +kernel
theorem dX0_widest_11 : decode cX0_widest 11 = .ok (.iload_n 3, 1) := by decide +kernel
theorem dX0_widest_12 : decode cX0_widest 12 = .ok (.aload_n 0, 1) := by decide +kernel
theorem dX0_widest_13 : decode cX0_widest 13 = .ok (.iload 4, 2) := by decide +kernel
theorem dX0_widest_15 : decode cX0_widest 15 = .ok (.iaload, 1) := by decide +kernel
theorem dX0_widest_16 : decode cX0_widest 16 = .ok (.iload_n 2, 1) := by decide +kernel
theorem dX0_widest_17 : decode cX0_widest 17 = .ok (.iand, 1) := by decide +kernel
theorem dX0_widest_18 : decode cX0_widest 18 = .ok (.invokestatic 30, 3) := by decide +kernel
theorem dX0_widest_21 : decode cX0_widest 21 = .ok (.invokestatic 39, 3) := by decide +kernel
theorem dX0_widest_24 : decode cX0_widest 24 = .ok (.istore_n 3, 1) := by decide +kernel
theorem dX0_widest_25 : decode cX0_widest 25 = .ok (.iinc 4 1, 3) := by decide +kernel
theorem dX0_widest_28 : decode cX0_widest 28 = .ok (.goto (-23), 3) := by decide +kernel
theorem dX0_widest_31 : decode cX0_widest 31 = .ok (.iload_n 3, 1) := by decide +kernel
theorem dX0_widest_32 : decode cX0_widest 32 = .ok (.ireturn, 1) := by decide +kernel
theorem dX0_rarest_0 : decode cX0_rarest 0 = .ok (.iconst 0, 1) := by decide +kernel
theorem dX0_rarest_1 : decode cX0_rarest 1 = .ok (.istore_n 3, 1) := by decide +kernel
theorem dX0_rarest_2 : decode cX0_rarest 2 = .ok (.bipush 37, 2) := by decide +kernel
theorem dX0_rarest_4 : decode cX0_rarest 4 = .ok (.istore 4, 2) := by decide +kernel
theorem dX0_rarest_6 : decode cX0_rarest 6 = .ok (.iconst 0, 1) := by decide +kernel
theorem dX0_rarest_7 : decode cX0_rarest 7 = .ok (.istore 5, 2) := by decide +kernel
theorem dX0_rarest_9 : decode cX0_rarest 9 = .ok (.iload 5, 2) := by decide +kernel
theorem dX0_rarest_11 : decode cX0_rarest 11 = .ok (.bipush 14, 2) := by decide +kernel
theorem dX0_rarest_13 : decode cX0_rarest 13 = .ok (.if_icmp .ge 50, 3) := by decide +kernel
theorem dX0_rarest_16 : decode cX0_rarest 16 = .ok (.iload_n 2, 1) := by decide +kernel
theorem dX0_rarest_17 : decode cX0_rarest 17 = .ok (.iload 5, 2) := by decide +kernel
theorem dX0_rarest_19 : decode cX0_rarest 19 = .ok (.ishr, 1) := by decide +kernel
theorem dX0_rarest_20 : decode cX0_rarest 20 = .ok (.iconst 1, 1) := by decide +kernel
theorem dX0_rarest_21 : decode cX0_rarest 21 = .ok (.iand, 1) := by decide +kernel
theorem dX0_rarest_22 : decode cX0_rarest 22 = .ok (.ifCond .ne 8, 3) := by decide +kernel
theorem dX0_rarest_25 : decode cX0_rarest 25 = .ok (.iload 4, 2) := by decide +kernel
theorem dX0_rarest_27 : decode cX0_rarest 27 = .ok (.goto 12, 3) := by decide +kernel
theorem dX0_rarest_30 : decode cX0_rarest 30 = .ok (.aload_n 0, 1) := by decide +kernel
theorem dX0_rarest_31 : decode cX0_rarest 31 = .ok (.iload_n 1, 1) := by decide +kernel
theorem dX0_rarest_32 : decode cX0_rarest 32 = .ok (.iconst 1, 1) := by decide +kernel
theorem dX0_rarest_33 : decode cX0_rarest 33 = .ok (.iload 5, 2) := by decide +kernel
theorem dX0_rarest_35 : decode cX0_rarest 35 = .ok (.ishl, 1) := by decide +kernel
theorem dX0_rarest_36 : decode cX0_rarest 36 = .ok (.invokestatic 45, 3) := by decide +kernel
theorem dX0_rarest_39 : decode cX0_rarest 39 = .ok (.istore 6, 2) := by decide +kernel
theorem dX0_rarest_41 : decode cX0_rarest 41 = .ok (.iload 6, 2) := by decide +kernel
theorem dX0_rarest_43 : decode cX0_rarest 43 = .ok (.iload 4, 2) := by decide +kernel
theorem dX0_rarest_45 : decode cX0_rarest 45 = .ok (.if_icmp .ge 12, 3) := by decide +kernel
theorem dX0_rarest_48 : decode cX0_rarest 48 = .ok (.iload 6, 2) := by decide +kernel
theorem dX0_rarest_50 : decode cX0_rarest 50 = .ok (.istore 4, 2) := by decide +kernel
theorem dX0_rarest_52 : decode cX0_rarest 52 = .ok (.iconst 1, 1) := by decide +kernel
theorem dX0_rarest_53 : decode cX0_rarest 53 = .ok (.iload 5, 2) := by decide +kernel
theorem dX0_rarest_55 : decode cX0_rarest 55 = .ok (.ishl, 1) := by decide +kernel
theorem dX0_rarest_56 : decode cX0_rarest 56 = .ok (.istore_n 3, 1) := by decide +kernel
theorem dX0_rarest_57 : decode cX0_rarest 57 = .ok (.iinc 5 1, 3) := by decide +kernel
theorem dX0_rarest_60 : decode cX0_rarest 60 = .ok (.goto (-51), 3) := by decide +kernel
theorem dX0_rarest_63 : decode cX0_rarest 63 = .ok (.iload_n 3, 1) := by decide +kernel
theorem dX0_rarest_64 : decode cX0_rarest 64 = .ok (.ireturn, 1) := by decide +kernel
theorem dX0_holdersOf_0 : decode cX0_holdersOf 0 = .ok (.iconst 0, 1) := by decide +kernel
theorem dX0_holdersOf_1 : decode cX0_holdersOf 1 = .ok (.istore_n 3, 1) := by decide +kernel
theorem dX0_holdersOf_2 : decode cX0_holdersOf 2 = .ok (.iconst 0, 1) := by decide +kernel
theorem dX0_holdersOf_3 : decode cX0_holdersOf 3 = .ok (.istore 4, 2) := by decide +kernel
theorem dX0_holdersOf_5 : decode cX0_holdersOf 5 = .ok (.iload 4, 2) := by decide +kernel
theorem dX0_holdersOf_7 : decode cX0_holdersOf 7 = .ok (.iload_n 1, 1) := by decide +kernel
theorem dX0_holdersOf_8 : decode cX0_holdersOf 8 = .ok (.if_icmp .ge 21, 3) := by decide +kernel
theorem dX0_holdersOf_11 : decode cX0_holdersOf 11 = .ok (.aload_n 0, 1) := by decide +kernel
theorem dX0_holdersOf_12 : decode cX0_holdersOf 12 = .ok (.iload 4, 2) := by decide +kernel
theorem dX0_holdersOf_14 : decode cX0_holdersOf 14 = .ok (.iaload, 1) := by decide +kernel
theorem dX0_holdersOf_15 : decode cX0_holdersOf 15 = .ok (.iload_n 2, 1) := by decide +kernel
theorem dX0_holdersOf_16 : decode cX0_holdersOf 16 = .ok (.iand, 1) := by decide +kernel
theorem dX0_holdersOf_17 : decode cX0_holdersOf 17 = .ok (.ifCond .eq 6, 3) := by decide +kernel
theorem dX0_holdersOf_20 : decode cX0_holdersOf 20 = .ok (.iinc 3 1, 3) := by decide +kernel
theorem dX0_holdersOf_23 : decode cX0_holdersOf 23 = .ok (.iinc 4 1, 3) := by decide +kernel
theorem dX0_holdersOf_26 : decode cX0_holdersOf 26 = .ok (.goto (-21), 3) := by decide +kernel
theorem dX0_holdersOf_29 : decode cX0_holdersOf 29 = .ok (.iload_n 3, 1) := by decide +kernel
theorem dX0_holdersOf_30 : decode cX0_holdersOf 30 = .ok (.ireturn, 1) := by decide +kernel
theorem dX1_init_0 : decode cX1_init 0 = .ok (.aload_n 0, 1) := by decide +kernel
theorem dX1_init_1 : decode cX1_init 1 = .ok (.invokespecial 3, 3) := by decide +kernel
theorem dX1_init_4 : decode cX1_init 4 = .ok (.aload_n 0, 1) := by decide +kernel
theorem dX1_init_5 : decode cX1_init 5 = .ok (.bipush 15, 2) := by decide +kernel
theorem dX1_init_7 : decode cX1_init 7 = .ok (.bipush 36, 2) := by decide +kernel
theorem dX1_init_9 : decode cX1_init 9 = .ok (.multianewarray 9 2, 4) := by decide +kernel
theorem dX1_init_13 : decode cX1_init 13 = .ok (.putfield 11, 3) := by decide +kernel
theorem dX1_init_16 : decode cX1_init 16 = .ok (.aload_n 0, 1) := by decide +kernel
theorem dX1_init_17 : decode cX1_init 17 = .ok (.bipush 15, 2) := by decide +kernel
theorem dX1_init_19 : decode cX1_init 19 = .ok (.bipush 36, 2) := by decide +kernel
theorem dX1_init_21 : decode cX1_init 21 = .ok (.multianewarray 9 2, 4) := by decide +kernel
theorem dX1_init_25 : decode cX1_init 25 = .ok (.putfield 16, 3) := by decide +kernel
theorem dX1_init_28 : decode cX1_init 28 = .ok (.aload_n 0, 1) := by decide +kernel
theorem dX1_init_29 : decode cX1_init 29 = .ok (.bipush 15, 2) := by decide +kernel
theorem dX1_init_31 : decode cX1_init 31 = .ok (.bipush 36, 2) := by decide +kernel
theorem dX1_init_33 : decode cX1_init 33 = .ok (.multianewarray 9 2, 4) := by decide +kernel
theorem dX1_init_37 : decode cX1_init 37 = .ok (.putfield 19, 3) := by decide +kernel
theorem dX1_init_40 : decode cX1_init 40 = .ok (.return_, 1) := by decide +kernel
theorem dX1_hear_0 : decode cX1_hear 0 = .ok (.iconst 0, 1) := by decide +kernel
theorem dX1_hear_1 : decode cX1_hear 1 = .ok (.istore 4, 2) := by decide +kernel
theorem dX1_hear_3 : decode cX1_hear 3 = .ok (.iload 4, 2) := by decide +kernel
theorem dX1_hear_5 : decode cX1_hear 5 = .ok (.iconst 4, 1) := by decide +kernel
theorem dX1_hear_6 : decode cX1_hear 6 = .ok (.if_icmp .ge 90, 3) := by decide +kernel
theorem dX1_hear_9 : decode cX1_hear 9 = .ok (.iconst 0, 1) := by decide +kernel
theorem dX1_hear_10 : decode cX1_hear 10 = .ok (.istore 5, 2) := by decide +kernel
theorem dX1_hear_12 : decode cX1_hear 12 = .ok (.iload 5, 2) := by decide +kernel
theorem dX1_hear_14 : decode cX1_hear 14 = .ok (.iload 4, 2) := by decide +kernel
theorem dX1_hear_16 : decode cX1_hear 16 = .ok (.invokestatic 22, 3) := by decide +kernel
theorem dX1_hear_19 : decode cX1_hear 19 = .ok (.if_icmp .ge 71, 3) := by decide +kernel
theorem dX1_hear_22 : decode cX1_hear 22 = .ok (.iload 4, 2) := by decide +kernel
theorem dX1_hear_24 : decode cX1_hear 24 = .ok (.iload 5, 2) := by decide +kernel
theorem dX1_hear_26 : decode cX1_hear 26 = .ok (.invokestatic 26, 3) := by decide +kernel
theorem dX1_hear_29 : decode cX1_hear 29 = .ok (.istore 6, 2) := by decide +kernel
theorem dX1_hear_31 : decode cX1_hear 31 = .ok (.iload_n 3, 1) := by decide +kernel
theorem dX1_hear_32 : decode cX1_hear 32 = .ok (.ifCond .eq 29, 3) := by decide +kernel
theorem dX1_hear_35 : decode cX1_hear 35 = .ok (.aload_n 0, 1) := by decide +kernel
theorem dX1_hear_36 : decode cX1_hear 36 = .ok (.iload_n 1, 1) := by decide +kernel
theorem dX1_hear_37 : decode cX1_hear 37 = .ok (.iload 6, 2) := by decide +kernel
theorem dX1_hear_39 : decode cX1_hear 39 = .ok (.aload_n 2, 1) := by decide +kernel
theorem dX1_hear_40 : decode cX1_hear 40 = .ok (.iload 4, 2) := by decide +kernel
theorem dX1_hear_42 : decode cX1_hear 42 = .ok (.iload 5, 2) := by decide +kernel
theorem dX1_hear_44 : decode cX1_hear 44 = .ok (.invokevirtual 30, 3) := by decide +kernel
theorem dX1_hear_47 : decode cX1_hear 47 = .ok (.aload_n 2, 1) := by decide +kernel
theorem dX1_hear_48 : decode cX1_hear 48 = .ok (.iload 4, 2) := by decide +kernel
theorem dX1_hear_50 : decode cX1_hear 50 = .ok (.iload 5, 2) := by decide +kernel
theorem dX1_hear_52 : decode cX1_hear 52 = .ok (.invokevirtual 35, 3) := by decide +kernel
theorem dX1_hear_55 : decode cX1_hear 55 = .ok (.invokevirtual 38, 3) := by decide +kernel
theorem dX1_hear_58 : decode cX1_hear 58 = .ok (.goto 26, 3) := by decide +kernel
theorem dX1_hear_61 : decode cX1_hear 61 = .ok (.aload_n 0, 1) := by decide +kernel
theorem dX1_hear_62 : decode cX1_hear 62 = .ok (.iload_n 1, 1) := by decide +kernel
theorem dX1_hear_63 : decode cX1_hear 63 = .ok (.iload 6, 2) := by decide +kernel
theorem dX1_hear_65 : decode cX1_hear 65 = .ok (.aload_n 2, 1) := by decide +kernel
theorem dX1_hear_66 : decode cX1_hear 66 = .ok (.iload 4, 2) := by decide +kernel
theorem dX1_hear_68 : decode cX1_hear 68 = .ok (.iload 5, 2) := by decide +kernel
theorem dX1_hear_70 : decode cX1_hear 70 = .ok (.invokevirtual 30, 3) := by decide +kernel
theorem dX1_hear_73 : decode cX1_hear 73 = .ok (.aload_n 2, 1) := by decide +kernel
theorem dX1_hear_74 : decode cX1_hear 74 = .ok (.iload 4, 2) := by decide +kernel
theorem dX1_hear_76 : decode cX1_hear 76 = .ok (.iload 5, 2) := by decide +kernel
theorem dX1_hear_78 : decode cX1_hear 78 = .ok (.invokevirtual 35, 3) := by decide +kernel
theorem dX1_hear_81 : decode cX1_hear 81 = .ok (.invokevirtual 42, 3) := by decide +kernel
theorem dX1_hear_84 : decode cX1_hear 84 = .ok (.iinc 5 1, 3) := by decide +kernel
theorem dX1_hear_87 : decode cX1_hear 87 = .ok (.goto (-75), 3) := by decide +kernel
theorem dX1_hear_90 : decode cX1_hear 90 = .ok (.iinc 4 1, 3) := by decide +kernel
theorem dX1_hear_93 : decode cX1_hear 93 = .ok (.goto (-90), 3) := by decide +kernel
theorem dX1_hear_96 : decode cX1_hear 96 = .ok (.return_, 1) := by decide +kernel
theorem dX1_begin_0 : decode cX1_begin 0 = .ok (.aload_n 0, 1) := by decide +kernel
theorem dX1_begin_1 : decode cX1_begin 1 = .ok (.getfield 11, 3) := by decide +kernel
theorem dX1_begin_4 : decode cX1_begin 4 = .ok (.iload_n 1, 1) := by decide +kernel
theorem dX1_begin_5 : decode cX1_begin 5 = .ok (.aaload, 1) := by decide +kernel
theorem dX1_begin_6 : decode cX1_begin 6 = .ok (.iload_n 2, 1) := by decide +kernel
theorem dX1_begin_7 : decode cX1_begin 7 = .ok (.iload_n 3, 1) := by decide +kernel
theorem dX1_begin_8 : decode cX1_begin 8 = .ok (.iastore, 1) := by decide +kernel
theorem dX1_begin_9 : decode cX1_begin 9 = .ok (.aload_n 0, 1) := by decide +kernel
theorem dX1_begin_10 : decode cX1_begin 10 = .ok (.getfield 16, 3) := by decide +kernel
theorem dX1_begin_13 : decode cX1_begin 13 = .ok (.iload_n 1, 1) := by decide +kernel
theorem dX1_begin_14 : decode cX1_begin 14 = .ok (.aaload, 1) := by decide +kernel
theorem dX1_begin_15 : decode cX1_begin 15 = .ok (.iload_n 2, 1) := by decide +kernel
theorem dX1_begin_16 : decode cX1_begin 16 = .ok (.iload 4, 2) := by decide +kernel
theorem dX1_begin_18 : decode cX1_begin 18 = .ok (.invokestatic 45, 3) := by decide +kernel
theorem dX1_begin_21 : decode cX1_begin 21 = .ok (.iastore, 1) := by decide +kernel
theorem dX1_begin_22 : decode cX1_begin 22 = .ok (.aload_n 0, 1) := by decide +kernel
theorem dX1_begin_23 : decode cX1_begin 23 = .ok (.getfield 19, 3) := by decide +kernel
theorem dX1_begin_26 : decode cX1_begin 26 = .ok (.iload_n 1, 1) := by decide +kernel
theorem dX1_begin_27 : decode cX1_begin 27 = .ok (.aaload, 1) := by decide +kernel
theorem dX1_begin_28 : decode cX1_begin 28 = .ok (.iload_n 2, 1) := by decide +kernel
theorem dX1_begin_29 : decode cX1_begin 29 = .ok (.iload 4, 2) := by decide +kernel
theorem dX1_begin_31 : decode cX1_begin 31 = .ok (.iastore, 1) := by decide +kernel
theorem dX1_begin_32 : decode cX1_begin 32 = .ok (.return_, 1) := by decide +kernel
theorem dX1_join_0 : decode cX1_join 0 = .ok (.aload_n 0, 1) := by decide +kernel
theorem dX1_join_1 : decode cX1_join 1 = .ok (.getfield 11, 3) := by decide +kernel
theorem dX1_join_4 : decode cX1_join 4 = .ok (.iload_n 1, 1) := by decide +kernel
theorem dX1_join_5 : decode cX1_join 5 = .ok (.aaload, 1) := by decide +kernel
theorem dX1_join_6 : decode cX1_join 6 = .ok (.iload_n 2, 1) := by decide +kernel
theorem dX1_join_7 : decode cX1_join 7 = .ok (.iaload, 1) := by decide +kernel
theorem dX1_join_8 : decode cX1_join 8 = .ok (.iload_n 3, 1) := by decide +kernel
theorem dX1_join_9 : decode cX1_join 9 = .ok (.if_icmp .eq 13, 3) := by decide +kernel
theorem dX1_join_12 : decode cX1_join 12 = .ok (.aload_n 0, 1) := by decide +kernel
theorem dX1_join_13 : decode cX1_join 13 = .ok (.getfield 11, 3) := by decide +kernel
theorem dX1_join_16 : decode cX1_join 16 = .ok (.iload_n 1, 1) := by decide +kernel
theorem dX1_join_17 : decode cX1_join 17 = .ok (.aaload, 1) := by decide +kernel
theorem dX1_join_18 : decode cX1_join 18 = .ok (.iload_n 2, 1) := by decide +kernel
theorem dX1_join_19 : decode cX1_join 19 = .ok (.bipush (-3), 2) := by decide +kernel
theorem dX1_join_21 : decode cX1_join 21 = .ok (.iastore, 1) := by decide +kernel
theorem dX1_join_22 : decode cX1_join 22 = .ok (.aload_n 0, 1) := by decide +kernel
theorem dX1_join_23 : decode cX1_join 23 = .ok (.getfield 16, 3) := by decide +kernel
theorem dX1_join_26 : decode cX1_join 26 = .ok (.iload_n 1, 1) := by decide +kernel
theorem dX1_join_27 : decode cX1_join 27 = .ok (.aaload, 1) := by decide +kernel
theorem dX1_join_28 : decode cX1_join 28 = .ok (.iload_n 2, 1) := by decide +kernel
theorem dX1_join_29 : decode cX1_join 29 = .ok (.aload_n 0, 1) := by decide +kernel
theorem dX1_join_30 : decode cX1_join 30 = .ok (.getfield 16, 3) := by decide +kernel
theorem dX1_join_33 : decode cX1_join 33 = .ok (.iload_n 1, 1) := by decide +kernel
theorem dX1_join_34 : decode cX1_join 34 = .ok (.aaload, 1) := by decide +kernel
theorem dX1_join_35 : decode cX1_join 35 = .ok (.iload_n 2, 1) := by decide +kernel
theorem dX1_join_36 : decode cX1_join 36 = .ok (.iaload, 1) := by decide +kernel
theorem dX1_join_37 : decode cX1_join 37 = .ok (.iload 4, 2) := by decide +kernel
theorem dX1_join_39 : decode cX1_join 39 = .ok (.invokestatic 45, 3) := by decide +kernel
theorem dX1_join_42 : decode cX1_join 42 = .ok (.invokestatic 50, 3) := by decide +kernel
theorem dX1_join_45 : decode cX1_join 45 = .ok (.iastore, 1) := by decide +kernel
theorem dX1_join_46 : decode cX1_join 46 = .ok (.aload_n 0, 1) := by decide +kernel
theorem dX1_join_47 : decode cX1_join 47 = .ok (.getfield 19, 3) := by decide +kernel
theorem dX1_join_50 : decode cX1_join 50 = .ok (.iload_n 1, 1) := by decide +kernel
theorem dX1_join_51 : decode cX1_join 51 = .ok (.aaload, 1) := by decide +kernel
theorem dX1_join_52 : decode cX1_join 52 = .ok (.iload_n 2, 1) := by decide +kernel
theorem dX1_join_53 : decode cX1_join 53 = .ok (.dup2, 1) := by decide +kernel
theorem dX1_join_54 : decode cX1_join 54 = .ok (.iaload, 1) := by decide +kernel
theorem dX1_join_55 : decode cX1_join 55 = .ok (.iload 4, 2) := by decide +kernel
theorem dX1_join_57 : decode cX1_join 57 = .ok (.iand, 1) := by decide +kernel
theorem dX1_join_58 : decode cX1_join 58 = .ok (.iastore, 1) := by decide +kernel
theorem dX1_join_59 : decode cX1_join 59 = .ok (.return_, 1) := by decide +kernel
theorem dX1_close_0 : decode cX1_close 0 = .ok (.iconst 0, 1) := by decide +kernel
theorem dX1_close_1 : decode cX1_close 1 = .ok (.istore_n 2, 1) := by decide +kernel
theorem dX1_close_2 : decode cX1_close 2 = .ok (.iload_n 2, 1) := by decide +kernel
theorem dX1_close_3 : decode cX1_close 3 = .ok (.bipush 36, 2) := by decide +kernel
theorem dX1_close_5 : decode cX1_close 5 = .ok (.if_icmp .ge 29, 3) := by decide +kernel
theorem dX1_close_8 : decode cX1_close 8 = .ok (.aload_n 0, 1) := by decide +kernel
theorem dX1_close_9 : decode cX1_close 9 = .ok (.getfield 11, 3) := by decide +kernel
theorem dX1_close_12 : decode cX1_close 12 = .ok (.iload_n 1, 1) := by decide +kernel
theorem dX1_close_13 : decode cX1_close 13 = .ok (.aaload, 1) := by decide +kernel
theorem dX1_close_14 : decode cX1_close 14 = .ok (.iload_n 2, 1) := by decide +kernel
theorem dX1_close_15 : decode cX1_close 15 = .ok (.iaload, 1) := by decide +kernel
theorem dX1_close_16 : decode cX1_close 16 = .ok (.ifCond .ge 12, 3) := by decide +kernel
theorem dX1_close_19 : decode cX1_close 19 = .ok (.aload_n 0, 1) := by decide +kernel
theorem dX1_close_20 : decode cX1_close 20 = .ok (.getfield 19, 3) := by decide +kernel
theorem dX1_close_23 : decode cX1_close 23 = .ok (.iload_n 1, 1) := by decide +kernel
theorem dX1_close_24 : decode cX1_close 24 = .ok (.aaload, 1) := by decide +kernel
theorem dX1_close_25 : decode cX1_close 25 = .ok (.iload_n 2, 1) := by decide +kernel
theorem dX1_close_26 : decode cX1_close 26 = .ok (.iconst 0, 1) := by decide +kernel
theorem dX1_close_27 : decode cX1_close 27 = .ok (.iastore, 1) := by decide +kernel
theorem dX1_close_28 : decode cX1_close 28 = .ok (.iinc 2 1, 3) := by decide +kernel
theorem dX1_close_31 : decode cX1_close 31 = .ok (.goto (-29), 3) := by decide +kernel
theorem dX1_close_34 : decode cX1_close 34 = .ok (.return_, 1) := by decide +kernel
theorem dX1_answered_0 : decode cX1_answered 0 = .ok (.iconst 0, 1) := by decide +kernel
theorem dX1_answered_1 : decode cX1_answered 1 = .ok (.istore_n 2, 1) := by decide +kernel
theorem dX1_answered_2 : decode cX1_answered 2 = .ok (.iconst 0, 1) := by decide +kernel
theorem dX1_answered_3 : decode cX1_answered 3 = .ok (.istore_n 3, 1) := by decide +kernel
theorem dX1_answered_4 : decode cX1_answered 4 = .ok (.iload_n 3, 1) := by decide +kernel
theorem dX1_answered_5 : decode cX1_answered 5 = .ok (.bipush 36, 2) := by decide +kernel
theorem dX1_answered_7 : decode cX1_answered 7 = .ok (.if_icmp .ge 23, 3) := by decide +kernel
theorem dX1_answered_10 : decode cX1_answered 10 = .ok (.aload_n 0, 1) := by decide +kernel
theorem dX1_answered_11 : decode cX1_answered 11 = .ok (.getfield 11, 3) := by decide +kernel
theorem dX1_answered_14 : decode cX1_answered 14 = .ok (.iload_n 1, 1) := by decide +kernel
theorem dX1_answered_15 : decode cX1_answered 15 = .ok (.aaload, 1) := by decide +kernel
theorem dX1_answered_16 : decode cX1_answered 16 = .ok (.iload_n 3, 1) := by decide +kernel
theorem dX1_answered_17 : decode cX1_answered 17 = .ok (.iaload, 1) := by decide +kernel
theorem dX1_answered_18 : decode cX1_answered 18 = .ok (.ifCond .lt 6, 3) := by decide +kernel
theorem dX1_answered_21 : decode cX1_answered 21 = .ok (.iinc 2 1, 3) := by decide +kernel
theorem dX1_answered_24 : decode cX1_answered 24 = .ok (.iinc 3 1, 3) := by decide +kernel
theorem dX1_answered_27 : decode cX1_answered 27 = .ok (.goto (-23), 3) := by decide +kernel
theorem dX1_answered_30 : decode cX1_answered 30 = .ok (.iload_n 2, 1) := by decide +kernel
theorem dX1_answered_31 : decode cX1_answered 31 = .ok (.ireturn, 1) := by decide +kernel
theorem dX1_doubted_0 : decode cX1_doubted 0 = .ok (.iconst 0, 1) := by decide +kernel
theorem dX1_doubted_1 : decode cX1_doubted 1 = .ok (.istore_n 2, 1) := by decide +kernel
theorem dX1_doubted_2 : decode cX1_doubted 2 = .ok (.iconst 0, 1) := by decide +kernel
theorem dX1_doubted_3 : decode cX1_doubted 3 = .ok (.istore_n 3, 1) := by decide +kernel
theorem dX1_doubted_4 : decode cX1_doubted 4 = .ok (.iload_n 3, 1) := by decide +kernel
theorem dX1_doubted_5 : decode cX1_doubted 5 = .ok (.bipush 36, 2) := by decide +kernel
theorem dX1_doubted_7 : decode cX1_doubted 7 = .ok (.if_icmp .ge 25, 3) := by decide +kernel
theorem dX1_doubted_10 : decode cX1_doubted 10 = .ok (.aload_n 0, 1) := by decide +kernel
theorem dX1_doubted_11 : decode cX1_doubted 11 = .ok (.getfield 11, 3) := by decide +kernel
theorem dX1_doubted_14 : decode cX1_doubted 14 = .ok (.iload_n 1, 1) := by decide +kernel
theorem dX1_doubted_15 : decode cX1_doubted 15 = .ok (.aaload, 1) := by decide +kernel
theorem dX1_doubted_16 : decode cX1_doubted 16 = .ok (.iload_n 3, 1) := by decide +kernel
theorem dX1_doubted_17 : decode cX1_doubted 17 = .ok (.iaload, 1) := by decide +kernel
theorem dX1_doubted_18 : decode cX1_doubted 18 = .ok (.bipush (-3), 2) := by decide +kernel
theorem dX1_doubted_20 : decode cX1_doubted 20 = .ok (.if_icmp .ne 6, 3) := by decide +kernel
theorem dX1_doubted_23 : decode cX1_doubted 23 = .ok (.iinc 2 1, 3) := by decide +kernel
theorem dX1_doubted_26 : decode cX1_doubted 26 = .ok (.iinc 3 1, 3) := by decide +kernel
theorem dX1_doubted_29 : decode cX1_doubted 29 = .ok (.goto (-25), 3) := by decide +kernel
theorem dX1_doubted_32 : decode cX1_doubted 32 = .ok (.iload_n 2, 1) := by decide +kernel
theorem dX1_doubted_33 : decode cX1_doubted 33 = .ok (.ireturn, 1) := by decide +kernel
theorem dX2_init_0 : decode cX2_init 0 = .ok (.aload_n 0, 1) := by decide +kernel
theorem dX2_init_1 : decode cX2_init 1 = .ok (.invokespecial 3, 3) := by decide +kernel
theorem dX2_init_4 : decode cX2_init 4 = .ok (.aload_n 0, 1) := by decide +kernel
theorem dX2_init_5 : decode cX2_init 5 = .ok (.bipush 70, 2) := by decide +kernel
theorem dX2_init_7 : decode cX2_init 7 = .ok (.newarray .int, 2) := by decide +kernel
theorem dX2_init_9 : decode cX2_init 9 = .ok (.putfield 9, 3) := by decide +kernel
theorem dX2_init_12 : decode cX2_init 12 = .ok (.aload_n 0, 1) := by decide +kernel
theorem dX2_init_13 : decode cX2_init 13 = .ok (.bipush 28, 2) := by decide +kernel
theorem dX2_init_15 : decode cX2_init 15 = .ok (.newarray .int, 2) := by decide +kernel
theorem dX2_init_17 : decode cX2_init 17 = .ok (.putfield 15, 3) := by decide +kernel
theorem dX2_init_20 : decode cX2_init 20 = .ok (.return_, 1) := by decide +kernel
theorem dX2_fits_0 : decode cX2_fits 0 = .ok (.aload_n 0, 1) := by decide +kernel
theorem dX2_fits_1 : decode cX2_fits 1 = .ok (.getfield 18, 3) := by decide +kernel
theorem dX2_fits_4 : decode cX2_fits 4 = .ok (.bipush 14, 2) := by decide +kernel
theorem dX2_fits_6 : decode cX2_fits 6 = .ok (.if_icmp .lt 5, 3) := by decide +kernel
theorem dX2_fits_9 : decode cX2_fits 9 = .ok (.iconst 0, 1) := by decide +kernel
theorem dX2_fits_10 : decode cX2_fits 10 = .ok (.ireturn, 1) := by decide +kernel
theorem dX2_fits_11 : decode cX2_fits 11 = .ok (.aload_n 0, 1) := by decide +kernel
theorem dX2_fits_12 : decode cX2_fits 12 = .ok (.getfield 22, 3) := by decide +kernel
theorem dX2_fits_15 : decode cX2_fits 15 = .ok (.tableswitch 109 0 3 #[29, 34, 52, 77], 29) := by decide +kernel
theorem dX2_fits_44 : decode cX2_fits 44 = .ok (.iload_n 1, 1) := by decide +kernel
theorem dX2_fits_45 : decode cX2_fits 45 = .ok (.invokestatic 25, 3) := by decide +kernel
theorem dX2_fits_48 : decode cX2_fits 48 = .ok (.ireturn, 1) := by decide +kernel
theorem dX2_fits_49 : decode cX2_fits 49 = .ok (.iload_n 1, 1) := by decide +kernel
theorem dX2_fits_50 : decode cX2_fits 50 = .ok (.bipush 30, 2) := by decide +kernel
theorem dX2_fits_52 : decode cX2_fits 52 = .ok (.if_icmp .lt 13, 3) := by decide +kernel
theorem dX2_fits_55 : decode cX2_fits 55 = .ok (.iload_n 1, 1) := by decide +kernel
theorem dX2_fits_56 : decode cX2_fits 56 = .ok (.bipush 33, 2) := by decide +kernel
theorem dX2_fits_58 : decode cX2_fits 58 = .ok (.if_icmp .gt 7, 3) := by decide +kernel
theorem dX2_fits_61 : decode cX2_fits 61 = .ok (.iconst 1, 1) := by decide +kernel
theorem dX2_fits_62 : decode cX2_fits 62 = .ok (.goto 4, 3) := by decide +kernel
theorem dX2_fits_65 : decode cX2_fits 65 = .ok (.iconst 0, 1) := by decide +kernel
theorem dX2_fits_66 : decode cX2_fits 66 = .ok (.ireturn, 1) := by decide +kernel
theorem dX2_fits_67 : decode cX2_fits 67 = .ok (.aload_n 0, 1) := by decide +kernel
theorem dX2_fits_68 : decode cX2_fits 68 = .ok (.aload_n 0, 1) := by decide +kernel
theorem dX2_fits_69 : decode cX2_fits 69 = .ok (.getfield 18, 3) := by decide +kernel
theorem dX2_fits_72 : decode cX2_fits 72 = .ok (.invokevirtual 29, 3) := by decide +kernel
theorem dX2_fits_75 : decode cX2_fits 75 = .ok (.bipush 30, 2) := by decide +kernel
theorem dX2_fits_77 : decode cX2_fits 77 = .ok (.if_icmp .ne 10, 3) := by decide +kernel
theorem dX2_fits_80 : decode cX2_fits 80 = .ok (.iload_n 1, 1) := by decide +kernel
theorem dX2_fits_81 : decode cX2_fits 81 = .ok (.invokestatic 33, 3) := by decide +kernel
theorem dX2_fits_84 : decode cX2_fits 84 = .ok (.goto 7, 3) := by decide +kernel
theorem dX2_fits_87 : decode cX2_fits 87 = .ok (.iload_n 1, 1) := by decide +kernel
theorem dX2_fits_88 : decode cX2_fits 88 = .ok (.invokestatic 36, 3) := by decide +kernel
theorem dX2_fits_91 : decode cX2_fits 91 = .ok (.ireturn, 1) := by decide +kernel
theorem dX2_fits_92 : decode cX2_fits 92 = .ok (.aload_n 0, 1) := by decide +kernel
theorem dX2_fits_93 : decode cX2_fits 93 = .ok (.aload_n 0, 1) := by decide +kernel
theorem dX2_fits_94 : decode cX2_fits 94 = .ok (.getfield 18, 3) := by decide +kernel
theorem dX2_fits_97 : decode cX2_fits 97 = .ok (.invokevirtual 29, 3) := by decide +kernel
theorem dX2_fits_100 : decode cX2_fits 100 = .ok (.bipush 33, 2) := by decide +kernel
theorem dX2_fits_102 : decode cX2_fits 102 = .ok (.if_icmp .ne 10, 3) := by decide +kernel
theorem dX2_fits_105 : decode cX2_fits 105 = .ok (.iload_n 1, 1) := by decide +kernel
theorem dX2_fits_106 : decode cX2_fits 106 = .ok (.invokestatic 25, 3) := by decide +kernel
theorem dX2_fits_109 : decode cX2_fits 109 = .ok (.goto 14, 3) := by decide +kernel
theorem dX2_fits_112 : decode cX2_fits 112 = .ok (.iload_n 1, 1) := by decide +kernel
theorem dX2_fits_113 : decode cX2_fits 113 = .ok (.bipush 50, 2) := by decide +kernel
theorem dX2_fits_115 : decode cX2_fits 115 = .ok (.if_icmp .ne 7, 3) := by decide +kernel
theorem dX2_fits_118 : decode cX2_fits 118 = .ok (.iconst 1, 1) := by decide +kernel
theorem dX2_fits_119 : decode cX2_fits 119 = .ok (.goto 4, 3) := by decide +kernel
theorem dX2_fits_122 : decode cX2_fits 122 = .ok (.iconst 0, 1) := by decide +kernel
theorem dX2_fits_123 : decode cX2_fits 123 = .ok (.ireturn, 1) := by decide +kernel
theorem dX2_fits_124 : decode cX2_fits 124 = .ok (.iload_n 1, 1) := by decide +kernel
theorem dX2_fits_125 : decode cX2_fits 125 = .ok (.bipush 50, 2) := by decide +kernel
theorem dX2_fits_127 : decode cX2_fits 127 = .ok (.if_icmp .ne 7, 3) := by decide +kernel
theorem dX2_fits_130 : decode cX2_fits 130 = .ok (.iconst 1, 1) := by decide +kernel
theorem dX2_fits_131 : decode cX2_fits 131 = .ok (.goto 4, 3) := by decide +kernel
theorem dX2_fits_134 : decode cX2_fits 134 = .ok (.iconst 0, 1) := by decide +kernel
theorem dX2_fits_135 : decode cX2_fits 135 = .ok (.ireturn, 1) := by decide +kernel
theorem dX2_add_0 : decode cX2_add 0 = .ok (.aload_n 0, 1) := by decide +kernel
theorem dX2_add_1 : decode cX2_add 1 = .ok (.getfield 18, 3) := by decide +kernel
theorem dX2_add_4 : decode cX2_add 4 = .ok (.bipush 14, 2) := by decide +kernel
theorem dX2_add_6 : decode cX2_add 6 = .ok (.if_icmp .ge 38, 3) := by decide +kernel
theorem dX2_add_9 : decode cX2_add 9 = .ok (.aload_n 0, 1) := by decide +kernel
theorem dX2_add_10 : decode cX2_add 10 = .ok (.getfield 22, 3) := by decide +kernel
theorem dX2_add_13 : decode cX2_add 13 = .ok (.iconst 5, 1) := by decide +kernel
theorem dX2_add_14 : decode cX2_add 14 = .ok (.if_icmp .ge 30, 3) := by decide +kernel
theorem dX2_add_17 : decode cX2_add 17 = .ok (.aload_n 0, 1) := by decide +kernel
theorem dX2_add_18 : decode cX2_add 18 = .ok (.getfield 9, 3) := by decide +kernel
theorem dX2_add_21 : decode cX2_add 21 = .ok (.aload_n 0, 1) := by decide +kernel
theorem dX2_add_22 : decode cX2_add 22 = .ok (.getfield 18, 3) := by decide +kernel
theorem dX2_add_25 : decode cX2_add 25 = .ok (.iconst 5, 1) := by decide +kernel
theorem dX2_add_26 : decode cX2_add 26 = .ok (.imul, 1) := by decide +kernel
theorem dX2_add_27 : decode cX2_add 27 = .ok (.aload_n 0, 1) := by decide +kernel
theorem dX2_add_28 : decode cX2_add 28 = .ok (.getfield 22, 3) := by decide +kernel
theorem dX2_add_31 : decode cX2_add 31 = .ok (.iadd, 1) := by decide +kernel
theorem dX2_add_32 : decode cX2_add 32 = .ok (.iload_n 1, 1) := by decide +kernel
theorem dX2_add_33 : decode cX2_add 33 = .ok (.iastore, 1) := by decide +kernel
theorem dX2_add_34 : decode cX2_add 34 = .ok (.aload_n 0, 1) := by decide +kernel
theorem dX2_add_35 : decode cX2_add 35 = .ok (.dup, 1) := by decide +kernel
theorem dX2_add_36 : decode cX2_add 36 = .ok (.getfield 22, 3) := by decide +kernel
theorem dX2_add_39 : decode cX2_add 39 = .ok (.iconst 1, 1) := by decide +kernel
theorem dX2_add_40 : decode cX2_add 40 = .ok (.iadd, 1) := by decide +kernel
theorem dX2_add_41 : decode cX2_add 41 = .ok (.putfield 22, 3) := by decide +kernel
theorem dX2_add_44 : decode cX2_add 44 = .ok (.return_, 1) := by decide +kernel
theorem dX2_forgetBegun_0 : decode cX2_forgetBegun 0 = .ok (.aload_n 0, 1) := by decide +kernel
theorem dX2_forgetBegun_1 : decode cX2_forgetBegun 1 = .ok (.iconst 0, 1) := by decide +kernel
theorem dX2_forgetBegun_2 : decode cX2_forgetBegun 2 = .ok (.putfield 22, 3) := by decide +kernel
theorem dX2_forgetBegun_5 : decode cX2_forgetBegun 5 = .ok (.return_, 1) := by decide +kernel
theorem dX2_closeBegun_0 : decode cX2_closeBegun 0 = .ok (.aload_n 0, 1) := by decide +kernel
theorem dX2_closeBegun_1 : decode cX2_closeBegun 1 = .ok (.iconst 0, 1) := by decide +kernel
theorem dX2_closeBegun_2 : decode cX2_closeBegun 2 = .ok (.putfield 22, 3) := by decide +kernel
theorem dX2_closeBegun_5 : decode cX2_closeBegun 5 = .ok (.aload_n 0, 1) := by decide +kernel
theorem dX2_closeBegun_6 : decode cX2_closeBegun 6 = .ok (.dup, 1) := by decide +kernel
theorem dX2_closeBegun_7 : decode cX2_closeBegun 7 = .ok (.getfield 18, 3) := by decide +kernel
theorem dX2_closeBegun_10 : decode cX2_closeBegun 10 = .ok (.iconst 1, 1) := by decide +kernel
theorem dX2_closeBegun_11 : decode cX2_closeBegun 11 = .ok (.iadd, 1) := by decide +kernel
theorem dX2_closeBegun_12 : decode cX2_closeBegun 12 = .ok (.putfield 18, 3) := by decide +kernel
theorem dX2_closeBegun_15 : decode cX2_closeBegun 15 = .ok (.return_, 1) := by decide +kernel
theorem dX2_forgetLatest_0 : decode cX2_forgetLatest 0 = .ok (.aload_n 0, 1) := by decide +kernel
theorem dX2_forgetLatest_1 : decode cX2_forgetLatest 1 = .ok (.getfield 22, 3) := by decide +kernel
theorem dX2_forgetLatest_4 : decode cX2_forgetLatest 4 = .ok (.ifCond .le 10, 3) := by decide +kernel
theorem dX2_forgetLatest_7 : decode cX2_forgetLatest 7 = .ok (.aload_n 0, 1) := by decide +kernel
theorem dX2_forgetLatest_8 : decode cX2_forgetLatest 8 = .ok (.iconst 0, 1) := by decide +kernel
theorem dX2_forgetLatest_9 : decode cX2_forgetLatest 9 = .ok (.putfield 22, 3) := by decide +kernel
theorem dX2_forgetLatest_12 : decode cX2_forgetLatest 12 = .ok (.iconst 1, 1) := by decide +kernel
theorem dX2_forgetLatest_13 : decode cX2_forgetLatest 13 = .ok (.ireturn, 1) := by decide +kernel
theorem dX2_forgetLatest_14 : decode cX2_forgetLatest 14 = .ok (.aload_n 0, 1) := by decide +kernel
theorem dX2_forgetLatest_15 : decode cX2_forgetLatest 15 = .ok (.getfield 18, 3) := by decide +kernel
theorem dX2_forgetLatest_18 : decode cX2_forgetLatest 18 = .ok (.ifCond .ne 5, 3) := by decide +kernel
theorem dX2_forgetLatest_21 : decode cX2_forgetLatest 21 = .ok (.iconst 0, 1) := by decide +kernel
theorem dX2_forgetLatest_22 : decode cX2_forgetLatest 22 = .ok (.ireturn, 1) := by decide +kernel
theorem dX2_forgetLatest_23 : decode cX2_forgetLatest 23 = .ok (.aload_n 0, 1) := by decide +kernel
theorem dX2_forgetLatest_24 : decode cX2_forgetLatest 24 = .ok (.dup, 1) := by decide +kernel
theorem dX2_forgetLatest_25 : decode cX2_forgetLatest 25 = .ok (.getfield 18, 3) := by decide +kernel
theorem dX2_forgetLatest_28 : decode cX2_forgetLatest 28 = .ok (.iconst 1, 1) := by decide +kernel
theorem dX2_forgetLatest_29 : decode cX2_forgetLatest 29 = .ok (.isub, 1) := by decide +kernel
theorem dX2_forgetLatest_30 : decode cX2_forgetLatest 30 = .ok (.putfield 18, 3) := by decide +kernel
theorem dX2_forgetLatest_33 : decode cX2_forgetLatest 33 = .ok (.iconst 1, 1) := by decide +kernel
theorem dX2_forgetLatest_34 : decode cX2_forgetLatest 34 = .ok (.ireturn, 1) := by decide +kernel
theorem dX2_signAt_0 : decode cX2_signAt 0 = .ok (.iload_n 1, 1) := by decide +kernel
theorem dX2_signAt_1 : decode cX2_signAt 1 = .ok (.ifCond .lt 17, 3) := by decide +kernel
theorem dX2_signAt_4 : decode cX2_signAt 4 = .ok (.iload_n 1, 1) := by decide +kernel
theorem dX2_signAt_5 : decode cX2_signAt 5 = .ok (.aload_n 0, 1) := by decide +kernel
theorem dX2_signAt_6 : decode cX2_signAt 6 = .ok (.getfield 18, 3) := by decide +kernel
theorem dX2_signAt_9 : decode cX2_signAt 9 = .ok (.if_icmp .gt 9, 3) := by decide +kernel
theorem dX2_signAt_12 : decode cX2_signAt 12 = .ok (.iload_n 1, 1) := by decide +kernel
theorem dX2_signAt_13 : decode cX2_signAt 13 = .ok (.bipush 14, 2) := by decide +kernel
theorem dX2_signAt_15 : decode cX2_signAt 15 = .ok (.if_icmp .lt 5, 3) := by decide +kernel
theorem dX2_signAt_18 : decode cX2_signAt 18 = .ok (.iconst (-1), 1) := by decide +kernel
theorem dX2_signAt_19 : decode cX2_signAt 19 = .ok (.ireturn, 1) := by decide +kernel
theorem dX2_signAt_20 : decode cX2_signAt 20 = .ok (.iload_n 1, 1) := by decide +kernel
theorem dX2_signAt_21 : decode cX2_signAt 21 = .ok (.aload_n 0, 1) := by decide +kernel
theorem dX2_signAt_22 : decode cX2_signAt 22 = .ok (.getfield 18, 3) := by decide +kernel
theorem dX2_signAt_25 : decode cX2_signAt 25 = .ok (.if_icmp .ne 10, 3) := by decide +kernel
theorem dX2_signAt_28 : decode cX2_signAt 28 = .ok (.aload_n 0, 1) := by decide +kernel
theorem dX2_signAt_29 : decode cX2_signAt 29 = .ok (.getfield 22, 3) := by decide +kernel
theorem dX2_signAt_32 : decode cX2_signAt 32 = .ok (.goto 8, 3) := by decide +kernel
theorem dX2_signAt_35 : decode cX2_signAt 35 = .ok (.aload_n 0, 1) := by decide +kernel
theorem dX2_signAt_36 : decode cX2_signAt 36 = .ok (.iload_n 1, 1) := by decide +kernel
theorem dX2_signAt_37 : decode cX2_signAt 37 = .ok (.invokevirtual 39, 3) := by decide +kernel
theorem dX2_signAt_40 : decode cX2_signAt 40 = .ok (.istore_n 3, 1) := by decide +kernel
theorem dX2_signAt_41 : decode cX2_signAt 41 = .ok (.iload_n 2, 1) := by decide +kernel
theorem dX2_signAt_42 : decode cX2_signAt 42 = .ok (.ifCond .lt 8, 3) := by decide +kernel
theorem dX2_signAt_45 : decode cX2_signAt 45 = .ok (.iload_n 2, 1) := by decide +kernel
theorem dX2_signAt_46 : decode cX2_signAt 46 = .ok (.iload_n 3, 1) := by decide +kernel
theorem dX2_signAt_47 : decode cX2_signAt 47 = .ok (.if_icmp .lt 7, 3) := by decide +kernel
theorem dX2_signAt_50 : decode cX2_signAt 50 = .ok (.iconst (-1), 1) := by decide +kernel
theorem dX2_signAt_51 : decode cX2_signAt 51 = .ok (.goto 13, 3) := by decide +kernel
theorem dX2_signAt_54 : decode cX2_signAt 54 = .ok (.aload_n 0, 1) := by decide +kernel
theorem dX2_signAt_55 : decode cX2_signAt 55 = .ok (.getfield 9, 3) := by decide +kernel
theorem dX2_signAt_58 : decode cX2_signAt 58 = .ok (.iload_n 1, 1) := by decide +kernel
theorem dX2_signAt_59 : decode cX2_signAt 59 = .ok (.iconst 5, 1) := by decide +kernel
theorem dX2_signAt_60 : decode cX2_signAt 60 = .ok (.imul, 1) := by decide +kernel
theorem dX2_signAt_61 : decode cX2_signAt 61 = .ok (.iload_n 2, 1) := by decide +kernel
theorem dX2_signAt_62 : decode cX2_signAt 62 = .ok (.iadd, 1) := by decide +kernel
theorem dX2_signAt_63 : decode cX2_signAt 63 = .ok (.iaload, 1) := by decide +kernel
theorem dX2_signAt_64 : decode cX2_signAt 64 = .ok (.ireturn, 1) := by decide +kernel
theorem dX2_wholeLength_0 : decode cX2_wholeLength 0 = .ok (.aload_n 0, 1) := by decide +kernel
theorem dX2_wholeLength_1 : decode cX2_wholeLength 1 = .ok (.iload_n 1, 1) := by decide +kernel
theorem dX2_wholeLength_2 : decode cX2_wholeLength 2 = .ok (.invokevirtual 29, 3) := by decide +kernel
theorem dX2_wholeLength_5 : decode cX2_wholeLength 5 = .ok (.bipush 33, 2) := by decide +kernel
theorem dX2_wholeLength_7 : decode cX2_wholeLength 7 = .ok (.if_icmp .ne 7, 3) := by decide +kernel
theorem dX2_wholeLength_10 : decode cX2_wholeLength 10 = .ok (.iconst 5, 1) := by decide +kernel
theorem dX2_wholeLength_11 : decode cX2_wholeLength 11 = .ok (.goto 4, 3) := by decide +kernel
theorem dX2_wholeLength_14 : decode cX2_wholeLength 14 = .ok (.iconst 4, 1) := by decide +kernel
theorem dX2_wholeLength_15 : decode cX2_wholeLength 15 = .ok (.ireturn, 1) := by decide +kernel
theorem dX2_verb_0 : decode cX2_verb 0 = .ok (.aload_n 0, 1) := by decide +kernel
theorem dX2_verb_1 : decode cX2_verb 1 = .ok (.getfield 9, 3) := by decide +kernel
theorem dX2_verb_4 : decode cX2_verb 4 = .ok (.iload_n 1, 1) := by decide +kernel
theorem dX2_verb_5 : decode cX2_verb 5 = .ok (.iconst 5, 1) := by decide +kernel
theorem dX2_verb_6 : decode cX2_verb 6 = .ok (.imul, 1) := by decide +kernel
theorem dX2_verb_7 : decode cX2_verb 7 = .ok (.iconst 1, 1) := by decide +kernel
theorem dX2_verb_8 : decode cX2_verb 8 = .ok (.iadd, 1) := by decide +kernel
theorem dX2_verb_9 : decode cX2_verb 9 = .ok (.iaload, 1) := by decide +kernel
theorem dX2_verb_10 : decode cX2_verb 10 = .ok (.ireturn, 1) := by decide +kernel
theorem dX2_object_0 : decode cX2_object 0 = .ok (.aload_n 0, 1) := by decide +kernel
theorem dX2_object_1 : decode cX2_object 1 = .ok (.getfield 9, 3) := by decide +kernel
theorem dX2_object_4 : decode cX2_object 4 = .ok (.iload_n 1, 1) := by decide +kernel
theorem dX2_object_5 : decode cX2_object 5 = .ok (.iconst 5, 1) := by decide +kernel
theorem dX2_object_6 : decode cX2_object 6 = .ok (.imul, 1) := by decide +kernel
theorem dX2_object_7 : decode cX2_object 7 = .ok (.iconst 2, 1) := by decide +kernel
theorem dX2_object_8 : decode cX2_object 8 = .ok (.iadd, 1) := by decide +kernel
theorem dX2_object_9 : decode cX2_object 9 = .ok (.iaload, 1) := by decide +kernel
theorem dX2_object_10 : decode cX2_object 10 = .ok (.ireturn, 1) := by decide +kernel
theorem dX2_cast_0 : decode cX2_cast 0 = .ok (.aload_n 0, 1) := by decide +kernel
theorem dX2_cast_1 : decode cX2_cast 1 = .ok (.getfield 18, 3) := by decide +kernel
theorem dX2_cast_4 : decode cX2_cast 4 = .ok (.iconst 5, 1) := by decide +kernel
theorem dX2_cast_5 : decode cX2_cast 5 = .ok (.imul, 1) := by decide +kernel
theorem dX2_cast_6 : decode cX2_cast 6 = .ok (.istore_n 1, 1) := by decide +kernel
theorem dX2_cast_7 : decode cX2_cast 7 = .ok (.aload_n 0, 1) := by decide +kernel
theorem dX2_cast_8 : decode cX2_cast 8 = .ok (.aload_n 0, 1) := by decide +kernel
theorem dX2_cast_9 : decode cX2_cast 9 = .ok (.getfield 18, 3) := by decide +kernel
theorem dX2_cast_12 : decode cX2_cast 12 = .ok (.invokevirtual 29, 3) := by decide +kernel
theorem dX2_cast_15 : decode cX2_cast 15 = .ok (.bipush 33, 2) := by decide +kernel
theorem dX2_cast_17 : decode cX2_cast 17 = .ok (.if_icmp .ne 7, 3) := by decide +kernel
theorem dX2_cast_20 : decode cX2_cast 20 = .ok (.iconst 1, 1) := by decide +kernel
theorem dX2_cast_21 : decode cX2_cast 21 = .ok (.goto 4, 3) := by decide +kernel
theorem dX2_cast_24 : decode cX2_cast 24 = .ok (.iconst 0, 1) := by decide +kernel
theorem dX2_cast_25 : decode cX2_cast 25 = .ok (.istore_n 2, 1) := by decide +kernel
theorem dX2_cast_26 : decode cX2_cast 26 = .ok (.aload_n 0, 1) := by decide +kernel
theorem dX2_cast_27 : decode cX2_cast 27 = .ok (.getfield 15, 3) := by decide +kernel
theorem dX2_cast_30 : decode cX2_cast 30 = .ok (.iconst 2, 1) := by decide +kernel
theorem dX2_cast_31 : decode cX2_cast 31 = .ok (.aload_n 0, 1) := by decide +kernel
theorem dX2_cast_32 : decode cX2_cast 32 = .ok (.getfield 18, 3) := by decide +kernel
theorem dX2_cast_35 : decode cX2_cast 35 = .ok (.imul, 1) := by decide +kernel
theorem dX2_cast_36 : decode cX2_cast 36 = .ok (.iconst 0, 1) := by decide +kernel
theorem dX2_cast_37 : decode cX2_cast 37 = .ok (.iadd, 1) := by decide +kernel
theorem dX2_cast_38 : decode cX2_cast 38 = .ok (.aload_n 0, 1) := by decide +kernel
theorem dX2_cast_39 : decode cX2_cast 39 = .ok (.aload_n 0, 1) := by decide +kernel
theorem dX2_cast_40 : decode cX2_cast 40 = .ok (.getfield 9, 3) := by decide +kernel
theorem dX2_cast_43 : decode cX2_cast 43 = .ok (.iload_n 1, 1) := by decide +kernel
theorem dX2_cast_44 : decode cX2_cast 44 = .ok (.iaload, 1) := by decide +kernel
theorem dX2_cast_45 : decode cX2_cast 45 = .ok (.invokevirtual 42, 3) := by decide +kernel
theorem dX2_cast_48 : decode cX2_cast 48 = .ok (.iastore, 1) := by decide +kernel
theorem dX2_cast_49 : decode cX2_cast 49 = .ok (.aload_n 0, 1) := by decide +kernel
theorem dX2_cast_50 : decode cX2_cast 50 = .ok (.getfield 15, 3) := by decide +kernel
theorem dX2_cast_53 : decode cX2_cast 53 = .ok (.iconst 2, 1) := by decide +kernel
theorem dX2_cast_54 : decode cX2_cast 54 = .ok (.aload_n 0, 1) := by decide +kernel
theorem dX2_cast_55 : decode cX2_cast 55 = .ok (.getfield 18, 3) := by decide +kernel
theorem dX2_cast_58 : decode cX2_cast 58 = .ok (.imul, 1) := by decide +kernel
theorem dX2_cast_59 : decode cX2_cast 59 = .ok (.iconst 1, 1) := by decide +kernel
theorem dX2_cast_60 : decode cX2_cast 60 = .ok (.iadd, 1) := by decide +kernel
theorem dX2_cast_61 : decode cX2_cast 61 = .ok (.iload_n 2, 1) := by decide +kernel
theorem dX2_cast_62 : decode cX2_cast 62 = .ok (.ifCond .eq 18, 3) := by decide +kernel
theorem dX2_cast_65 : decode cX2_cast 65 = .ok (.aload_n 0, 1) := by decide +kernel
theorem dX2_cast_66 : decode cX2_cast 66 = .ok (.aload_n 0, 1) := by decide +kernel
theorem dX2_cast_67 : decode cX2_cast 67 = .ok (.getfield 9, 3) := by decide +kernel
theorem dX2_cast_70 : decode cX2_cast 70 = .ok (.iload_n 1, 1) := by decide +kernel
theorem dX2_cast_71 : decode cX2_cast 71 = .ok (.iconst 3, 1) := by decide +kernel
theorem dX2_cast_72 : decode cX2_cast 72 = .ok (.iadd, 1) := by decide +kernel
theorem dX2_cast_73 : decode cX2_cast 73 = .ok (.iaload, 1) := by decide +kernel
theorem dX2_cast_74 : decode cX2_cast 74 = .ok (.invokevirtual 42, 3) := by decide +kernel
theorem dX2_cast_77 : decode cX2_cast 77 = .ok (.goto 4, 3) := by decide +kernel
theorem dX2_cast_80 : decode cX2_cast 80 = .ok (.iconst 0, 1) := by decide +kernel
theorem dX2_cast_81 : decode cX2_cast 81 = .ok (.iastore, 1) := by decide +kernel
theorem dX2_cast_82 : decode cX2_cast 82 = .ok (.return_, 1) := by decide +kernel
theorem dX2_candidates_0 : decode cX2_candidates 0 = .ok (.iload_n 1, 1) := by decide +kernel
theorem dX2_candidates_1 : decode cX2_candidates 1 = .ok (.invokestatic 45, 3) := by decide +kernel
theorem dX2_candidates_4 : decode cX2_candidates 4 = .ok (.ifCond .eq 7, 3) := by decide +kernel
theorem dX2_candidates_7 : decode cX2_candidates 7 = .ok (.iconst 1, 1) := by decide +kernel
theorem dX2_candidates_8 : decode cX2_candidates 8 = .ok (.iload_n 1, 1) := by decide +kernel
theorem dX2_candidates_9 : decode cX2_candidates 9 = .ok (.ishl, 1) := by decide +kernel
theorem dX2_candidates_10 : decode cX2_candidates 10 = .ok (.ireturn, 1) := by decide +kernel
theorem dX2_candidates_11 : decode cX2_candidates 11 = .ok (.iload_n 1, 1) := by decide +kernel
theorem dX2_candidates_12 : decode cX2_candidates 12 = .ok (.bipush 40, 2) := by decide +kernel
theorem dX2_candidates_14 : decode cX2_candidates 14 = .ok (.if_icmp .ne 8, 3) := by decide +kernel
theorem dX2_candidates_17 : decode cX2_candidates 17 = .ok (.bipush 85, 2) := by decide +kernel
theorem dX2_candidates_19 : decode cX2_candidates 19 = .ok (.goto 6, 3) := by decide +kernel
theorem dX2_candidates_22 : decode cX2_candidates 22 = .ok (.sipush 170, 3) := by decide +kernel
theorem dX2_candidates_25 : decode cX2_candidates 25 = .ok (.istore_n 2, 1) := by decide +kernel
theorem dX2_candidates_26 : decode cX2_candidates 26 = .ok (.aload_n 0, 1) := by decide +kernel
theorem dX2_candidates_27 : decode cX2_candidates 27 = .ok (.getfield 18, 3) := by decide +kernel
theorem dX2_candidates_30 : decode cX2_candidates 30 = .ok (.iconst 1, 1) := by decide +kernel
theorem dX2_candidates_31 : decode cX2_candidates 31 = .ok (.isub, 1) := by decide +kernel
theorem dX2_candidates_32 : decode cX2_candidates 32 = .ok (.istore_n 3, 1) := by decide +kernel
theorem dX2_candidates_33 : decode cX2_candidates 33 = .ok (.iload_n 3, 1) := by decide +kernel
theorem dX2_candidates_34 : decode cX2_candidates 34 = .ok (.ifCond .lt 27, 3) := by decide +kernel
theorem dX2_candidates_37 : decode cX2_candidates 37 = .ok (.aload_n 0, 1) := by decide +kernel
theorem dX2_candidates_38 : decode cX2_candidates 38 = .ok (.iload_n 3, 1) := by decide +kernel
theorem dX2_candidates_39 : decode cX2_candidates 39 = .ok (.invokevirtual 48, 3) := by decide +kernel
theorem dX2_candidates_42 : decode cX2_candidates 42 = .ok (.iload_n 2, 1) := by decide +kernel
theorem dX2_candidates_43 : decode cX2_candidates 43 = .ok (.iand, 1) := by decide +kernel
theorem dX2_candidates_44 : decode cX2_candidates 44 = .ok (.ifCond .eq 11, 3) := by decide +kernel
theorem dX2_candidates_47 : decode cX2_candidates 47 = .ok (.aload_n 0, 1) := by decide +kernel
theorem dX2_candidates_48 : decode cX2_candidates 48 = .ok (.iload_n 3, 1) := by decide +kernel
theorem dX2_candidates_49 : decode cX2_candidates 49 = .ok (.invokevirtual 48, 3) := by decide +kernel
theorem dX2_candidates_52 : decode cX2_candidates 52 = .ok (.iload_n 2, 1) := by decide +kernel
theorem dX2_candidates_53 : decode cX2_candidates 53 = .ok (.iand, 1) := by decide +kernel
theorem dX2_candidates_54 : decode cX2_candidates 54 = .ok (.ireturn, 1) := by decide +kernel
theorem dX2_candidates_55 : decode cX2_candidates 55 = .ok (.iinc 3 (-1), 3) := by decide +kernel
theorem dX2_candidates_58 : decode cX2_candidates 58 = .ok (.goto (-25), 3) := by decide +kernel
theorem dX2_candidates_61 : decode cX2_candidates 61 = .ok (.iconst 0, 1) := by decide +kernel
theorem dX2_candidates_62 : decode cX2_candidates 62 = .ok (.ireturn, 1) := by decide +kernel
theorem dX2_named_0 : decode cX2_named 0 = .ok (.iload_n 1, 1) := by decide +kernel
theorem dX2_named_1 : decode cX2_named 1 = .ok (.iconst 5, 1) := by decide +kernel
theorem dX2_named_2 : decode cX2_named 2 = .ok (.imul, 1) := by decide +kernel
theorem dX2_named_3 : decode cX2_named 3 = .ok (.istore_n 2, 1) := by decide +kernel
theorem dX2_named_4 : decode cX2_named 4 = .ok (.aload_n 0, 1) := by decide +kernel
theorem dX2_named_5 : decode cX2_named 5 = .ok (.getfield 9, 3) := by decide +kernel
theorem dX2_named_8 : decode cX2_named 8 = .ok (.iload_n 2, 1) := by decide +kernel
theorem dX2_named_9 : decode cX2_named 9 = .ok (.iaload, 1) := by decide +kernel
theorem dX2_named_10 : decode cX2_named 10 = .ok (.invokestatic 51, 3) := by decide +kernel
theorem dX2_named_13 : decode cX2_named 13 = .ok (.istore_n 3, 1) := by decide +kernel
theorem dX2_named_14 : decode cX2_named 14 = .ok (.aload_n 0, 1) := by decide +kernel
theorem dX2_named_15 : decode cX2_named 15 = .ok (.iload_n 1, 1) := by decide +kernel
theorem dX2_named_16 : decode cX2_named 16 = .ok (.invokevirtual 29, 3) := by decide +kernel
theorem dX2_named_19 : decode cX2_named 19 = .ok (.bipush 33, 2) := by decide +kernel
theorem dX2_named_21 : decode cX2_named 21 = .ok (.if_icmp .ne 19, 3) := by decide +kernel
theorem dX2_named_24 : decode cX2_named 24 = .ok (.iload_n 3, 1) := by decide +kernel
theorem dX2_named_25 : decode cX2_named 25 = .ok (.aload_n 0, 1) := by decide +kernel
theorem dX2_named_26 : decode cX2_named 26 = .ok (.getfield 9, 3) := by decide +kernel
theorem dX2_named_29 : decode cX2_named 29 = .ok (.iload_n 2, 1) := by decide +kernel
theorem dX2_named_30 : decode cX2_named 30 = .ok (.iconst 3, 1) := by decide +kernel
theorem dX2_named_31 : decode cX2_named 31 = .ok (.iadd, 1) := by decide +kernel
theorem dX2_named_32 : decode cX2_named 32 = .ok (.iaload, 1) := by decide +kernel
theorem dX2_named_33 : decode cX2_named 33 = .ok (.invokestatic 51, 3) := by decide +kernel
theorem dX2_named_36 : decode cX2_named 36 = .ok (.ior, 1) := by decide +kernel
theorem dX2_named_37 : decode cX2_named 37 = .ok (.goto 4, 3) := by decide +kernel
theorem dX2_named_40 : decode cX2_named 40 = .ok (.iload_n 3, 1) := by decide +kernel
theorem dX2_named_41 : decode cX2_named 41 = .ok (.ireturn, 1) := by decide +kernel
theorem dX2_personBit_0 : decode cX2_personBit 0 = .ok (.iload_n 0, 1) := by decide +kernel
theorem dX2_personBit_1 : decode cX2_personBit 1 = .ok (.invokestatic 45, 3) := by decide +kernel
theorem dX2_personBit_4 : decode cX2_personBit 4 = .ok (.ifCond .eq 9, 3) := by decide +kernel
theorem dX2_personBit_7 : decode cX2_personBit 7 = .ok (.iconst 1, 1) := by decide +kernel
theorem dX2_personBit_8 : decode cX2_personBit 8 = .ok (.iload_n 0, 1) := by decide +kernel
theorem dX2_personBit_9 : decode cX2_personBit 9 = .ok (.ishl, 1) := by decide +kernel
theorem dX2_personBit_10 : decode cX2_personBit 10 = .ok (.goto 4, 3) := by decide +kernel
theorem dX2_personBit_13 : decode cX2_personBit 13 = .ok (.iconst 0, 1) := by decide +kernel
theorem dX2_personBit_14 : decode cX2_personBit 14 = .ok (.ireturn, 1) := by decide +kernel
theorem dX2_allNamed_0 : decode cX2_allNamed 0 = .ok (.iconst 0, 1) := by decide +kernel
theorem dX2_allNamed_1 : decode cX2_allNamed 1 = .ok (.istore_n 1, 1) := by decide +kernel
theorem dX2_allNamed_2 : decode cX2_allNamed 2 = .ok (.iconst 0, 1) := by decide +kernel
theorem dX2_allNamed_3 : decode cX2_allNamed 3 = .ok (.istore_n 2, 1) := by decide +kernel
theorem dX2_allNamed_4 : decode cX2_allNamed 4 = .ok (.iload_n 2, 1) := by decide +kernel
theorem dX2_allNamed_5 : decode cX2_allNamed 5 = .ok (.aload_n 0, 1) := by decide +kernel
theorem dX2_allNamed_6 : decode cX2_allNamed 6 = .ok (.getfield 18, 3) := by decide +kernel
theorem dX2_allNamed_9 : decode cX2_allNamed 9 = .ok (.if_icmp .ge 17, 3) := by decide +kernel
theorem dX2_allNamed_12 : decode cX2_allNamed 12 = .ok (.iload_n 1, 1) := by decide +kernel
theorem dX2_allNamed_13 : decode cX2_allNamed 13 = .ok (.aload_n 0, 1) := by decide +kernel
theorem dX2_allNamed_14 : decode cX2_allNamed 14 = .ok (.iload_n 2, 1) := by decide +kernel
theorem dX2_allNamed_15 : decode cX2_allNamed 15 = .ok (.invokevirtual 48, 3) := by decide +kernel
theorem dX2_allNamed_18 : decode cX2_allNamed 18 = .ok (.ior, 1) := by decide +kernel
theorem dX2_allNamed_19 : decode cX2_allNamed 19 = .ok (.istore_n 1, 1) := by decide +kernel
theorem dX2_allNamed_20 : decode cX2_allNamed 20 = .ok (.iinc 2 1, 3) := by decide +kernel
theorem dX2_allNamed_23 : decode cX2_allNamed 23 = .ok (.goto (-19), 3) := by decide +kernel
theorem dX2_allNamed_26 : decode cX2_allNamed 26 = .ok (.iload_n 1, 1) := by decide +kernel
theorem dX2_allNamed_27 : decode cX2_allNamed 27 = .ok (.ireturn, 1) := by decide +kernel
theorem dX2_allPlaces_0 : decode cX2_allPlaces 0 = .ok (.iconst 0, 1) := by decide +kernel
theorem dX2_allPlaces_1 : decode cX2_allPlaces 1 = .ok (.istore_n 1, 1) := by decide +kernel
theorem dX2_allPlaces_2 : decode cX2_allPlaces 2 = .ok (.iconst 0, 1) := by decide +kernel
theorem dX2_allPlaces_3 : decode cX2_allPlaces 3 = .ok (.istore_n 2, 1) := by decide +kernel
theorem dX2_allPlaces_4 : decode cX2_allPlaces 4 = .ok (.iload_n 2, 1) := by decide +kernel
theorem dX2_allPlaces_5 : decode cX2_allPlaces 5 = .ok (.aload_n 0, 1) := by decide +kernel
theorem dX2_allPlaces_6 : decode cX2_allPlaces 6 = .ok (.getfield 18, 3) := by decide +kernel
theorem dX2_allPlaces_9 : decode cX2_allPlaces 9 = .ok (.if_icmp .ge 32, 3) := by decide +kernel
theorem dX2_allPlaces_12 : decode cX2_allPlaces 12 = .ok (.aload_n 0, 1) := by decide +kernel
theorem dX2_allPlaces_13 : decode cX2_allPlaces 13 = .ok (.iload_n 2, 1) := by decide +kernel
theorem dX2_allPlaces_14 : decode cX2_allPlaces 14 = .ok (.invokevirtual 29, 3) := by decide +kernel
theorem dX2_allPlaces_17 : decode cX2_allPlaces 17 = .ok (.bipush 30, 2) := by decide +kernel
theorem dX2_allPlaces_19 : decode cX2_allPlaces 19 = .ok (.if_icmp .ne 16, 3) := by decide +kernel
theorem dX2_allPlaces_22 : decode cX2_allPlaces 22 = .ok (.iload_n 1, 1) := by decide +kernel
theorem dX2_allPlaces_23 : decode cX2_allPlaces 23 = .ok (.iconst 1, 1) := by decide +kernel
theorem dX2_allPlaces_24 : decode cX2_allPlaces 24 = .ok (.aload_n 0, 1) := by decide +kernel
theorem dX2_allPlaces_25 : decode cX2_allPlaces 25 = .ok (.iload_n 2, 1) := by decide +kernel
theorem dX2_allPlaces_26 : decode cX2_allPlaces 26 = .ok (.invokevirtual 54, 3) := by decide +kernel
theorem dX2_allPlaces_29 : decode cX2_allPlaces 29 = .ok (.bipush 20, 2) := by decide +kernel
theorem dX2_allPlaces_31 : decode cX2_allPlaces 31 = .ok (.isub, 1) := by decide +kernel
theorem dX2_allPlaces_32 : decode cX2_allPlaces 32 = .ok (.ishl, 1) := by decide +kernel
theorem dX2_allPlaces_33 : decode cX2_allPlaces 33 = .ok (.ior, 1) := by decide +kernel
theorem dX2_allPlaces_34 : decode cX2_allPlaces 34 = .ok (.istore_n 1, 1) := by decide +kernel
theorem dX2_allPlaces_35 : decode cX2_allPlaces 35 = .ok (.iinc 2 1, 3) := by decide +kernel
theorem dX2_allPlaces_38 : decode cX2_allPlaces 38 = .ok (.goto (-34), 3) := by decide +kernel
theorem dX2_allPlaces_41 : decode cX2_allPlaces 41 = .ok (.iload_n 1, 1) := by decide +kernel
theorem dX2_allPlaces_42 : decode cX2_allPlaces 42 = .ok (.ireturn, 1) := by decide +kernel
theorem dX2_mayMean_0 : decode cX2_mayMean 0 = .ok (.aload_n 0, 1) := by decide +kernel
theorem dX2_mayMean_1 : decode cX2_mayMean 1 = .ok (.getfield 15, 3) := by decide +kernel
theorem dX2_mayMean_4 : decode cX2_mayMean 4 = .ok (.iconst 2, 1) := by decide +kernel
theorem dX2_mayMean_5 : decode cX2_mayMean 5 = .ok (.iload_n 1, 1) := by decide +kernel
theorem dX2_mayMean_6 : decode cX2_mayMean 6 = .ok (.imul, 1) := by decide +kernel
theorem dX2_mayMean_7 : decode cX2_mayMean 7 = .ok (.iload_n 2, 1) := by decide +kernel
theorem dX2_mayMean_8 : decode cX2_mayMean 8 = .ok (.iadd, 1) := by decide +kernel
theorem dX2_mayMean_9 : decode cX2_mayMean 9 = .ok (.iaload, 1) := by decide +kernel
theorem dX2_mayMean_10 : decode cX2_mayMean 10 = .ok (.ireturn, 1) := by decide +kernel
theorem dX2_person_0 : decode cX2_person 0 = .ok (.aload_n 0, 1) := by decide +kernel
theorem dX2_person_1 : decode cX2_person 1 = .ok (.iload_n 1, 1) := by decide +kernel
theorem dX2_person_2 : decode cX2_person 2 = .ok (.iload_n 2, 1) := by decide +kernel
theorem dX2_person_3 : decode cX2_person 3 = .ok (.invokevirtual 57, 3) := by decide +kernel
theorem dX2_person_6 : decode cX2_person 6 = .ok (.istore 4, 2) := by decide +kernel
theorem dX2_person_8 : decode cX2_person 8 = .ok (.iload_n 3, 1) := by decide +kernel
theorem dX2_person_9 : decode cX2_person 9 = .ok (.iconst 2, 1) := by decide +kernel
theorem dX2_person_10 : decode cX2_person 10 = .ok (.iload_n 1, 1) := by decide +kernel
theorem dX2_person_11 : decode cX2_person 11 = .ok (.imul, 1) := by decide +kernel
theorem dX2_person_12 : decode cX2_person 12 = .ok (.iload_n 2, 1) := by decide +kernel
theorem dX2_person_13 : decode cX2_person 13 = .ok (.iadd, 1) := by decide +kernel
theorem dX2_person_14 : decode cX2_person 14 = .ok (.ishr, 1) := by decide +kernel
theorem dX2_person_15 : decode cX2_person 15 = .ok (.iconst 1, 1) := by decide +kernel
theorem dX2_person_16 : decode cX2_person 16 = .ok (.iand, 1) := by decide +kernel
theorem dX2_person_17 : decode cX2_person 17 = .ok (.ifCond .eq 12, 3) := by decide +kernel
theorem dX2_person_20 : decode cX2_person 20 = .ok (.iload 4, 2) := by decide +kernel
theorem dX2_person_22 : decode cX2_person 22 = .ok (.iload 4, 2) := by decide +kernel
theorem dX2_person_24 : decode cX2_person 24 = .ok (.iconst 1, 1) := by decide +kernel
theorem dX2_person_25 : decode cX2_person 25 = .ok (.isub, 1) := by decide +kernel
theorem dX2_person_26 : decode cX2_person 26 = .ok (.iand, 1) := by decide +kernel
theorem dX2_person_27 : decode cX2_person 27 = .ok (.istore 4, 2) := by decide +kernel
theorem dX2_person_29 : decode cX2_person 29 = .ok (.iload 4, 2) := by decide +kernel
theorem dX2_person_31 : decode cX2_person 31 = .ok (.ifCond .ne 7, 3) := by decide +kernel
theorem dX2_person_34 : decode cX2_person 34 = .ok (.iconst (-1), 1) := by decide +kernel
theorem dX2_person_35 : decode cX2_person 35 = .ok (.goto 14, 3) := by decide +kernel
theorem dX2_person_38 : decode cX2_person 38 = .ok (.iload 4, 2) := by decide +kernel
theorem dX2_person_40 : decode cX2_person 40 = .ok (.iload 4, 2) := by decide +kernel
theorem dX2_person_42 : decode cX2_person 42 = .ok (.ineg, 1) := by decide +kernel
theorem dX2_person_43 : decode cX2_person 43 = .ok (.iand, 1) := by decide +kernel
theorem dX2_person_44 : decode cX2_person 44 = .ok (.iconst 1, 1) := by decide +kernel
theorem dX2_person_45 : decode cX2_person 45 = .ok (.isub, 1) := by decide +kernel
theorem dX2_person_46 : decode cX2_person 46 = .ok (.invokestatic 61, 3) := by decide +kernel
theorem dX2_person_49 : decode cX2_person 49 = .ok (.ireturn, 1) := by decide +kernel
theorem dX3_init_0 : decode cX3_init 0 = .ok (.aload_n 0, 1) := by decide +kernel
theorem dX3_init_1 : decode cX3_init 1 = .ok (.invokespecial 3, 3) := by decide +kernel
theorem dX3_init_4 : decode cX3_init 4 = .ok (.aload_n 0, 1) := by decide +kernel
theorem dX3_init_5 : decode cX3_init 5 = .ok (.bipush 15, 2) := by decide +kernel
theorem dX3_init_7 : decode cX3_init 7 = .ok (.bipush 64, 2) := by decide +kernel
theorem dX3_init_9 : decode cX3_init 9 = .ok (.multianewarray 9 2, 4) := by decide +kernel
theorem dX3_init_13 : decode cX3_init 13 = .ok (.putfield 11, 3) := by decide +kernel
theorem dX3_init_16 : decode cX3_init 16 = .ok (.aload_n 0, 1) := by decide +kernel
theorem dX3_init_17 : decode cX3_init 17 = .ok (.bipush 15, 2) := by decide +kernel
theorem dX3_init_19 : decode cX3_init 19 = .ok (.newarray .int, 2) := by decide +kernel
theorem dX3_init_21 : decode cX3_init 21 = .ok (.putfield 16, 3) := by decide +kernel
theorem dX3_init_24 : decode cX3_init 24 = .ok (.aload_n 0, 1) := by decide +kernel
theorem dX3_init_25 : decode cX3_init 25 = .ok (.getfield 16, 3) := by decide +kernel
theorem dX3_init_28 : decode cX3_init 28 = .ok (.iconst 0, 1) := by decide +kernel
theorem dX3_init_29 : decode cX3_init 29 = .ok (.iconst 1, 1) := by decide +kernel
theorem dX3_init_30 : decode cX3_init 30 = .ok (.iastore, 1) := by decide +kernel
theorem dX3_init_31 : decode cX3_init 31 = .ok (.return_, 1) := by decide +kernel
theorem dX3_size_0 : decode cX3_size 0 = .ok (.aload_n 0, 1) := by decide +kernel
theorem dX3_size_1 : decode cX3_size 1 = .ok (.getfield 16, 3) := by decide +kernel
theorem dX3_size_4 : decode cX3_size 4 = .ok (.iload_n 1, 1) := by decide +kernel
theorem dX3_size_5 : decode cX3_size 5 = .ok (.iaload, 1) := by decide +kernel
theorem dX3_size_6 : decode cX3_size 6 = .ok (.ireturn, 1) := by decide +kernel
theorem dX3_choices_0 : decode cX3_choices 0 = .ok (.aload_n 0, 1) := by decide +kernel
theorem dX3_choices_1 : decode cX3_choices 1 = .ok (.getfield 11, 3) := by decide +kernel
theorem dX3_choices_4 : decode cX3_choices 4 = .ok (.iload_n 1, 1) := by decide +kernel
theorem dX3_choices_5 : decode cX3_choices 5 = .ok (.aaload, 1) := by decide +kernel
theorem dX3_choices_6 : decode cX3_choices 6 = .ok (.iload_n 2, 1) := by decide +kernel
theorem dX3_choices_7 : decode cX3_choices 7 = .ok (.iaload, 1) := by decide +kernel
theorem dX3_choices_8 : decode cX3_choices 8 = .ok (.ireturn, 1) := by decide +kernel
theorem dX3_clear_0 : decode cX3_clear 0 = .ok (.aload_n 0, 1) := by decide +kernel
theorem dX3_clear_1 : decode cX3_clear 1 = .ok (.getfield 16, 3) := by decide +kernel
theorem dX3_clear_4 : decode cX3_clear 4 = .ok (.iload_n 1, 1) := by decide +kernel
theorem dX3_clear_5 : decode cX3_clear 5 = .ok (.iconst 0, 1) := by decide +kernel
theorem dX3_clear_6 : decode cX3_clear 6 = .ok (.iastore, 1) := by decide +kernel
theorem dX3_clear_7 : decode cX3_clear 7 = .ok (.return_, 1) := by decide +kernel
theorem dX3_add_0 : decode cX3_add 0 = .ok (.aload_n 0, 1) := by decide +kernel
theorem dX3_add_1 : decode cX3_add 1 = .ok (.getfield 16, 3) := by decide +kernel
theorem dX3_add_4 : decode cX3_add 4 = .ok (.iload_n 1, 1) := by decide +kernel
theorem dX3_add_5 : decode cX3_add 5 = .ok (.iaload, 1) := by decide +kernel
theorem dX3_add_6 : decode cX3_add 6 = .ok (.bipush 64, 2) := by decide +kernel
theorem dX3_add_8 : decode cX3_add 8 = .ok (.if_icmp .lt 5, 3) := by decide +kernel
theorem dX3_add_11 : decode cX3_add 11 = .ok (.iconst 0, 1) := by decide +kernel
theorem dX3_add_12 : decode cX3_add 12 = .ok (.ireturn, 1) := by decide +kernel
theorem dX3_add_13 : decode cX3_add 13 = .ok (.aload_n 0, 1) := by decide +kernel
theorem dX3_add_14 : decode cX3_add 14 = .ok (.getfield 11, 3) := by decide +kernel
theorem dX3_add_17 : decode cX3_add 17 = .ok (.iload_n 1, 1) := by decide +kernel
theorem dX3_add_18 : decode cX3_add 18 = .ok (.aaload, 1) := by decide +kernel
theorem dX3_add_19 : decode cX3_add 19 = .ok (.aload_n 0, 1) := by decide +kernel
theorem dX3_add_20 : decode cX3_add 20 = .ok (.getfield 16, 3) := by decide +kernel
theorem dX3_add_23 : decode cX3_add 23 = .ok (.iload_n 1, 1) := by decide +kernel
theorem dX3_add_24 : decode cX3_add 24 = .ok (.iaload, 1) := by decide +kernel
theorem dX3_add_25 : decode cX3_add 25 = .ok (.iload_n 2, 1) := by decide +kernel
theorem dX3_add_26 : decode cX3_add 26 = .ok (.iastore, 1) := by decide +kernel
theorem dX3_add_27 : decode cX3_add 27 = .ok (.aload_n 0, 1) := by decide +kernel
theorem dX3_add_28 : decode cX3_add 28 = .ok (.getfield 16, 3) := by decide +kernel
theorem dX3_add_31 : decode cX3_add 31 = .ok (.iload_n 1, 1) := by decide +kernel
theorem dX3_add_32 : decode cX3_add 32 = .ok (.dup2, 1) := by decide +kernel
theorem dX3_add_33 : decode cX3_add 33 = .ok (.iaload, 1) := by decide +kernel
theorem dX3_add_34 : decode cX3_add 34 = .ok (.iconst 1, 1) := by decide +kernel
theorem dX3_add_35 : decode cX3_add 35 = .ok (.iadd, 1) := by decide +kernel
theorem dX3_add_36 : decode cX3_add 36 = .ok (.iastore, 1) := by decide +kernel
theorem dX3_add_37 : decode cX3_add 37 = .ok (.iconst 1, 1) := by decide +kernel
theorem dX3_add_38 : decode cX3_add 38 = .ok (.ireturn, 1) := by decide +kernel
theorem dX4_init_0 : decode cX4_init 0 = .ok (.aload_n 0, 1) := by decide +kernel
theorem dX4_init_1 : decode cX4_init 1 = .ok (.invokespecial 3, 3) := by decide +kernel
theorem dX4_init_4 : decode cX4_init 4 = .ok (.aload_n 0, 1) := by decide +kernel
theorem dX4_init_5 : decode cX4_init 5 = .ok (.bipush 8, 2) := by decide +kernel
theorem dX4_init_7 : decode cX4_init 7 = .ok (.newarray .int, 2) := by decide +kernel
theorem dX4_init_9 : decode cX4_init 9 = .ok (.putfield 9, 3) := by decide +kernel
theorem dX4_init_12 : decode cX4_init 12 = .ok (.aload_n 0, 1) := by decide +kernel
theorem dX4_init_13 : decode cX4_init 13 = .ok (.bipush 8, 2) := by decide +kernel
theorem dX4_init_15 : decode cX4_init 15 = .ok (.newarray .int, 2) := by decide +kernel
theorem dX4_init_17 : decode cX4_init 17 = .ok (.putfield 15, 3) := by decide +kernel
theorem dX4_init_20 : decode cX4_init 20 = .ok (.aload_n 0, 1) := by decide +kernel
theorem dX4_init_21 : decode cX4_init 21 = .ok (.bipush 10, 2) := by decide +kernel
theorem dX4_init_23 : decode cX4_init 23 = .ok (.newarray .int, 2) := by decide +kernel
theorem dX4_init_25 : decode cX4_init 25 = .ok (.putfield 18, 3) := by decide +kernel
theorem dX4_init_28 : decode cX4_init 28 = .ok (.aload_n 0, 1) := by decide +kernel
theorem dX4_init_29 : decode cX4_init 29 = .ok (.bipush 10, 2) := by decide +kernel
theorem dX4_init_31 : decode cX4_init 31 = .ok (.newarray .int, 2) := by decide +kernel
theorem dX4_init_33 : decode cX4_init 33 = .ok (.putfield 21, 3) := by decide +kernel
theorem dX4_init_36 : decode cX4_init 36 = .ok (.aload_n 0, 1) := by decide +kernel
theorem dX4_init_37 : decode cX4_init 37 = .ok (.bipush 10, 2) := by decide +kernel
theorem dX4_init_39 : decode cX4_init 39 = .ok (.newarray .int, 2) := by decide +kernel
theorem dX4_init_41 : decode cX4_init 41 = .ok (.putfield 24, 3) := by decide +kernel
theorem dX4_init_44 : decode cX4_init 44 = .ok (.aload_n 0, 1) := by decide +kernel
theorem dX4_init_45 : decode cX4_init 45 = .ok (.bipush 10, 2) := by decide +kernel
theorem dX4_init_47 : decode cX4_init 47 = .ok (.newarray .int, 2) := by decide +kernel
theorem dX4_init_49 : decode cX4_init 49 = .ok (.putfield 27, 3) := by decide +kernel
theorem dX4_init_52 : decode cX4_init 52 = .ok (.return_, 1) := by decide +kernel
theorem dX4_goThrough_0 : decode cX4_goThrough 0 = .ok (.aload_n 0, 1) := by decide +kernel
theorem dX4_goThrough_1 : decode cX4_goThrough 1 = .ok (.invokevirtual 30, 3) := by decide +kernel
theorem dX4_goThrough_4 : decode cX4_goThrough 4 = .ok (.iconst 0, 1) := by decide +kernel
theorem dX4_goThrough_5 : decode cX4_goThrough 5 = .ok (.istore 4, 2) := by decide +kernel
theorem dX4_goThrough_7 : decode cX4_goThrough 7 = .ok (.iload 4, 2) := by decide +kernel
theorem dX4_goThrough_9 : decode cX4_goThrough 9 = .ok (.iload_n 2, 1) := by decide +kernel
theorem dX4_goThrough_10 : decode cX4_goThrough 10 = .ok (.if_icmp .ge 17, 3) := by decide +kernel
theorem dX4_goThrough_13 : decode cX4_goThrough 13 = .ok (.aload_n 0, 1) := by decide +kernel
theorem dX4_goThrough_14 : decode cX4_goThrough 14 = .ok (.aload_n 1, 1) := by decide +kernel
theorem dX4_goThrough_15 : decode cX4_goThrough 15 = .ok (.iload 4, 2) := by decide +kernel
theorem dX4_goThrough_17 : decode cX4_goThrough 17 = .ok (.iload_n 3, 1) := by decide +kernel
theorem dX4_goThrough_18 : decode cX4_goThrough 18 = .ok (.invokevirtual 33, 3) := by decide +kernel
theorem dX4_goThrough_21 : decode cX4_goThrough 21 = .ok (.iinc 4 1, 3) := by decide +kernel
theorem dX4_goThrough_24 : decode cX4_goThrough 24 = .ok (.goto (-17), 3) := by decide +kernel
theorem dX4_goThrough_27 : decode cX4_goThrough 27 = .ok (.return_, 1) := by decide +kernel
theorem dX4_forgetAll_0 : decode cX4_forgetAll 0 = .ok (.iconst 0, 1) := by decide +kernel
theorem dX4_forgetAll_1 : decode cX4_forgetAll 1 = .ok (.istore_n 1, 1) := by decide +kernel
theorem dX4_forgetAll_2 : decode cX4_forgetAll 2 = .ok (.iload_n 1, 1) := by decide +kernel
theorem dX4_forgetAll_3 : decode cX4_forgetAll 3 = .ok (.bipush 8, 2) := by decide +kernel
theorem dX4_forgetAll_5 : decode cX4_forgetAll 5 = .ok (.if_icmp .ge 24, 3) := by decide +kernel
theorem dX4_forgetAll_8 : decode cX4_forgetAll 8 = .ok (.aload_n 0, 1) := by decide +kernel
theorem dX4_forgetAll_9 : decode cX4_forgetAll 9 = .ok (.getfield 9, 3) := by decide +kernel
theorem dX4_forgetAll_12 : decode cX4_forgetAll 12 = .ok (.iload_n 1, 1) := by decide +kernel
theorem dX4_forgetAll_13 : decode cX4_forgetAll 13 = .ok (.bipush (-2), 2) := by decide +kernel
theorem dX4_forgetAll_15 : decode cX4_forgetAll 15 = .ok (.iastore, 1) := by decide +kernel
theorem dX4_forgetAll_16 : decode cX4_forgetAll 16 = .ok (.aload_n 0, 1) := by decide +kernel
theorem dX4_forgetAll_17 : decode cX4_forgetAll 17 = .ok (.getfield 15, 3) := by decide +kernel
theorem dX4_forgetAll_20 : decode cX4_forgetAll 20 = .ok (.iload_n 1, 1) := by decide +kernel
theorem dX4_forgetAll_21 : decode cX4_forgetAll 21 = .ok (.iconst 0, 1) := by decide +kernel
theorem dX4_forgetAll_22 : decode cX4_forgetAll 22 = .ok (.iastore, 1) := by decide +kernel
theorem dX4_forgetAll_23 : decode cX4_forgetAll 23 = .ok (.iinc 1 1, 3) := by decide +kernel
theorem dX4_forgetAll_26 : decode cX4_forgetAll 26 = .ok (.goto (-24), 3) := by decide +kernel
theorem dX4_forgetAll_29 : decode cX4_forgetAll 29 = .ok (.iconst 0, 1) := by decide +kernel
theorem dX4_forgetAll_30 : decode cX4_forgetAll 30 = .ok (.istore_n 1, 1) := by decide +kernel
theorem dX4_forgetAll_31 : decode cX4_forgetAll 31 = .ok (.iload_n 1, 1) := by decide +kernel
theorem dX4_forgetAll_32 : decode cX4_forgetAll 32 = .ok (.bipush 10, 2) := by decide +kernel
theorem dX4_forgetAll_34 : decode cX4_forgetAll 34 = .ok (.if_icmp .ge 39, 3) := by decide +kernel
theorem dX4_forgetAll_37 : decode cX4_forgetAll 37 = .ok (.aload_n 0, 1) := by decide +kernel
theorem dX4_forgetAll_38 : decode cX4_forgetAll 38 = .ok (.getfield 18, 3) := by decide +kernel
theorem dX4_forgetAll_41 : decode cX4_forgetAll 41 = .ok (.iload_n 1, 1) := by decide +kernel
theorem dX4_forgetAll_42 : decode cX4_forgetAll 42 = .ok (.bipush (-2), 2) := by decide +kernel
theorem dX4_forgetAll_44 : decode cX4_forgetAll 44 = .ok (.iastore, 1) := by decide +kernel
theorem dX4_forgetAll_45 : decode cX4_forgetAll 45 = .ok (.aload_n 0, 1) := by decide +kernel
theorem dX4_forgetAll_46 : decode cX4_forgetAll 46 = .ok (.getfield 21, 3) := by decide +kernel
theorem dX4_forgetAll_49 : decode cX4_forgetAll 49 = .ok (.iload_n 1, 1) := by decide +kernel
theorem dX4_forgetAll_50 : decode cX4_forgetAll 50 = .ok (.iconst 0, 1) := by decide +kernel
theorem dX4_forgetAll_51 : decode cX4_forgetAll 51 = .ok (.iastore, 1) := by decide +kernel
theorem dX4_forgetAll_52 : decode cX4_forgetAll 52 = .ok (.aload_n 0, 1) := by decide +kernel
theorem dX4_forgetAll_53 : decode cX4_forgetAll 53 = .ok (.getfield 24, 3) := by decide +kernel
theorem dX4_forgetAll_56 : decode cX4_forgetAll 56 = .ok (.iload_n 1, 1) := by decide +kernel
theorem dX4_forgetAll_57 : decode cX4_forgetAll 57 = .ok (.bipush (-2), 2) := by decide +kernel
theorem dX4_forgetAll_59 : decode cX4_forgetAll 59 = .ok (.iastore, 1) := by decide +kernel
theorem dX4_forgetAll_60 : decode cX4_forgetAll 60 = .ok (.aload_n 0, 1) := by decide +kernel
theorem dX4_forgetAll_61 : decode cX4_forgetAll 61 = .ok (.getfield 27, 3) := by decide +kernel
theorem dX4_forgetAll_64 : decode cX4_forgetAll 64 = .ok (.iload_n 1, 1) := by decide +kernel
theorem dX4_forgetAll_65 : decode cX4_forgetAll 65 = .ok (.iconst 0, 1) := by decide +kernel
theorem dX4_forgetAll_66 : decode cX4_forgetAll 66 = .ok (.iastore, 1) := by decide +kernel
theorem dX4_forgetAll_67 : decode cX4_forgetAll 67 = .ok (.iinc 1 1, 3) := by decide +kernel
theorem dX4_forgetAll_70 : decode cX4_forgetAll 70 = .ok (.goto (-39), 3) := by decide +kernel
theorem dX4_forgetAll_73 : decode cX4_forgetAll 73 = .ok (.return_, 1) := by decide +kernel
theorem dX4_allows_0 : decode cX4_allows 0 = .ok (.aload_n 1, 1) := by decide +kernel
theorem dX4_allows_1 : decode cX4_allows 1 = .ok (.iload_n 2, 1) := by decide +kernel
theorem dX4_allows_2 : decode cX4_allows 2 = .ok (.iconst 0, 1) := by decide +kernel
theorem dX4_allows_3 : decode cX4_allows 3 = .ok (.iload_n 3, 1) := by decide +kernel
theorem dX4_allows_4 : decode cX4_allows 4 = .ok (.invokevirtual 37, 3) := by decide +kernel
theorem dX4_allows_7 : decode cX4_allows 7 = .ok (.istore 4, 2) := by decide +kernel
theorem dX4_allows_9 : decode cX4_allows 9 = .ok (.iload 4, 2) := by decide +kernel
theorem dX4_allows_11 : decode cX4_allows 11 = .ok (.iconst (-1), 1) := by decide +kernel
theorem dX4_allows_12 : decode cX4_allows 12 = .ok (.if_icmp .ne 5, 3) := by decide +kernel
theorem dX4_allows_15 : decode cX4_allows 15 = .ok (.iconst 0, 1) := by decide +kernel
theorem dX4_allows_16 : decode cX4_allows 16 = .ok (.ireturn, 1) := by decide +kernel
theorem dX4_allows_17 : decode cX4_allows 17 = .ok (.aload_n 1, 1) := by decide +kernel
theorem dX4_allows_18 : decode cX4_allows 18 = .ok (.iload_n 2, 1) := by decide +kernel
theorem dX4_allows_19 : decode cX4_allows 19 = .ok (.invokevirtual 43, 3) := by decide +kernel
theorem dX4_allows_22 : decode cX4_allows 22 = .ok (.bipush 10, 2) := by decide +kernel
theorem dX4_allows_24 : decode cX4_allows 24 = .ok (.isub, 1) := by decide +kernel
theorem dX4_allows_25 : decode cX4_allows 25 = .ok (.istore 5, 2) := by decide +kernel
theorem dX4_allows_27 : decode cX4_allows 27 = .ok (.aload_n 1, 1) := by decide +kernel
theorem dX4_allows_28 : decode cX4_allows 28 = .ok (.iload_n 2, 1) := by decide +kernel
theorem dX4_allows_29 : decode cX4_allows 29 = .ok (.invokevirtual 47, 3) := by decide +kernel
theorem dX4_allows_32 : decode cX4_allows 32 = .ok (.tableswitch 62 31 33 #[28, 37, 46], 28) := by decide +kernel
theorem dX4_allows_60 : decode cX4_allows 60 = .ok (.aload_n 0, 1) := by decide +kernel
theorem dX4_allows_61 : decode cX4_allows 61 = .ok (.iload 4, 2) := by decide +kernel
theorem dX4_allows_63 : decode cX4_allows 63 = .ok (.iload 5, 2) := by decide +kernel
theorem dX4_allows_65 : decode cX4_allows 65 = .ok (.invokevirtual 50, 3) := by decide +kernel
theorem dX4_allows_68 : decode cX4_allows 68 = .ok (.ireturn, 1) := by decide +kernel
theorem dX4_allows_69 : decode cX4_allows 69 = .ok (.aload_n 0, 1) := by decide +kernel
theorem dX4_allows_70 : decode cX4_allows 70 = .ok (.iload 4, 2) := by decide +kernel
theorem dX4_allows_72 : decode cX4_allows 72 = .ok (.iload 5, 2) := by decide +kernel
theorem dX4_allows_74 : decode cX4_allows 74 = .ok (.invokevirtual 54, 3) := by decide +kernel
theorem dX4_allows_77 : decode cX4_allows 77 = .ok (.ireturn, 1) := by decide +kernel
theorem dX4_allows_78 : decode cX4_allows 78 = .ok (.aload_n 0, 1) := by decide +kernel
theorem dX4_allows_79 : decode cX4_allows 79 = .ok (.iload 4, 2) := by decide +kernel
theorem dX4_allows_81 : decode cX4_allows 81 = .ok (.iload 5, 2) := by decide +kernel
theorem dX4_allows_83 : decode cX4_allows 83 = .ok (.aload_n 1, 1) := by decide +kernel
theorem dX4_allows_84 : decode cX4_allows 84 = .ok (.iload_n 2, 1) := by decide +kernel
theorem dX4_allows_85 : decode cX4_allows 85 = .ok (.iconst 1, 1) := by decide +kernel
theorem dX4_allows_86 : decode cX4_allows 86 = .ok (.iload_n 3, 1) := by decide +kernel
theorem dX4_allows_87 : decode cX4_allows 87 = .ok (.invokevirtual 37, 3) := by decide +kernel
theorem dX4_allows_90 : decode cX4_allows 90 = .ok (.invokevirtual 57, 3) := by decide +kernel
theorem dX4_allows_93 : decode cX4_allows 93 = .ok (.ireturn, 1) := by decide +kernel
theorem dX4_allows_94 : decode cX4_allows 94 = .ok (.iconst 1, 1) := by decide +kernel
theorem dX4_allows_95 : decode cX4_allows 95 = .ok (.ireturn, 1) := by decide +kernel
theorem dX4_allowsTaking_0 : decode cX4_allowsTaking 0 = .ok (.aload_n 0, 1) := by decide +kernel
theorem dX4_allowsTaking_1 : decode cX4_allowsTaking 1 = .ok (.getfield 18, 3) := by decide +kernel
theorem dX4_allowsTaking_4 : decode cX4_allowsTaking 4 = .ok (.iload_n 2, 1) := by decide +kernel
theorem dX4_allowsTaking_5 : decode cX4_allowsTaking 5 = .ok (.iaload, 1) := by decide +kernel
theorem dX4_allowsTaking_6 : decode cX4_allowsTaking 6 = .ok (.bipush 9, 2) := by decide +kernel
theorem dX4_allowsTaking_8 : decode cX4_allowsTaking 8 = .ok (.if_icmp .ne 19, 3) := by decide +kernel
theorem dX4_allowsTaking_11 : decode cX4_allowsTaking 11 = .ok (.aload_n 0, 1) := by decide +kernel
theorem dX4_allowsTaking_12 : decode cX4_allowsTaking 12 = .ok (.getfield 24, 3) := by decide +kernel
theorem dX4_allowsTaking_15 : decode cX4_allowsTaking 15 = .ok (.iload_n 2, 1) := by decide +kernel
theorem dX4_allowsTaking_16 : decode cX4_allowsTaking 16 = .ok (.iaload, 1) := by decide +kernel
theorem dX4_allowsTaking_17 : decode cX4_allowsTaking 17 = .ok (.aload_n 0, 1) := by decide +kernel
theorem dX4_allowsTaking_18 : decode cX4_allowsTaking 18 = .ok (.getfield 9, 3) := by decide +kernel
theorem dX4_allowsTaking_21 : decode cX4_allowsTaking 21 = .ok (.iload_n 1, 1) := by decide +kernel
theorem dX4_allowsTaking_22 : decode cX4_allowsTaking 22 = .ok (.iaload, 1) := by decide +kernel
theorem dX4_allowsTaking_23 : decode cX4_allowsTaking 23 = .ok (.invokestatic 61, 3) := by decide +kernel
theorem dX4_allowsTaking_26 : decode cX4_allowsTaking 26 = .ok (.ireturn, 1) := by decide +kernel
theorem dX4_allowsTaking_27 : decode cX4_allowsTaking 27 = .ok (.aload_n 0, 1) := by decide +kernel
theorem dX4_allowsTaking_28 : decode cX4_allowsTaking 28 = .ok (.iload_n 1, 1) := by decide +kernel
theorem dX4_allowsTaking_29 : decode cX4_allowsTaking 29 = .ok (.iload_n 2, 1) := by decide +kernel
theorem dX4_allowsTaking_30 : decode cX4_allowsTaking 30 = .ok (.invokevirtual 54, 3) := by decide +kernel
theorem dX4_allowsTaking_33 : decode cX4_allowsTaking 33 = .ok (.ireturn, 1) := by decide +kernel
theorem dX4_allowsGiving_0 : decode cX4_allowsGiving 0 = .ok (.iload_n 3, 1) := by decide +kernel
theorem dX4_allowsGiving_1 : decode cX4_allowsGiving 1 = .ok (.iconst (-1), 1) := by decide +kernel
theorem dX4_allowsGiving_2 : decode cX4_allowsGiving 2 = .ok (.if_icmp .eq 8, 3) := by decide +kernel
theorem dX4_allowsGiving_5 : decode cX4_allowsGiving 5 = .ok (.iload_n 3, 1) := by decide +kernel
theorem dX4_allowsGiving_6 : decode cX4_allowsGiving 6 = .ok (.iload_n 1, 1) := by decide +kernel
theorem dX4_allowsGiving_7 : decode cX4_allowsGiving 7 = .ok (.if_icmp .ne 5, 3) := by decide +kernel
theorem dX4_allowsGiving_10 : decode cX4_allowsGiving 10 = .ok (.iconst 0, 1) := by decide +kernel
theorem dX4_allowsGiving_11 : decode cX4_allowsGiving 11 = .ok (.ireturn, 1) := by decide +kernel
theorem dX4_allowsGiving_12 : decode cX4_allowsGiving 12 = .ok (.aload_n 0, 1) := by decide +kernel
theorem dX4_allowsGiving_13 : decode cX4_allowsGiving 13 = .ok (.iload_n 1, 1) := by decide +kernel
theorem dX4_allowsGiving_14 : decode cX4_allowsGiving 14 = .ok (.iload_n 2, 1) := by decide +kernel
theorem dX4_allowsGiving_15 : decode cX4_allowsGiving 15 = .ok (.invokevirtual 54, 3) := by decide +kernel
theorem dX4_allowsGiving_18 : decode cX4_allowsGiving 18 = .ok (.ifCond .eq 25, 3) := by decide +kernel
theorem dX4_allowsGiving_21 : decode cX4_allowsGiving 21 = .ok (.aload_n 0, 1) := by decide +kernel
theorem dX4_allowsGiving_22 : decode cX4_allowsGiving 22 = .ok (.getfield 9, 3) := by decide +kernel
theorem dX4_allowsGiving_25 : decode cX4_allowsGiving 25 = .ok (.iload_n 1, 1) := by decide +kernel
theorem dX4_allowsGiving_26 : decode cX4_allowsGiving 26 = .ok (.iaload, 1) := by decide +kernel
theorem dX4_allowsGiving_27 : decode cX4_allowsGiving 27 = .ok (.aload_n 0, 1) := by decide +kernel
theorem dX4_allowsGiving_28 : decode cX4_allowsGiving 28 = .ok (.getfield 9, 3) := by decide +kernel
theorem dX4_allowsGiving_31 : decode cX4_allowsGiving 31 = .ok (.iload_n 3, 1) := by decide +kernel
theorem dX4_allowsGiving_32 : decode cX4_allowsGiving 32 = .ok (.iaload, 1) := by decide +kernel
theorem dX4_allowsGiving_33 : decode cX4_allowsGiving 33 = .ok (.invokestatic 61, 3) := by decide +kernel
theorem dX4_allowsGiving_36 : decode cX4_allowsGiving 36 = .ok (.ifCond .eq 7, 3) := by decide +kernel
theorem dX4_allowsGiving_39 : decode cX4_allowsGiving 39 = .ok (.iconst 1, 1) := by decide +kernel
theorem dX4_allowsGiving_40 : decode cX4_allowsGiving 40 = .ok (.goto 4, 3) := by decide +kernel
theorem dX4_allowsGiving_43 : decode cX4_allowsGiving 43 = .ok (.iconst 0, 1) := by decide +kernel
theorem dX4_allowsGiving_44 : decode cX4_allowsGiving 44 = .ok (.ireturn, 1) := by decide +kernel
theorem dX4_mayHave_0 : decode cX4_mayHave 0 = .ok (.aload_n 0, 1) := by decide +kernel
theorem dX4_mayHave_1 : decode cX4_mayHave 1 = .ok (.getfield 18, 3) := by decide +kernel
theorem dX4_mayHave_4 : decode cX4_mayHave 4 = .ok (.iload_n 2, 1) := by decide +kernel
theorem dX4_mayHave_5 : decode cX4_mayHave 5 = .ok (.iaload, 1) := by decide +kernel
theorem dX4_mayHave_6 : decode cX4_mayHave 6 = .ok (.bipush (-2), 2) := by decide +kernel
theorem dX4_mayHave_8 : decode cX4_mayHave 8 = .ok (.if_icmp .eq 13, 3) := by decide +kernel
theorem dX4_mayHave_11 : decode cX4_mayHave 11 = .ok (.aload_n 0, 1) := by decide +kernel
theorem dX4_mayHave_12 : decode cX4_mayHave 12 = .ok (.getfield 18, 3) := by decide +kernel
theorem dX4_mayHave_15 : decode cX4_mayHave 15 = .ok (.iload_n 2, 1) := by decide +kernel
theorem dX4_mayHave_16 : decode cX4_mayHave 16 = .ok (.iaload, 1) := by decide +kernel
theorem dX4_mayHave_17 : decode cX4_mayHave 17 = .ok (.iload_n 1, 1) := by decide +kernel
theorem dX4_mayHave_18 : decode cX4_mayHave 18 = .ok (.if_icmp .ne 7, 3) := by decide +kernel
theorem dX4_mayHave_21 : decode cX4_mayHave 21 = .ok (.iconst 1, 1) := by decide +kernel
theorem dX4_mayHave_22 : decode cX4_mayHave 22 = .ok (.goto 4, 3) := by decide +kernel
theorem dX4_mayHave_25 : decode cX4_mayHave 25 = .ok (.iconst 0, 1) := by decide +kernel
theorem dX4_mayHave_26 : decode cX4_mayHave 26 = .ok (.ireturn, 1) := by decide +kernel
theorem dX4_mayBeOnePlace_0 : decode cX4_mayBeOnePlace 0 = .ok (.iload_n 0, 1) := by decide +kernel
theorem dX4_mayBeOnePlace_1 : decode cX4_mayBeOnePlace 1 = .ok (.bipush (-2), 2) := by decide +kernel
theorem dX4_mayBeOnePlace_3 : decode cX4_mayBeOnePlace 3 = .ok (.if_icmp .eq 14, 3) := by decide +kernel
theorem dX4_mayBeOnePlace_6 : decode cX4_mayBeOnePlace 6 = .ok (.iload_n 1, 1) := by decide +kernel
theorem dX4_mayBeOnePlace_7 : decode cX4_mayBeOnePlace 7 = .ok (.bipush (-2), 2) := by decide +kernel
theorem dX4_mayBeOnePlace_9 : decode cX4_mayBeOnePlace 9 = .ok (.if_icmp .eq 8, 3) := by decide +kernel
theorem dX4_mayBeOnePlace_12 : decode cX4_mayBeOnePlace 12 = .ok (.iload_n 0, 1) := by decide +kernel
theorem dX4_mayBeOnePlace_13 : decode cX4_mayBeOnePlace 13 = .ok (.iload_n 1, 1) := by decide +kernel
theorem dX4_mayBeOnePlace_14 : decode cX4_mayBeOnePlace 14 = .ok (.if_icmp .ne 7, 3) := by decide +kernel
theorem dX4_mayBeOnePlace_17 : decode cX4_mayBeOnePlace 17 = .ok (.iconst 1, 1) := by decide +kernel
theorem dX4_mayBeOnePlace_18 : decode cX4_mayBeOnePlace 18 = .ok (.goto 4, 3) := by decide +kernel
theorem dX4_mayBeOnePlace_21 : decode cX4_mayBeOnePlace 21 = .ok (.iconst 0, 1) := by decide +kernel
theorem dX4_mayBeOnePlace_22 : decode cX4_mayBeOnePlace 22 = .ok (.ireturn, 1) := by decide +kernel
theorem dX4_tell_0 : decode cX4_tell 0 = .ok (.aload_n 1, 1) := by decide +kernel
theorem dX4_tell_1 : decode cX4_tell 1 = .ok (.iload_n 2, 1) := by decide +kernel
theorem dX4_tell_2 : decode cX4_tell 2 = .ok (.iconst 0, 1) := by decide +kernel
theorem dX4_tell_3 : decode cX4_tell 3 = .ok (.iload_n 3, 1) := by decide +kernel
theorem dX4_tell_4 : decode cX4_tell 4 = .ok (.invokevirtual 37, 3) := by decide +kernel
theorem dX4_tell_7 : decode cX4_tell 7 = .ok (.istore 4, 2) := by decide +kernel
theorem dX4_tell_9 : decode cX4_tell 9 = .ok (.iload 4, 2) := by decide +kernel
theorem dX4_tell_11 : decode cX4_tell 11 = .ok (.iconst (-1), 1) := by decide +kernel
theorem dX4_tell_12 : decode cX4_tell 12 = .ok (.if_icmp .ne 4, 3) := by decide +kernel
theorem dX4_tell_15 : decode cX4_tell 15 = .ok (.return_, 1) := by decide +kernel
theorem dX4_tell_16 : decode cX4_tell 16 = .ok (.iconst 1, 1) := by decide +kernel
theorem dX4_tell_17 : decode cX4_tell 17 = .ok (.iload_n 2, 1) := by decide +kernel
theorem dX4_tell_18 : decode cX4_tell 18 = .ok (.ishl, 1) := by decide +kernel
theorem dX4_tell_19 : decode cX4_tell 19 = .ok (.istore 5, 2) := by decide +kernel
theorem dX4_tell_21 : decode cX4_tell 21 = .ok (.aload_n 1, 1) := by decide +kernel
theorem dX4_tell_22 : decode cX4_tell 22 = .ok (.iload_n 2, 1) := by decide +kernel
theorem dX4_tell_23 : decode cX4_tell 23 = .ok (.invokevirtual 43, 3) := by decide +kernel
theorem dX4_tell_26 : decode cX4_tell 26 = .ok (.bipush 10, 2) := by decide +kernel
theorem dX4_tell_28 : decode cX4_tell 28 = .ok (.isub, 1) := by decide +kernel
theorem dX4_tell_29 : decode cX4_tell 29 = .ok (.istore 6, 2) := by decide +kernel
theorem dX4_tell_31 : decode cX4_tell 31 = .ok (.aload_n 1, 1) := by decide +kernel
theorem dX4_tell_32 : decode cX4_tell 32 = .ok (.iload_n 2, 1) := by decide +kernel
theorem dX4_tell_33 : decode cX4_tell 33 = .ok (.invokevirtual 47, 3) := by decide +kernel
theorem dX4_tell_36 : decode cX4_tell 36 = .ok (.tableswitch 74 31 33 #[28, 41, 54], 28) := by decide +kernel
theorem dX4_tell_64 : decode cX4_tell 64 = .ok (.aload_n 0, 1) := by decide +kernel
theorem dX4_tell_65 : decode cX4_tell 65 = .ok (.iload 4, 2) := by decide +kernel
theorem dX4_tell_67 : decode cX4_tell 67 = .ok (.iload 6, 2) := by decide +kernel
theorem dX4_tell_69 : decode cX4_tell 69 = .ok (.iload 5, 2) := by decide +kernel
theorem dX4_tell_71 : decode cX4_tell 71 = .ok (.invokevirtual 64, 3) := by decide +kernel
theorem dX4_tell_74 : decode cX4_tell 74 = .ok (.goto 57, 3) := by decide +kernel
theorem dX4_tell_77 : decode cX4_tell 77 = .ok (.aload_n 0, 1) := by decide +kernel
theorem dX4_tell_78 : decode cX4_tell 78 = .ok (.iload 4, 2) := by decide +kernel
theorem dX4_tell_80 : decode cX4_tell 80 = .ok (.iload 6, 2) := by decide +kernel
theorem dX4_tell_82 : decode cX4_tell 82 = .ok (.iload 5, 2) := by decide +kernel
theorem dX4_tell_84 : decode cX4_tell 84 = .ok (.invokevirtual 68, 3) := by decide +kernel
theorem dX4_tell_87 : decode cX4_tell 87 = .ok (.goto 44, 3) := by decide +kernel
theorem dX4_tell_90 : decode cX4_tell 90 = .ok (.aload_n 0, 1) := by decide +kernel
theorem dX4_tell_91 : decode cX4_tell 91 = .ok (.iload 4, 2) := by decide +kernel
theorem dX4_tell_93 : decode cX4_tell 93 = .ok (.iload 6, 2) := by decide +kernel
theorem dX4_tell_95 : decode cX4_tell 95 = .ok (.aload_n 1, 1) := by decide +kernel
theorem dX4_tell_96 : decode cX4_tell 96 = .ok (.iload_n 2, 1) := by decide +kernel
theorem dX4_tell_97 : decode cX4_tell 97 = .ok (.iconst 1, 1) := by decide +kernel
theorem dX4_tell_98 : decode cX4_tell 98 = .ok (.iload_n 3, 1) := by decide +kernel
theorem dX4_tell_99 : decode cX4_tell 99 = .ok (.invokevirtual 37, 3) := by decide +kernel
theorem dX4_tell_102 : decode cX4_tell 102 = .ok (.iload 5, 2) := by decide +kernel
theorem dX4_tell_104 : decode cX4_tell 104 = .ok (.invokevirtual 71, 3) := by decide +kernel
theorem dX4_tell_107 : decode cX4_tell 107 = .ok (.goto 24, 3) := by decide +kernel
theorem dX4_tell_110 : decode cX4_tell 110 = .ok (.aload_n 0, 1) := by decide +kernel
theorem dX4_tell_111 : decode cX4_tell 111 = .ok (.getfield 9, 3) := by decide +kernel
theorem dX4_tell_114 : decode cX4_tell 114 = .ok (.iload 4, 2) := by decide +kernel
theorem dX4_tell_116 : decode cX4_tell 116 = .ok (.aload_n 1, 1) := by decide +kernel
theorem dX4_tell_117 : decode cX4_tell 117 = .ok (.iload_n 2, 1) := by decide +kernel
theorem dX4_tell_118 : decode cX4_tell 118 = .ok (.invokevirtual 43, 3) := by decide +kernel
theorem dX4_tell_121 : decode cX4_tell 121 = .ok (.iastore, 1) := by decide +kernel
theorem dX4_tell_122 : decode cX4_tell 122 = .ok (.aload_n 0, 1) := by decide +kernel
theorem dX4_tell_123 : decode cX4_tell 123 = .ok (.getfield 15, 3) := by decide +kernel
theorem dX4_tell_126 : decode cX4_tell 126 = .ok (.iload 4, 2) := by decide +kernel
theorem dX4_tell_128 : decode cX4_tell 128 = .ok (.iload 5, 2) := by decide +kernel
theorem dX4_tell_130 : decode cX4_tell 130 = .ok (.iastore, 1) := by decide +kernel
theorem dX4_tell_131 : decode cX4_tell 131 = .ok (.return_, 1) := by decide +kernel
theorem dX4_tellTaking_0 : decode cX4_tellTaking 0 = .ok (.aload_n 0, 1) := by decide +kernel
theorem dX4_tellTaking_1 : decode cX4_tellTaking 1 = .ok (.getfield 18, 3) := by decide +kernel
theorem dX4_tellTaking_4 : decode cX4_tellTaking 4 = .ok (.iload_n 2, 1) := by decide +kernel
theorem dX4_tellTaking_5 : decode cX4_tellTaking 5 = .ok (.iaload, 1) := by decide +kernel
theorem dX4_tellTaking_6 : decode cX4_tellTaking 6 = .ok (.iload_n 1, 1) := by decide +kernel
theorem dX4_tellTaking_7 : decode cX4_tellTaking 7 = .ok (.if_icmp .ne 4, 3) := by decide +kernel
theorem dX4_tellTaking_10 : decode cX4_tellTaking 10 = .ok (.return_, 1) := by decide +kernel
theorem dX4_tellTaking_11 : decode cX4_tellTaking 11 = .ok (.aload_n 0, 1) := by decide +kernel
theorem dX4_tellTaking_12 : decode cX4_tellTaking 12 = .ok (.getfield 18, 3) := by decide +kernel
theorem dX4_tellTaking_15 : decode cX4_tellTaking 15 = .ok (.iload_n 2, 1) := by decide +kernel
theorem dX4_tellTaking_16 : decode cX4_tellTaking 16 = .ok (.iaload, 1) := by decide +kernel
theorem dX4_tellTaking_17 : decode cX4_tellTaking 17 = .ok (.bipush 9, 2) := by decide +kernel
theorem dX4_tellTaking_19 : decode cX4_tellTaking 19 = .ok (.if_icmp .ne 22, 3) := by decide +kernel
theorem dX4_tellTaking_22 : decode cX4_tellTaking 22 = .ok (.aload_n 0, 1) := by decide +kernel
theorem dX4_tellTaking_23 : decode cX4_tellTaking 23 = .ok (.iload_n 1, 1) := by decide +kernel
theorem dX4_tellTaking_24 : decode cX4_tellTaking 24 = .ok (.aload_n 0, 1) := by decide +kernel
theorem dX4_tellTaking_25 : decode cX4_tellTaking 25 = .ok (.getfield 24, 3) := by decide +kernel
theorem dX4_tellTaking_28 : decode cX4_tellTaking 28 = .ok (.iload_n 2, 1) := by decide +kernel
theorem dX4_tellTaking_29 : decode cX4_tellTaking 29 = .ok (.iaload, 1) := by decide +kernel
theorem dX4_tellTaking_30 : decode cX4_tellTaking 30 = .ok (.aload_n 0, 1) := by decide +kernel
theorem dX4_tellTaking_31 : decode cX4_tellTaking 31 = .ok (.getfield 27, 3) := by decide +kernel
theorem dX4_tellTaking_34 : decode cX4_tellTaking 34 = .ok (.iload_n 2, 1) := by decide +kernel
theorem dX4_tellTaking_35 : decode cX4_tellTaking 35 = .ok (.iaload, 1) := by decide +kernel
theorem dX4_tellTaking_36 : decode cX4_tellTaking 36 = .ok (.iload_n 3, 1) := by decide +kernel
theorem dX4_tellTaking_37 : decode cX4_tellTaking 37 = .ok (.ior, 1) := by decide +kernel
theorem dX4_tellTaking_38 : decode cX4_tellTaking 38 = .ok (.invokevirtual 75, 3) := by decide +kernel
theorem dX4_tellTaking_41 : decode cX4_tellTaking 41 = .ok (.aload_n 0, 1) := by decide +kernel
theorem dX4_tellTaking_42 : decode cX4_tellTaking 42 = .ok (.iload_n 1, 1) := by decide +kernel
theorem dX4_tellTaking_43 : decode cX4_tellTaking 43 = .ok (.iload_n 2, 1) := by decide +kernel
theorem dX4_tellTaking_44 : decode cX4_tellTaking 44 = .ok (.iload_n 3, 1) := by decide +kernel
theorem dX4_tellTaking_45 : decode cX4_tellTaking 45 = .ok (.invokevirtual 78, 3) := by decide +kernel
theorem dX4_tellTaking_48 : decode cX4_tellTaking 48 = .ok (.return_, 1) := by decide +kernel
theorem dX4_tellDropping_0 : decode cX4_tellDropping 0 = .ok (.aload_n 0, 1) := by decide +kernel
theorem dX4_tellDropping_1 : decode cX4_tellDropping 1 = .ok (.getfield 18, 3) := by decide +kernel
theorem dX4_tellDropping_4 : decode cX4_tellDropping 4 = .ok (.iload_n 2, 1) := by decide +kernel
theorem dX4_tellDropping_5 : decode cX4_tellDropping 5 = .ok (.bipush 9, 2) := by decide +kernel
theorem dX4_tellDropping_7 : decode cX4_tellDropping 7 = .ok (.iastore, 1) := by decide +kernel
theorem dX4_tellDropping_8 : decode cX4_tellDropping 8 = .ok (.aload_n 0, 1) := by decide +kernel
theorem dX4_tellDropping_9 : decode cX4_tellDropping 9 = .ok (.getfield 21, 3) := by decide +kernel
theorem dX4_tellDropping_12 : decode cX4_tellDropping 12 = .ok (.iload_n 2, 1) := by decide +kernel
theorem dX4_tellDropping_13 : decode cX4_tellDropping 13 = .ok (.iload_n 3, 1) := by decide +kernel
theorem dX4_tellDropping_14 : decode cX4_tellDropping 14 = .ok (.iastore, 1) := by decide +kernel
theorem dX4_tellDropping_15 : decode cX4_tellDropping 15 = .ok (.aload_n 0, 1) := by decide +kernel
theorem dX4_tellDropping_16 : decode cX4_tellDropping 16 = .ok (.getfield 24, 3) := by decide +kernel
theorem dX4_tellDropping_19 : decode cX4_tellDropping 19 = .ok (.iload_n 2, 1) := by decide +kernel
theorem dX4_tellDropping_20 : decode cX4_tellDropping 20 = .ok (.aload_n 0, 1) := by decide +kernel
theorem dX4_tellDropping_21 : decode cX4_tellDropping 21 = .ok (.getfield 9, 3) := by decide +kernel
theorem dX4_tellDropping_24 : decode cX4_tellDropping 24 = .ok (.iload_n 1, 1) := by decide +kernel
theorem dX4_tellDropping_25 : decode cX4_tellDropping 25 = .ok (.iaload, 1) := by decide +kernel
theorem dX4_tellDropping_26 : decode cX4_tellDropping 26 = .ok (.iastore, 1) := by decide +kernel
theorem dX4_tellDropping_27 : decode cX4_tellDropping 27 = .ok (.aload_n 0, 1) := by decide +kernel
theorem dX4_tellDropping_28 : decode cX4_tellDropping 28 = .ok (.getfield 27, 3) := by decide +kernel
theorem dX4_tellDropping_31 : decode cX4_tellDropping 31 = .ok (.iload_n 2, 1) := by decide +kernel
theorem dX4_tellDropping_32 : decode cX4_tellDropping 32 = .ok (.iload_n 3, 1) := by decide +kernel
theorem dX4_tellDropping_33 : decode cX4_tellDropping 33 = .ok (.aload_n 0, 1) := by decide +kernel
theorem dX4_tellDropping_34 : decode cX4_tellDropping 34 = .ok (.getfield 15, 3) := by decide +kernel
theorem dX4_tellDropping_37 : decode cX4_tellDropping 37 = .ok (.iload_n 1, 1) := by decide +kernel
theorem dX4_tellDropping_38 : decode cX4_tellDropping 38 = .ok (.iaload, 1) := by decide +kernel
theorem dX4_tellDropping_39 : decode cX4_tellDropping 39 = .ok (.ior, 1) := by decide +kernel
theorem dX4_tellDropping_40 : decode cX4_tellDropping 40 = .ok (.iastore, 1) := by decide +kernel
theorem dX4_tellDropping_41 : decode cX4_tellDropping 41 = .ok (.return_, 1) := by decide +kernel
theorem dX4_tellGiving_0 : decode cX4_tellGiving 0 = .ok (.iload_n 3, 1) := by decide +kernel
theorem dX4_tellGiving_1 : decode cX4_tellGiving 1 = .ok (.iconst (-1), 1) := by decide +kernel
theorem dX4_tellGiving_2 : decode cX4_tellGiving 2 = .ok (.if_icmp .ne 4, 3) := by decide +kernel
theorem dX4_tellGiving_5 : decode cX4_tellGiving 5 = .ok (.return_, 1) := by decide +kernel
theorem dX4_tellGiving_6 : decode cX4_tellGiving 6 = .ok (.aload_n 0, 1) := by decide +kernel
theorem dX4_tellGiving_7 : decode cX4_tellGiving 7 = .ok (.iload_n 1, 1) := by decide +kernel
theorem dX4_tellGiving_8 : decode cX4_tellGiving 8 = .ok (.aload_n 0, 1) := by decide +kernel
theorem dX4_tellGiving_9 : decode cX4_tellGiving 9 = .ok (.getfield 9, 3) := by decide +kernel
theorem dX4_tellGiving_12 : decode cX4_tellGiving 12 = .ok (.iload_n 3, 1) := by decide +kernel
theorem dX4_tellGiving_13 : decode cX4_tellGiving 13 = .ok (.iaload, 1) := by decide +kernel
theorem dX4_tellGiving_14 : decode cX4_tellGiving 14 = .ok (.aload_n 0, 1) := by decide +kernel
theorem dX4_tellGiving_15 : decode cX4_tellGiving 15 = .ok (.getfield 15, 3) := by decide +kernel
theorem dX4_tellGiving_18 : decode cX4_tellGiving 18 = .ok (.iload_n 3, 1) := by decide +kernel
theorem dX4_tellGiving_19 : decode cX4_tellGiving 19 = .ok (.iaload, 1) := by decide +kernel
theorem dX4_tellGiving_20 : decode cX4_tellGiving 20 = .ok (.iload 4, 2) := by decide +kernel
theorem dX4_tellGiving_22 : decode cX4_tellGiving 22 = .ok (.ior, 1) := by decide +kernel
theorem dX4_tellGiving_23 : decode cX4_tellGiving 23 = .ok (.invokevirtual 75, 3) := by decide +kernel
theorem dX4_tellGiving_26 : decode cX4_tellGiving 26 = .ok (.aload_n 0, 1) := by decide +kernel
theorem dX4_tellGiving_27 : decode cX4_tellGiving 27 = .ok (.iload_n 3, 1) := by decide +kernel
theorem dX4_tellGiving_28 : decode cX4_tellGiving 28 = .ok (.aload_n 0, 1) := by decide +kernel
theorem dX4_tellGiving_29 : decode cX4_tellGiving 29 = .ok (.getfield 9, 3) := by decide +kernel
theorem dX4_tellGiving_32 : decode cX4_tellGiving 32 = .ok (.iload_n 1, 1) := by decide +kernel
theorem dX4_tellGiving_33 : decode cX4_tellGiving 33 = .ok (.iaload, 1) := by decide +kernel
theorem dX4_tellGiving_34 : decode cX4_tellGiving 34 = .ok (.aload_n 0, 1) := by decide +kernel
theorem dX4_tellGiving_35 : decode cX4_tellGiving 35 = .ok (.getfield 15, 3) := by decide +kernel
theorem dX4_tellGiving_38 : decode cX4_tellGiving 38 = .ok (.iload_n 1, 1) := by decide +kernel
theorem dX4_tellGiving_39 : decode cX4_tellGiving 39 = .ok (.iaload, 1) := by decide +kernel
theorem dX4_tellGiving_40 : decode cX4_tellGiving 40 = .ok (.iload 4, 2) := by decide +kernel
theorem dX4_tellGiving_42 : decode cX4_tellGiving 42 = .ok (.ior, 1) := by decide +kernel
theorem dX4_tellGiving_43 : decode cX4_tellGiving 43 = .ok (.invokevirtual 75, 3) := by decide +kernel
theorem dX4_tellGiving_46 : decode cX4_tellGiving 46 = .ok (.aload_n 0, 1) := by decide +kernel
theorem dX4_tellGiving_47 : decode cX4_tellGiving 47 = .ok (.iload_n 3, 1) := by decide +kernel
theorem dX4_tellGiving_48 : decode cX4_tellGiving 48 = .ok (.iload_n 2, 1) := by decide +kernel
theorem dX4_tellGiving_49 : decode cX4_tellGiving 49 = .ok (.iload 4, 2) := by decide +kernel
theorem dX4_tellGiving_51 : decode cX4_tellGiving 51 = .ok (.invokevirtual 78, 3) := by decide +kernel
theorem dX4_tellGiving_54 : decode cX4_tellGiving 54 = .ok (.return_, 1) := by decide +kernel
theorem dX4_inferPlace_0 : decode cX4_inferPlace 0 = .ok (.aload_n 0, 1) := by decide +kernel
theorem dX4_inferPlace_1 : decode cX4_inferPlace 1 = .ok (.getfield 9, 3) := by decide +kernel
theorem dX4_inferPlace_4 : decode cX4_inferPlace 4 = .ok (.iload_n 1, 1) := by decide +kernel
theorem dX4_inferPlace_5 : decode cX4_inferPlace 5 = .ok (.iaload, 1) := by decide +kernel
theorem dX4_inferPlace_6 : decode cX4_inferPlace 6 = .ok (.bipush (-2), 2) := by decide +kernel
theorem dX4_inferPlace_8 : decode cX4_inferPlace 8 = .ok (.if_icmp .ne 23, 3) := by decide +kernel
theorem dX4_inferPlace_11 : decode cX4_inferPlace 11 = .ok (.iload_n 2, 1) := by decide +kernel
theorem dX4_inferPlace_12 : decode cX4_inferPlace 12 = .ok (.bipush (-2), 2) := by decide +kernel
theorem dX4_inferPlace_14 : decode cX4_inferPlace 14 = .ok (.if_icmp .eq 17, 3) := by decide +kernel
theorem dX4_inferPlace_17 : decode cX4_inferPlace 17 = .ok (.aload_n 0, 1) := by decide +kernel
theorem dX4_inferPlace_18 : decode cX4_inferPlace 18 = .ok (.getfield 9, 3) := by decide +kernel
theorem dX4_inferPlace_21 : decode cX4_inferPlace 21 = .ok (.iload_n 1, 1) := by decide +kernel
theorem dX4_inferPlace_22 : decode cX4_inferPlace 22 = .ok (.iload_n 2, 1) := by decide +kernel
theorem dX4_inferPlace_23 : decode cX4_inferPlace 23 = .ok (.iastore, 1) := by decide +kernel
theorem dX4_inferPlace_24 : decode cX4_inferPlace 24 = .ok (.aload_n 0, 1) := by decide +kernel
theorem dX4_inferPlace_25 : decode cX4_inferPlace 25 = .ok (.getfield 15, 3) := by decide +kernel
theorem dX4_inferPlace_28 : decode cX4_inferPlace 28 = .ok (.iload_n 1, 1) := by decide +kernel
theorem dX4_inferPlace_29 : decode cX4_inferPlace 29 = .ok (.iload_n 3, 1) := by decide +kernel
theorem dX4_inferPlace_30 : decode cX4_inferPlace 30 = .ok (.iastore, 1) := by decide +kernel
theorem dX4_inferPlace_31 : decode cX4_inferPlace 31 = .ok (.return_, 1) := by decide +kernel
theorem dX4_handTo_0 : decode cX4_handTo 0 = .ok (.aload_n 0, 1) := by decide +kernel
theorem dX4_handTo_1 : decode cX4_handTo 1 = .ok (.getfield 18, 3) := by decide +kernel
theorem dX4_handTo_4 : decode cX4_handTo 4 = .ok (.iload_n 2, 1) := by decide +kernel
theorem dX4_handTo_5 : decode cX4_handTo 5 = .ok (.iload_n 1, 1) := by decide +kernel
theorem dX4_handTo_6 : decode cX4_handTo 6 = .ok (.iastore, 1) := by decide +kernel
theorem dX4_handTo_7 : decode cX4_handTo 7 = .ok (.aload_n 0, 1) := by decide +kernel
theorem dX4_handTo_8 : decode cX4_handTo 8 = .ok (.getfield 21, 3) := by decide +kernel
theorem dX4_handTo_11 : decode cX4_handTo 11 = .ok (.iload_n 2, 1) := by decide +kernel
theorem dX4_handTo_12 : decode cX4_handTo 12 = .ok (.iload_n 3, 1) := by decide +kernel
theorem dX4_handTo_13 : decode cX4_handTo 13 = .ok (.iastore, 1) := by decide +kernel
theorem dX4_handTo_14 : decode cX4_handTo 14 = .ok (.return_, 1) := by decide +kernel
theorem dX4_value_0 : decode cX4_value 0 = .ok (.iload_n 1, 1) := by decide +kernel
theorem dX4_value_1 : decode cX4_value 1 = .ok (.tableswitch 47 0 2 #[27, 34, 40], 27) := by decide +kernel
theorem dX4_value_28 : decode cX4_value 28 = .ok (.aload_n 0, 1) := by decide +kernel
theorem dX4_value_29 : decode cX4_value 29 = .ok (.getfield 9, 3) := by decide +kernel
theorem dX4_value_32 : decode cX4_value 32 = .ok (.iload_n 2, 1) := by decide +kernel
theorem dX4_value_33 : decode cX4_value 33 = .ok (.iaload, 1) := by decide +kernel
theorem dX4_value_34 : decode cX4_value 34 = .ok (.ireturn, 1) := by decide +kernel
theorem dX4_value_35 : decode cX4_value 35 = .ok (.aload_n 0, 1) := by decide +kernel
theorem dX4_value_36 : decode cX4_value 36 = .ok (.iload_n 2, 1) := by decide +kernel
theorem dX4_value_37 : decode cX4_value 37 = .ok (.invokevirtual 81, 3) := by decide +kernel
theorem dX4_value_40 : decode cX4_value 40 = .ok (.ireturn, 1) := by decide +kernel
theorem dX4_value_41 : decode cX4_value 41 = .ok (.aload_n 0, 1) := by decide +kernel
theorem dX4_value_42 : decode cX4_value 42 = .ok (.getfield 18, 3) := by decide +kernel
theorem dX4_value_45 : decode cX4_value 45 = .ok (.iload_n 2, 1) := by decide +kernel
theorem dX4_value_46 : decode cX4_value 46 = .ok (.iaload, 1) := by decide +kernel
theorem dX4_value_47 : decode cX4_value 47 = .ok (.ireturn, 1) := by decide +kernel
theorem dX4_value_48 : decode cX4_value 48 = .ok (.aload_n 0, 1) := by decide +kernel
theorem dX4_value_49 : decode cX4_value 49 = .ok (.iload_n 2, 1) := by decide +kernel
theorem dX4_value_50 : decode cX4_value 50 = .ok (.invokevirtual 84, 3) := by decide +kernel
theorem dX4_value_53 : decode cX4_value 53 = .ok (.ireturn, 1) := by decide +kernel
theorem dX4_thingPlace_0 : decode cX4_thingPlace 0 = .ok (.aload_n 0, 1) := by decide +kernel
theorem dX4_thingPlace_1 : decode cX4_thingPlace 1 = .ok (.getfield 18, 3) := by decide +kernel
theorem dX4_thingPlace_4 : decode cX4_thingPlace 4 = .ok (.iload_n 1, 1) := by decide +kernel
theorem dX4_thingPlace_5 : decode cX4_thingPlace 5 = .ok (.iaload, 1) := by decide +kernel
theorem dX4_thingPlace_6 : decode cX4_thingPlace 6 = .ok (.istore_n 2, 1) := by decide +kernel
theorem dX4_thingPlace_7 : decode cX4_thingPlace 7 = .ok (.iload_n 2, 1) := by decide +kernel
theorem dX4_thingPlace_8 : decode cX4_thingPlace 8 = .ok (.bipush 9, 2) := by decide +kernel
theorem dX4_thingPlace_10 : decode cX4_thingPlace 10 = .ok (.if_icmp .ne 10, 3) := by decide +kernel
theorem dX4_thingPlace_13 : decode cX4_thingPlace 13 = .ok (.aload_n 0, 1) := by decide +kernel
theorem dX4_thingPlace_14 : decode cX4_thingPlace 14 = .ok (.getfield 24, 3) := by decide +kernel
theorem dX4_thingPlace_17 : decode cX4_thingPlace 17 = .ok (.iload_n 1, 1) := by decide +kernel
theorem dX4_thingPlace_18 : decode cX4_thingPlace 18 = .ok (.iaload, 1) := by decide +kernel
theorem dX4_thingPlace_19 : decode cX4_thingPlace 19 = .ok (.ireturn, 1) := by decide +kernel
theorem dX4_thingPlace_20 : decode cX4_thingPlace 20 = .ok (.iload_n 2, 1) := by decide +kernel
theorem dX4_thingPlace_21 : decode cX4_thingPlace 21 = .ok (.invokestatic 87, 3) := by decide +kernel
theorem dX4_thingPlace_24 : decode cX4_thingPlace 24 = .ok (.ifCond .eq 12, 3) := by decide +kernel
theorem dX4_thingPlace_27 : decode cX4_thingPlace 27 = .ok (.aload_n 0, 1) := by decide +kernel
theorem dX4_thingPlace_28 : decode cX4_thingPlace 28 = .ok (.getfield 9, 3) := by decide +kernel
theorem dX4_thingPlace_31 : decode cX4_thingPlace 31 = .ok (.iload_n 2, 1) := by decide +kernel
theorem dX4_thingPlace_32 : decode cX4_thingPlace 32 = .ok (.iaload, 1) := by decide +kernel
theorem dX4_thingPlace_33 : decode cX4_thingPlace 33 = .ok (.goto 5, 3) := by decide +kernel
theorem dX4_thingPlace_36 : decode cX4_thingPlace 36 = .ok (.bipush (-2), 2) := by decide +kernel
theorem dX4_thingPlace_38 : decode cX4_thingPlace 38 = .ok (.ireturn, 1) := by decide +kernel
theorem dX4_hadThings_0 : decode cX4_hadThings 0 = .ok (.iconst 0, 1) := by decide +kernel
theorem dX4_hadThings_1 : decode cX4_hadThings 1 = .ok (.istore_n 2, 1) := by decide +kernel
theorem dX4_hadThings_2 : decode cX4_hadThings 2 = .ok (.iconst 0, 1) := by decide +kernel
theorem dX4_hadThings_3 : decode cX4_hadThings 3 = .ok (.istore_n 3, 1) := by decide +kernel
theorem dX4_hadThings_4 : decode cX4_hadThings 4 = .ok (.iload_n 3, 1) := by decide +kernel
theorem dX4_hadThings_5 : decode cX4_hadThings 5 = .ok (.bipush 10, 2) := by decide +kernel
theorem dX4_hadThings_7 : decode cX4_hadThings 7 = .ok (.if_icmp .ge 22, 3) := by decide +kernel
theorem dX4_hadThings_10 : decode cX4_hadThings 10 = .ok (.aload_n 0, 1) := by decide +kernel
theorem dX4_hadThings_11 : decode cX4_hadThings 11 = .ok (.getfield 18, 3) := by decide +kernel
theorem dX4_hadThings_14 : decode cX4_hadThings 14 = .ok (.iload_n 3, 1) := by decide +kernel
theorem dX4_hadThings_15 : decode cX4_hadThings 15 = .ok (.iaload, 1) := by decide +kernel
theorem dX4_hadThings_16 : decode cX4_hadThings 16 = .ok (.iload_n 1, 1) := by decide +kernel
theorem dX4_hadThings_17 : decode cX4_hadThings 17 = .ok (.if_icmp .ne 6, 3) := by decide +kernel
theorem dX4_hadThings_20 : decode cX4_hadThings 20 = .ok (.iinc 2 1, 3) := by decide +kernel
theorem dX4_hadThings_23 : decode cX4_hadThings 23 = .ok (.iinc 3 1, 3) := by decide +kernel
theorem dX4_hadThings_26 : decode cX4_hadThings 26 = .ok (.goto (-22), 3) := by decide +kernel
theorem dX4_hadThings_29 : decode cX4_hadThings 29 = .ok (.iload_n 2, 1) := by decide +kernel
theorem dX4_hadThings_30 : decode cX4_hadThings 30 = .ok (.ireturn, 1) := by decide +kernel
theorem dX4_basis_0 : decode cX4_basis 0 = .ok (.iload_n 1, 1) := by decide +kernel
theorem dX4_basis_1 : decode cX4_basis 1 = .ok (.tableswitch 47 0 2 #[27, 34, 40], 27) := by decide +kernel
theorem dX4_basis_28 : decode cX4_basis 28 = .ok (.aload_n 0, 1) := by decide +kernel
theorem dX4_basis_29 : decode cX4_basis 29 = .ok (.getfield 15, 3) := by decide +kernel
theorem dX4_basis_32 : decode cX4_basis 32 = .ok (.iload_n 2, 1) := by decide +kernel
theorem dX4_basis_33 : decode cX4_basis 33 = .ok (.iaload, 1) := by decide +kernel
theorem dX4_basis_34 : decode cX4_basis 34 = .ok (.ireturn, 1) := by decide +kernel
theorem dX4_basis_35 : decode cX4_basis 35 = .ok (.aload_n 0, 1) := by decide +kernel
theorem dX4_basis_36 : decode cX4_basis 36 = .ok (.iload_n 2, 1) := by decide +kernel
theorem dX4_basis_37 : decode cX4_basis 37 = .ok (.invokevirtual 91, 3) := by decide +kernel
theorem dX4_basis_40 : decode cX4_basis 40 = .ok (.ireturn, 1) := by decide +kernel
theorem dX4_basis_41 : decode cX4_basis 41 = .ok (.aload_n 0, 1) := by decide +kernel
theorem dX4_basis_42 : decode cX4_basis 42 = .ok (.getfield 21, 3) := by decide +kernel
theorem dX4_basis_45 : decode cX4_basis 45 = .ok (.iload_n 2, 1) := by decide +kernel
theorem dX4_basis_46 : decode cX4_basis 46 = .ok (.iaload, 1) := by decide +kernel
theorem dX4_basis_47 : decode cX4_basis 47 = .ok (.ireturn, 1) := by decide +kernel
theorem dX4_basis_48 : decode cX4_basis 48 = .ok (.aload_n 0, 1) := by decide +kernel
theorem dX4_basis_49 : decode cX4_basis 49 = .ok (.iload_n 2, 1) := by decide +kernel
theorem dX4_basis_50 : decode cX4_basis 50 = .ok (.invokevirtual 94, 3) := by decide +kernel
theorem dX4_basis_53 : decode cX4_basis 53 = .ok (.ireturn, 1) := by decide +kernel
theorem dX4_thingPlaceBasis_0 : decode cX4_thingPlaceBasis 0 = .ok (.aload_n 0, 1) := by decide +kernel
theorem dX4_thingPlaceBasis_1 : decode cX4_thingPlaceBasis 1 = .ok (.iload_n 1, 1) := by decide +kernel
theorem dX4_thingPlaceBasis_2 : decode cX4_thingPlaceBasis 2 = .ok (.invokevirtual 81, 3) := by decide +kernel
theorem dX4_thingPlaceBasis_5 : decode cX4_thingPlaceBasis 5 = .ok (.bipush (-2), 2) := by decide +kernel
theorem dX4_thingPlaceBasis_7 : decode cX4_thingPlaceBasis 7 = .ok (.if_icmp .ne 5, 3) := by decide +kernel
theorem dX4_thingPlaceBasis_10 : decode cX4_thingPlaceBasis 10 = .ok (.iconst 0, 1) := by decide +kernel
theorem dX4_thingPlaceBasis_11 : decode cX4_thingPlaceBasis 11 = .ok (.ireturn, 1) := by decide +kernel
theorem dX4_thingPlaceBasis_12 : decode cX4_thingPlaceBasis 12 = .ok (.aload_n 0, 1) := by decide +kernel
theorem dX4_thingPlaceBasis_13 : decode cX4_thingPlaceBasis 13 = .ok (.getfield 18, 3) := by decide +kernel
theorem dX4_thingPlaceBasis_16 : decode cX4_thingPlaceBasis 16 = .ok (.iload_n 1, 1) := by decide +kernel
theorem dX4_thingPlaceBasis_17 : decode cX4_thingPlaceBasis 17 = .ok (.iaload, 1) := by decide +kernel
theorem dX4_thingPlaceBasis_18 : decode cX4_thingPlaceBasis 18 = .ok (.istore_n 2, 1) := by decide +kernel
theorem dX4_thingPlaceBasis_19 : decode cX4_thingPlaceBasis 19 = .ok (.iload_n 2, 1) := by decide +kernel
theorem dX4_thingPlaceBasis_20 : decode cX4_thingPlaceBasis 20 = .ok (.invokestatic 87, 3) := by decide +kernel
theorem dX4_thingPlaceBasis_23 : decode cX4_thingPlaceBasis 23 = .ok (.ifCond .eq 19, 3) := by decide +kernel
theorem dX4_thingPlaceBasis_26 : decode cX4_thingPlaceBasis 26 = .ok (.aload_n 0, 1) := by decide +kernel
theorem dX4_thingPlaceBasis_27 : decode cX4_thingPlaceBasis 27 = .ok (.getfield 21, 3) := by decide +kernel
theorem dX4_thingPlaceBasis_30 : decode cX4_thingPlaceBasis 30 = .ok (.iload_n 1, 1) := by decide +kernel
theorem dX4_thingPlaceBasis_31 : decode cX4_thingPlaceBasis 31 = .ok (.iaload, 1) := by decide +kernel
theorem dX4_thingPlaceBasis_32 : decode cX4_thingPlaceBasis 32 = .ok (.aload_n 0, 1) := by decide +kernel
theorem dX4_thingPlaceBasis_33 : decode cX4_thingPlaceBasis 33 = .ok (.getfield 15, 3) := by decide +kernel
theorem dX4_thingPlaceBasis_36 : decode cX4_thingPlaceBasis 36 = .ok (.iload_n 2, 1) := by decide +kernel
theorem dX4_thingPlaceBasis_37 : decode cX4_thingPlaceBasis 37 = .ok (.iaload, 1) := by decide +kernel
theorem dX4_thingPlaceBasis_38 : decode cX4_thingPlaceBasis 38 = .ok (.ior, 1) := by decide +kernel
theorem dX4_thingPlaceBasis_39 : decode cX4_thingPlaceBasis 39 = .ok (.goto 9, 3) := by decide +kernel
theorem dX4_thingPlaceBasis_42 : decode cX4_thingPlaceBasis 42 = .ok (.aload_n 0, 1) := by decide +kernel
theorem dX4_thingPlaceBasis_43 : decode cX4_thingPlaceBasis 43 = .ok (.getfield 27, 3) := by decide +kernel
theorem dX4_thingPlaceBasis_46 : decode cX4_thingPlaceBasis 46 = .ok (.iload_n 1, 1) := by decide +kernel
theorem dX4_thingPlaceBasis_47 : decode cX4_thingPlaceBasis 47 = .ok (.iaload, 1) := by decide +kernel
theorem dX4_thingPlaceBasis_48 : decode cX4_thingPlaceBasis 48 = .ok (.ireturn, 1) := by decide +kernel
theorem dX4_hadThingsBasis_0 : decode cX4_hadThingsBasis 0 = .ok (.iconst 0, 1) := by decide +kernel
theorem dX4_hadThingsBasis_1 : decode cX4_hadThingsBasis 1 = .ok (.istore_n 2, 1) := by decide +kernel
theorem dX4_hadThingsBasis_2 : decode cX4_hadThingsBasis 2 = .ok (.iconst 0, 1) := by decide +kernel
theorem dX4_hadThingsBasis_3 : decode cX4_hadThingsBasis 3 = .ok (.istore_n 3, 1) := by decide +kernel
theorem dX4_hadThingsBasis_4 : decode cX4_hadThingsBasis 4 = .ok (.iload_n 3, 1) := by decide +kernel
theorem dX4_hadThingsBasis_5 : decode cX4_hadThingsBasis 5 = .ok (.bipush 10, 2) := by decide +kernel
theorem dX4_hadThingsBasis_7 : decode cX4_hadThingsBasis 7 = .ok (.if_icmp .ge 28, 3) := by decide +kernel
theorem dX4_hadThingsBasis_10 : decode cX4_hadThingsBasis 10 = .ok (.aload_n 0, 1) := by decide +kernel
theorem dX4_hadThingsBasis_11 : decode cX4_hadThingsBasis 11 = .ok (.getfield 18, 3) := by decide +kernel
theorem dX4_hadThingsBasis_14 : decode cX4_hadThingsBasis 14 = .ok (.iload_n 3, 1) := by decide +kernel
theorem dX4_hadThingsBasis_15 : decode cX4_hadThingsBasis 15 = .ok (.iaload, 1) := by decide +kernel
theorem dX4_hadThingsBasis_16 : decode cX4_hadThingsBasis 16 = .ok (.iload_n 1, 1) := by decide +kernel
theorem dX4_hadThingsBasis_17 : decode cX4_hadThingsBasis 17 = .ok (.if_icmp .ne 12, 3) := by decide +kernel
theorem dX4_hadThingsBasis_20 : decode cX4_hadThingsBasis 20 = .ok (.iload_n 2, 1) := by decide +kernel
theorem dX4_hadThingsBasis_21 : decode cX4_hadThingsBasis 21 = .ok (.aload_n 0, 1) := by decide +kernel
theorem dX4_hadThingsBasis_22 : decode cX4_hadThingsBasis 22 = .ok (.getfield 21, 3) := by decide +kernel
theorem dX4_hadThingsBasis_25 : decode cX4_hadThingsBasis 25 = .ok (.iload_n 3, 1) := by decide +kernel
theorem dX4_hadThingsBasis_26 : decode cX4_hadThingsBasis 26 = .ok (.iaload, 1) := by decide +kernel
theorem dX4_hadThingsBasis_27 : decode cX4_hadThingsBasis 27 = .ok (.ior, 1) := by decide +kernel
theorem dX4_hadThingsBasis_28 : decode cX4_hadThingsBasis 28 = .ok (.istore_n 2, 1) := by decide +kernel
theorem dX4_hadThingsBasis_29 : decode cX4_hadThingsBasis 29 = .ok (.iinc 3 1, 3) := by decide +kernel
theorem dX4_hadThingsBasis_32 : decode cX4_hadThingsBasis 32 = .ok (.goto (-28), 3) := by decide +kernel
theorem dX4_hadThingsBasis_35 : decode cX4_hadThingsBasis 35 = .ok (.iload_n 2, 1) := by decide +kernel
theorem dX4_hadThingsBasis_36 : decode cX4_hadThingsBasis 36 = .ok (.ireturn, 1) := by decide +kernel
theorem dX5_init_0 : decode cX5_init 0 = .ok (.aload_n 0, 1) := by decide +kernel
theorem dX5_init_1 : decode cX5_init 1 = .ok (.invokespecial 3, 3) := by decide +kernel
theorem dX5_init_4 : decode cX5_init 4 = .ok (.aload_n 0, 1) := by decide +kernel
theorem dX5_init_5 : decode cX5_init 5 = .ok (.new 9, 3) := by decide +kernel
theorem dX5_init_8 : decode cX5_init 8 = .ok (.dup, 1) := by decide +kernel
theorem dX5_init_9 : decode cX5_init 9 = .ok (.invokespecial 11, 3) := by decide +kernel
theorem dX5_init_12 : decode cX5_init 12 = .ok (.putfield 12, 3) := by decide +kernel
theorem dX5_init_15 : decode cX5_init 15 = .ok (.aload_n 0, 1) := by decide +kernel
theorem dX5_init_16 : decode cX5_init 16 = .ok (.new 16, 3) := by decide +kernel
theorem dX5_init_19 : decode cX5_init 19 = .ok (.dup, 1) := by decide +kernel
theorem dX5_init_20 : decode cX5_init 20 = .ok (.invokespecial 18, 3) := by decide +kernel
theorem dX5_init_23 : decode cX5_init 23 = .ok (.putfield 19, 3) := by decide +kernel
theorem dX5_init_26 : decode cX5_init 26 = .ok (.aload_n 0, 1) := by decide +kernel
theorem dX5_init_27 : decode cX5_init 27 = .ok (.new 23, 3) := by decide +kernel
theorem dX5_init_30 : decode cX5_init 30 = .ok (.dup, 1) := by decide +kernel
theorem dX5_init_31 : decode cX5_init 31 = .ok (.invokespecial 25, 3) := by decide +kernel
theorem dX5_init_34 : decode cX5_init 34 = .ok (.putfield 26, 3) := by decide +kernel
theorem dX5_init_37 : decode cX5_init 37 = .ok (.aload_n 0, 1) := by decide +kernel
theorem dX5_init_38 : decode cX5_init 38 = .ok (.new 30, 3) := by decide +kernel
theorem dX5_init_41 : decode cX5_init 41 = .ok (.dup, 1) := by decide +kernel
theorem dX5_init_42 : decode cX5_init 42 = .ok (.invokespecial 32, 3) := by decide +kernel
theorem dX5_init_45 : decode cX5_init 45 = .ok (.putfield 33, 3) := by decide +kernel
theorem dX5_init_48 : decode cX5_init 48 = .ok (.aload_n 0, 1) := by decide +kernel
theorem dX5_init_49 : decode cX5_init 49 = .ok (.new 37, 3) := by decide +kernel
theorem dX5_init_52 : decode cX5_init 52 = .ok (.dup, 1) := by decide +kernel
theorem dX5_init_53 : decode cX5_init 53 = .ok (.invokespecial 39, 3) := by decide +kernel
theorem dX5_init_56 : decode cX5_init 56 = .ok (.putfield 40, 3) := by decide +kernel
theorem dX5_init_59 : decode cX5_init 59 = .ok (.aload_n 0, 1) := by decide +kernel
theorem dX5_init_60 : decode cX5_init 60 = .ok (.iconst 0, 1) := by decide +kernel
theorem dX5_init_61 : decode cX5_init 61 = .ok (.invokevirtual 44, 3) := by decide +kernel
theorem dX5_init_64 : decode cX5_init 64 = .ok (.return_, 1) := by decide +kernel
theorem dX5_sign_0 : decode cX5_sign 0 = .ok (.aload_n 0, 1) := by decide +kernel
theorem dX5_sign_1 : decode cX5_sign 1 = .ok (.getfield 12, 3) := by decide +kernel
theorem dX5_sign_4 : decode cX5_sign 4 = .ok (.iload_n 1, 1) := by decide +kernel
theorem dX5_sign_5 : decode cX5_sign 5 = .ok (.invokevirtual 48, 3) := by decide +kernel
theorem dX5_sign_8 : decode cX5_sign 8 = .ok (.ifCond .ne 5, 3) := by decide +kernel
theorem dX5_sign_11 : decode cX5_sign 11 = .ok (.iconst 0, 1) := by decide +kernel
theorem dX5_sign_12 : decode cX5_sign 12 = .ok (.ireturn, 1) := by decide +kernel
theorem dX5_sign_13 : decode cX5_sign 13 = .ok (.aload_n 0, 1) := by decide +kernel
theorem dX5_sign_14 : decode cX5_sign 14 = .ok (.getfield 12, 3) := by decide +kernel
theorem dX5_sign_17 : decode cX5_sign 17 = .ok (.iload_n 1, 1) := by decide +kernel
theorem dX5_sign_18 : decode cX5_sign 18 = .ok (.invokevirtual 52, 3) := by decide +kernel
theorem dX5_sign_21 : decode cX5_sign 21 = .ok (.iload_n 1, 1) := by decide +kernel
theorem dX5_sign_22 : decode cX5_sign 22 = .ok (.bipush 50, 2) := by decide +kernel
theorem dX5_sign_24 : decode cX5_sign 24 = .ok (.if_icmp .ne 10, 3) := by decide +kernel
theorem dX5_sign_27 : decode cX5_sign 27 = .ok (.aload_n 0, 1) := by decide +kernel
theorem dX5_sign_28 : decode cX5_sign 28 = .ok (.invokevirtual 55, 3) := by decide +kernel
theorem dX5_sign_31 : decode cX5_sign 31 = .ok (.ifCond .eq 7, 3) := by decide +kernel
theorem dX5_sign_34 : decode cX5_sign 34 = .ok (.iconst 1, 1) := by decide +kernel
theorem dX5_sign_35 : decode cX5_sign 35 = .ok (.goto 4, 3) := by decide +kernel
theorem dX5_sign_38 : decode cX5_sign 38 = .ok (.iconst 0, 1) := by decide +kernel
theorem dX5_sign_39 : decode cX5_sign 39 = .ok (.ireturn, 1) := by decide +kernel
theorem dX5_back_0 : decode cX5_back 0 = .ok (.aload_n 0, 1) := by decide +kernel
theorem dX5_back_1 : decode cX5_back 1 = .ok (.getfield 12, 3) := by decide +kernel
theorem dX5_back_4 : decode cX5_back 4 = .ok (.invokevirtual 59, 3) := by decide +kernel
theorem dX5_back_7 : decode cX5_back 7 = .ok (.ireturn, 1) := by decide +kernel
theorem dX5_told_0 : decode cX5_told 0 = .ok (.aload_n 0, 1) := by decide +kernel
theorem dX5_told_1 : decode cX5_told 1 = .ok (.getfield 12, 3) := by decide +kernel
theorem dX5_told_4 : decode cX5_told 4 = .ok (.iload_n 1, 1) := by decide +kernel
theorem dX5_told_5 : decode cX5_told 5 = .ok (.iload_n 2, 1) := by decide +kernel
theorem dX5_told_6 : decode cX5_told 6 = .ok (.invokevirtual 62, 3) := by decide +kernel
theorem dX5_told_9 : decode cX5_told 9 = .ok (.ireturn, 1) := by decide +kernel
theorem dX5_readings_0 : decode cX5_readings 0 = .ok (.aload_n 0, 1) := by decide +kernel
theorem dX5_readings_1 : decode cX5_readings 1 = .ok (.iload_n 1, 1) := by decide +kernel
theorem dX5_readings_2 : decode cX5_readings 2 = .ok (.invokevirtual 66, 3) := by decide +kernel
theorem dX5_readings_5 : decode cX5_readings 5 = .ok (.ifCond .eq 14, 3) := by decide +kernel
theorem dX5_readings_8 : decode cX5_readings 8 = .ok (.aload_n 0, 1) := by decide +kernel
theorem dX5_readings_9 : decode cX5_readings 9 = .ok (.getfield 19, 3) := by decide +kernel
theorem dX5_readings_12 : decode cX5_readings 12 = .ok (.iload_n 1, 1) := by decide +kernel
theorem dX5_readings_13 : decode cX5_readings 13 = .ok (.invokevirtual 69, 3) := by decide +kernel
theorem dX5_readings_16 : decode cX5_readings 16 = .ok (.goto 4, 3) := by decide +kernel
theorem dX5_readings_19 : decode cX5_readings 19 = .ok (.iconst (-1), 1) := by decide +kernel
theorem dX5_readings_20 : decode cX5_readings 20 = .ok (.ireturn, 1) := by decide +kernel
theorem dX5_means_0 : decode cX5_means 0 = .ok (.iload_n 1, 1) := by decide +kernel
theorem dX5_means_1 : decode cX5_means 1 = .ok (.ifCond .lt 22, 3) := by decide +kernel
theorem dX5_means_4 : decode cX5_means 4 = .ok (.iload_n 1, 1) := by decide +kernel
theorem dX5_means_5 : decode cX5_means 5 = .ok (.aload_n 0, 1) := by decide +kernel
theorem dX5_means_6 : decode cX5_means 6 = .ok (.getfield 12, 3) := by decide +kernel
theorem dX5_means_9 : decode cX5_means 9 = .ok (.getfield 73, 3) := by decide +kernel
theorem dX5_means_12 : decode cX5_means 12 = .ok (.if_icmp .ge 11, 3) := by decide +kernel
theorem dX5_means_15 : decode cX5_means 15 = .ok (.aload_n 0, 1) := by decide +kernel
theorem dX5_means_16 : decode cX5_means 16 = .ok (.iload_n 3, 1) := by decide +kernel
theorem dX5_means_17 : decode cX5_means 17 = .ok (.invokevirtual 77, 3) := by decide +kernel
theorem dX5_means_20 : decode cX5_means 20 = .ok (.ifCond .ne 5, 3) := by decide +kernel
theorem dX5_means_23 : decode cX5_means 23 = .ok (.iconst (-1), 1) := by decide +kernel
theorem dX5_means_24 : decode cX5_means 24 = .ok (.ireturn, 1) := by decide +kernel
theorem dX5_means_25 : decode cX5_means 25 = .ok (.iload_n 2, 1) := by decide +kernel
theorem dX5_means_26 : decode cX5_means 26 = .ok (.ifCond .eq 10, 3) := by decide +kernel
theorem dX5_means_29 : decode cX5_means 29 = .ok (.iload_n 2, 1) := by decide +kernel
theorem dX5_means_30 : decode cX5_means 30 = .ok (.iconst 1, 1) := by decide +kernel
theorem dX5_means_31 : decode cX5_means 31 = .ok (.if_icmp .eq 5, 3) := by decide +kernel
theorem dX5_means_34 : decode cX5_means 34 = .ok (.iconst (-1), 1) := by decide +kernel
theorem dX5_means_35 : decode cX5_means 35 = .ok (.ireturn, 1) := by decide +kernel
theorem dX5_means_36 : decode cX5_means 36 = .ok (.aload_n 0, 1) := by decide +kernel
theorem dX5_means_37 : decode cX5_means 37 = .ok (.getfield 12, 3) := by decide +kernel
theorem dX5_means_40 : decode cX5_means 40 = .ok (.iload_n 1, 1) := by decide +kernel
theorem dX5_means_41 : decode cX5_means 41 = .ok (.iload_n 2, 1) := by decide +kernel
theorem dX5_means_42 : decode cX5_means 42 = .ok (.aload_n 0, 1) := by decide +kernel
theorem dX5_means_43 : decode cX5_means 43 = .ok (.getfield 19, 3) := by decide +kernel
theorem dX5_means_46 : decode cX5_means 46 = .ok (.aload_n 0, 1) := by decide +kernel
theorem dX5_means_47 : decode cX5_means 47 = .ok (.getfield 12, 3) := by decide +kernel
theorem dX5_means_50 : decode cX5_means 50 = .ok (.getfield 73, 3) := by decide +kernel
theorem dX5_means_53 : decode cX5_means 53 = .ok (.iload_n 3, 1) := by decide +kernel
theorem dX5_means_54 : decode cX5_means 54 = .ok (.invokevirtual 80, 3) := by decide +kernel
theorem dX5_means_57 : decode cX5_means 57 = .ok (.invokevirtual 83, 3) := by decide +kernel
theorem dX5_means_60 : decode cX5_means 60 = .ok (.ireturn, 1) := by decide +kernel
theorem dX5_answer_0 : decode cX5_answer 0 = .ok (.iload_n 1, 1) := by decide +kernel
theorem dX5_answer_1 : decode cX5_answer 1 = .ok (.iload_n 2, 1) := by decide +kernel
theorem dX5_answer_2 : decode cX5_answer 2 = .ok (.invokestatic 87, 3) := by decide +kernel
theorem dX5_answer_5 : decode cX5_answer 5 = .ok (.istore 4, 2) := by decide +kernel
theorem dX5_answer_7 : decode cX5_answer 7 = .ok (.iload 4, 2) := by decide +kernel
theorem dX5_answer_9 : decode cX5_answer 9 = .ok (.iconst (-1), 1) := by decide +kernel
theorem dX5_answer_10 : decode cX5_answer 10 = .ok (.if_icmp .eq 11, 3) := by decide +kernel
theorem dX5_answer_13 : decode cX5_answer 13 = .ok (.aload_n 0, 1) := by decide +kernel
theorem dX5_answer_14 : decode cX5_answer 14 = .ok (.iload_n 3, 1) := by decide +kernel
theorem dX5_answer_15 : decode cX5_answer 15 = .ok (.invokevirtual 66, 3) := by decide +kernel
theorem dX5_answer_18 : decode cX5_answer 18 = .ok (.ifCond .ne 7, 3) := by decide +kernel
theorem dX5_answer_21 : decode cX5_answer 21 = .ok (.iconst (-1), 1) := by decide +kernel
theorem dX5_answer_22 : decode cX5_answer 22 = .ok (.goto 15, 3) := by decide +kernel
theorem dX5_answer_25 : decode cX5_answer 25 = .ok (.aload_n 0, 1) := by decide +kernel
theorem dX5_answer_26 : decode cX5_answer 26 = .ok (.getfield 33, 3) := by decide +kernel
theorem dX5_answer_29 : decode cX5_answer 29 = .ok (.getfield 90, 3) := by decide +kernel
theorem dX5_answer_32 : decode cX5_answer 32 = .ok (.iload_n 3, 1) := by decide +kernel
theorem dX5_answer_33 : decode cX5_answer 33 = .ok (.aaload, 1) := by decide +kernel
theorem dX5_answer_34 : decode cX5_answer 34 = .ok (.iload 4, 2) := by decide +kernel
theorem dX5_answer_36 : decode cX5_answer 36 = .ok (.iaload, 1) := by decide +kernel
theorem dX5_answer_37 : decode cX5_answer 37 = .ok (.ireturn, 1) := by decide +kernel
theorem dX5_level_0 : decode cX5_level 0 = .ok (.iload_n 1, 1) := by decide +kernel
theorem dX5_level_1 : decode cX5_level 1 = .ok (.iload_n 2, 1) := by decide +kernel
theorem dX5_level_2 : decode cX5_level 2 = .ok (.invokestatic 87, 3) := by decide +kernel
theorem dX5_level_5 : decode cX5_level 5 = .ok (.istore 4, 2) := by decide +kernel
theorem dX5_level_7 : decode cX5_level 7 = .ok (.iload 4, 2) := by decide +kernel
theorem dX5_level_9 : decode cX5_level 9 = .ok (.iconst (-1), 1) := by decide +kernel
theorem dX5_level_10 : decode cX5_level 10 = .ok (.if_icmp .eq 11, 3) := by decide +kernel
theorem dX5_level_13 : decode cX5_level 13 = .ok (.aload_n 0, 1) := by decide +kernel
theorem dX5_level_14 : decode cX5_level 14 = .ok (.iload_n 3, 1) := by decide +kernel
theorem dX5_level_15 : decode cX5_level 15 = .ok (.invokevirtual 66, 3) := by decide +kernel
theorem dX5_level_18 : decode cX5_level 18 = .ok (.ifCond .ne 7, 3) := by decide +kernel
theorem dX5_level_21 : decode cX5_level 21 = .ok (.iconst (-1), 1) := by decide +kernel
theorem dX5_level_22 : decode cX5_level 22 = .ok (.goto 15, 3) := by decide +kernel
theorem dX5_level_25 : decode cX5_level 25 = .ok (.aload_n 0, 1) := by decide +kernel
theorem dX5_level_26 : decode cX5_level 26 = .ok (.getfield 33, 3) := by decide +kernel
theorem dX5_level_29 : decode cX5_level 29 = .ok (.getfield 94, 3) := by decide +kernel
theorem dX5_level_32 : decode cX5_level 32 = .ok (.iload_n 3, 1) := by decide +kernel
theorem dX5_level_33 : decode cX5_level 33 = .ok (.aaload, 1) := by decide +kernel
theorem dX5_level_34 : decode cX5_level 34 = .ok (.iload 4, 2) := by decide +kernel
theorem dX5_level_36 : decode cX5_level 36 = .ok (.iaload, 1) := by decide +kernel
theorem dX5_level_37 : decode cX5_level 37 = .ok (.ireturn, 1) := by decide +kernel
theorem dX5_grounds_0 : decode cX5_grounds 0 = .ok (.iload_n 1, 1) := by decide +kernel
theorem dX5_grounds_1 : decode cX5_grounds 1 = .ok (.iload_n 2, 1) := by decide +kernel
theorem dX5_grounds_2 : decode cX5_grounds 2 = .ok (.invokestatic 87, 3) := by decide +kernel
theorem dX5_grounds_5 : decode cX5_grounds 5 = .ok (.iconst (-1), 1) := by decide +kernel
theorem dX5_grounds_6 : decode cX5_grounds 6 = .ok (.if_icmp .eq 11, 3) := by decide +kernel
theorem dX5_grounds_9 : decode cX5_grounds 9 = .ok (.aload_n 0, 1) := by decide +kernel
theorem dX5_grounds_10 : decode cX5_grounds 10 = .ok (.iload_n 3, 1) := by decide +kernel
theorem dX5_grounds_11 : decode cX5_grounds 11 = .ok (.invokevirtual 77, 3) := by decide +kernel
theorem dX5_grounds_14 : decode cX5_grounds 14 = .ok (.ifCond .ne 5, 3) := by decide +kernel
theorem dX5_grounds_17 : decode cX5_grounds 17 = .ok (.iconst (-1), 1) := by decide +kernel
theorem dX5_grounds_18 : decode cX5_grounds 18 = .ok (.ireturn, 1) := by decide +kernel
theorem dX5_grounds_19 : decode cX5_grounds 19 = .ok (.aload_n 0, 1) := by decide +kernel
theorem dX5_grounds_20 : decode cX5_grounds 20 = .ok (.getfield 26, 3) := by decide +kernel
theorem dX5_grounds_23 : decode cX5_grounds 23 = .ok (.aload_n 0, 1) := by decide +kernel
theorem dX5_grounds_24 : decode cX5_grounds 24 = .ok (.getfield 12, 3) := by decide +kernel
theorem dX5_grounds_27 : decode cX5_grounds 27 = .ok (.aload_n 0, 1) := by decide +kernel
theorem dX5_grounds_28 : decode cX5_grounds 28 = .ok (.getfield 12, 3) := by decide +kernel
theorem dX5_grounds_31 : decode cX5_grounds 31 = .ok (.getfield 73, 3) := by decide +kernel
theorem dX5_grounds_34 : decode cX5_grounds 34 = .ok (.aload_n 0, 1) := by decide +kernel
theorem dX5_grounds_35 : decode cX5_grounds 35 = .ok (.getfield 19, 3) := by decide +kernel
theorem dX5_grounds_38 : decode cX5_grounds 38 = .ok (.aload_n 0, 1) := by decide +kernel
theorem dX5_grounds_39 : decode cX5_grounds 39 = .ok (.getfield 12, 3) := by decide +kernel
theorem dX5_grounds_42 : decode cX5_grounds 42 = .ok (.getfield 73, 3) := by decide +kernel
theorem dX5_grounds_45 : decode cX5_grounds 45 = .ok (.iload_n 3, 1) := by decide +kernel
theorem dX5_grounds_46 : decode cX5_grounds 46 = .ok (.invokevirtual 80, 3) := by decide +kernel
theorem dX5_grounds_49 : decode cX5_grounds 49 = .ok (.invokevirtual 97, 3) := by decide +kernel
theorem dX5_grounds_52 : decode cX5_grounds 52 = .ok (.aload_n 0, 1) := by decide +kernel
theorem dX5_grounds_53 : decode cX5_grounds 53 = .ok (.getfield 26, 3) := by decide +kernel
theorem dX5_grounds_56 : decode cX5_grounds 56 = .ok (.iload_n 1, 1) := by decide +kernel
theorem dX5_grounds_57 : decode cX5_grounds 57 = .ok (.iload_n 2, 1) := by decide +kernel
theorem dX5_grounds_58 : decode cX5_grounds 58 = .ok (.invokevirtual 101, 3) := by decide +kernel
theorem dX5_grounds_61 : decode cX5_grounds 61 = .ok (.ireturn, 1) := by decide +kernel
theorem dX5_judge_0 : decode cX5_judge 0 = .ok (.iload_n 1, 1) := by decide +kernel
theorem dX5_judge_1 : decode cX5_judge 1 = .ok (.iload_n 2, 1) := by decide +kernel
theorem dX5_judge_2 : decode cX5_judge 2 = .ok (.invokestatic 87, 3) := by decide +kernel
theorem dX5_judge_5 : decode cX5_judge 5 = .ok (.istore 4, 2) := by decide +kernel
theorem dX5_judge_7 : decode cX5_judge 7 = .ok (.iload 4, 2) := by decide +kernel
theorem dX5_judge_9 : decode cX5_judge 9 = .ok (.iconst (-1), 1) := by decide +kernel
theorem dX5_judge_10 : decode cX5_judge 10 = .ok (.if_icmp .eq 12, 3) := by decide +kernel
theorem dX5_judge_13 : decode cX5_judge 13 = .ok (.aload_n 0, 1) := by decide +kernel
theorem dX5_judge_14 : decode cX5_judge 14 = .ok (.iload 4, 2) := by decide +kernel
theorem dX5_judge_16 : decode cX5_judge 16 = .ok (.invokevirtual 104, 3) := by decide +kernel
theorem dX5_judge_19 : decode cX5_judge 19 = .ok (.ifCond .ge 5, 3) := by decide +kernel
theorem dX5_judge_22 : decode cX5_judge 22 = .ok (.iconst (-1), 1) := by decide +kernel
theorem dX5_judge_23 : decode cX5_judge 23 = .ok (.ireturn, 1) := by decide +kernel
theorem dX5_judge_24 : decode cX5_judge 24 = .ok (.iload_n 3, 1) := by decide +kernel
theorem dX5_judge_25 : decode cX5_judge 25 = .ok (.aload_n 0, 1) := by decide +kernel
theorem dX5_judge_26 : decode cX5_judge 26 = .ok (.iload 4, 2) := by decide +kernel
theorem dX5_judge_28 : decode cX5_judge 28 = .ok (.invokevirtual 104, 3) := by decide +kernel
theorem dX5_judge_31 : decode cX5_judge 31 = .ok (.if_icmp .ne 5, 3) := by decide +kernel
theorem dX5_judge_34 : decode cX5_judge 34 = .ok (.iconst 0, 1) := by decide +kernel
theorem dX5_judge_35 : decode cX5_judge 35 = .ok (.ireturn, 1) := by decide +kernel
theorem dX5_judge_36 : decode cX5_judge 36 = .ok (.iload_n 1, 1) := by decide +kernel
theorem dX5_judge_37 : decode cX5_judge 37 = .ok (.iload_n 3, 1) := by decide +kernel
theorem dX5_judge_38 : decode cX5_judge 38 = .ok (.invokestatic 107, 3) := by decide +kernel
theorem dX5_judge_41 : decode cX5_judge 41 = .ok (.ifCond .ne 5, 3) := by decide +kernel
theorem dX5_judge_44 : decode cX5_judge 44 = .ok (.iconst 1, 1) := by decide +kernel
theorem dX5_judge_45 : decode cX5_judge 45 = .ok (.ireturn, 1) := by decide +kernel
theorem dX5_judge_46 : decode cX5_judge 46 = .ok (.aload_n 0, 1) := by decide +kernel
theorem dX5_judge_47 : decode cX5_judge 47 = .ok (.iload 4, 2) := by decide +kernel
theorem dX5_judge_49 : decode cX5_judge 49 = .ok (.iload_n 3, 1) := by decide +kernel
theorem dX5_judge_50 : decode cX5_judge 50 = .ok (.invokevirtual 111, 3) := by decide +kernel
theorem dX5_judge_53 : decode cX5_judge 53 = .ok (.ifCond .eq 7, 3) := by decide +kernel
theorem dX5_judge_56 : decode cX5_judge 56 = .ok (.iconst 2, 1) := by decide +kernel
theorem dX5_judge_57 : decode cX5_judge 57 = .ok (.goto 4, 3) := by decide +kernel
theorem dX5_judge_60 : decode cX5_judge 60 = .ok (.iconst 3, 1) := by decide +kernel
theorem dX5_judge_61 : decode cX5_judge 61 = .ok (.ireturn, 1) := by decide +kernel
theorem dX5_asks_0 : decode cX5_asks 0 = .ok (.iload_n 1, 1) := by decide +kernel
theorem dX5_asks_1 : decode cX5_asks 1 = .ok (.iload_n 2, 1) := by decide +kernel
theorem dX5_asks_2 : decode cX5_asks 2 = .ok (.invokestatic 87, 3) := by decide +kernel
theorem dX5_asks_5 : decode cX5_asks 5 = .ok (.istore_n 3, 1) := by decide +kernel
theorem dX5_asks_6 : decode cX5_asks 6 = .ok (.iload_n 3, 1) := by decide +kernel
theorem dX5_asks_7 : decode cX5_asks 7 = .ok (.iconst (-1), 1) := by decide +kernel
theorem dX5_asks_8 : decode cX5_asks 8 = .ok (.if_icmp .ne 7, 3) := by decide +kernel
theorem dX5_asks_11 : decode cX5_asks 11 = .ok (.iconst (-1), 1) := by decide +kernel
theorem dX5_asks_12 : decode cX5_asks 12 = .ok (.goto 20, 3) := by decide +kernel
theorem dX5_asks_15 : decode cX5_asks 15 = .ok (.aload_n 0, 1) := by decide +kernel
theorem dX5_asks_16 : decode cX5_asks 16 = .ok (.getfield 33, 3) := by decide +kernel
theorem dX5_asks_19 : decode cX5_asks 19 = .ok (.getfield 114, 3) := by decide +kernel
theorem dX5_asks_22 : decode cX5_asks 22 = .ok (.aload_n 0, 1) := by decide +kernel
theorem dX5_asks_23 : decode cX5_asks 23 = .ok (.getfield 12, 3) := by decide +kernel
theorem dX5_asks_26 : decode cX5_asks 26 = .ok (.getfield 73, 3) := by decide +kernel
theorem dX5_asks_29 : decode cX5_asks 29 = .ok (.aaload, 1) := by decide +kernel
theorem dX5_asks_30 : decode cX5_asks 30 = .ok (.iload_n 3, 1) := by decide +kernel
theorem dX5_asks_31 : decode cX5_asks 31 = .ok (.iaload, 1) := by decide +kernel
theorem dX5_asks_32 : decode cX5_asks 32 = .ok (.ireturn, 1) := by decide +kernel
theorem dX5_fewest_0 : decode cX5_fewest 0 = .ok (.aload_n 0, 1) := by decide +kernel
theorem dX5_fewest_1 : decode cX5_fewest 1 = .ok (.getfield 40, 3) := by decide +kernel
theorem dX5_fewest_4 : decode cX5_fewest 4 = .ok (.invokevirtual 117, 3) := by decide +kernel
theorem dX5_fewest_7 : decode cX5_fewest 7 = .ok (.iconst 0, 1) := by decide +kernel
theorem dX5_fewest_8 : decode cX5_fewest 8 = .ok (.istore_n 1, 1) := by decide +kernel
theorem dX5_fewest_9 : decode cX5_fewest 9 = .ok (.iload_n 1, 1) := by decide +kernel
theorem dX5_fewest_10 : decode cX5_fewest 10 = .ok (.bipush 36, 2) := by decide +kernel
theorem dX5_fewest_12 : decode cX5_fewest 12 = .ok (.if_icmp .ge 33, 3) := by decide +kernel
theorem dX5_fewest_15 : decode cX5_fewest 15 = .ok (.aload_n 0, 1) := by decide +kernel
theorem dX5_fewest_16 : decode cX5_fewest 16 = .ok (.getfield 40, 3) := by decide +kernel
theorem dX5_fewest_19 : decode cX5_fewest 19 = .ok (.aload_n 0, 1) := by decide +kernel
theorem dX5_fewest_20 : decode cX5_fewest 20 = .ok (.getfield 33, 3) := by decide +kernel
theorem dX5_fewest_23 : decode cX5_fewest 23 = .ok (.getfield 114, 3) := by decide +kernel
theorem dX5_fewest_26 : decode cX5_fewest 26 = .ok (.aload_n 0, 1) := by decide +kernel
theorem dX5_fewest_27 : decode cX5_fewest 27 = .ok (.getfield 12, 3) := by decide +kernel
theorem dX5_fewest_30 : decode cX5_fewest 30 = .ok (.getfield 73, 3) := by decide +kernel
theorem dX5_fewest_33 : decode cX5_fewest 33 = .ok (.aaload, 1) := by decide +kernel
theorem dX5_fewest_34 : decode cX5_fewest 34 = .ok (.iload_n 1, 1) := by decide +kernel
theorem dX5_fewest_35 : decode cX5_fewest 35 = .ok (.iaload, 1) := by decide +kernel
theorem dX5_fewest_36 : decode cX5_fewest 36 = .ok (.invokevirtual 120, 3) := by decide +kernel
theorem dX5_fewest_39 : decode cX5_fewest 39 = .ok (.iinc 1 1, 3) := by decide +kernel
theorem dX5_fewest_42 : decode cX5_fewest 42 = .ok (.goto (-33), 3) := by decide +kernel
theorem dX5_fewest_45 : decode cX5_fewest 45 = .ok (.aload_n 0, 1) := by decide +kernel
theorem dX5_fewest_46 : decode cX5_fewest 46 = .ok (.getfield 40, 3) := by decide +kernel
theorem dX5_fewest_49 : decode cX5_fewest 49 = .ok (.invokevirtual 123, 3) := by decide +kernel
theorem dX5_fewest_52 : decode cX5_fewest 52 = .ok (.ireturn, 1) := by decide +kernel
theorem dX5_wrong_0 : decode cX5_wrong 0 = .ok (.iload_n 1, 1) := by decide +kernel
theorem dX5_wrong_1 : decode cX5_wrong 1 = .ok (.iload_n 2, 1) := by decide +kernel
theorem dX5_wrong_2 : decode cX5_wrong 2 = .ok (.invokestatic 87, 3) := by decide +kernel
theorem dX5_wrong_5 : decode cX5_wrong 5 = .ok (.istore 4, 2) := by decide +kernel
theorem dX5_wrong_7 : decode cX5_wrong 7 = .ok (.iload 4, 2) := by decide +kernel
theorem dX5_wrong_9 : decode cX5_wrong 9 = .ok (.iconst (-1), 1) := by decide +kernel
theorem dX5_wrong_10 : decode cX5_wrong 10 = .ok (.if_icmp .eq 17, 3) := by decide +kernel
theorem dX5_wrong_13 : decode cX5_wrong 13 = .ok (.iload_n 1, 1) := by decide +kernel
theorem dX5_wrong_14 : decode cX5_wrong 14 = .ok (.iconst 3, 1) := by decide +kernel
theorem dX5_wrong_15 : decode cX5_wrong 15 = .ok (.if_icmp .eq 12, 3) := by decide +kernel
theorem dX5_wrong_18 : decode cX5_wrong 18 = .ok (.aload_n 0, 1) := by decide +kernel
theorem dX5_wrong_19 : decode cX5_wrong 19 = .ok (.iload 4, 2) := by decide +kernel
theorem dX5_wrong_21 : decode cX5_wrong 21 = .ok (.invokevirtual 104, 3) := by decide +kernel
theorem dX5_wrong_24 : decode cX5_wrong 24 = .ok (.ifCond .ge 5, 3) := by decide +kernel
theorem dX5_wrong_27 : decode cX5_wrong 27 = .ok (.iconst (-1), 1) := by decide +kernel
theorem dX5_wrong_28 : decode cX5_wrong 28 = .ok (.ireturn, 1) := by decide +kernel
theorem dX5_wrong_29 : decode cX5_wrong 29 = .ok (.iload_n 1, 1) := by decide +kernel
theorem dX5_wrong_30 : decode cX5_wrong 30 = .ok (.iconst 2, 1) := by decide +kernel
theorem dX5_wrong_31 : decode cX5_wrong 31 = .ok (.if_icmp .ne 22, 3) := by decide +kernel
theorem dX5_wrong_34 : decode cX5_wrong 34 = .ok (.aload_n 0, 1) := by decide +kernel
theorem dX5_wrong_35 : decode cX5_wrong 35 = .ok (.iload 4, 2) := by decide +kernel
theorem dX5_wrong_37 : decode cX5_wrong 37 = .ok (.invokevirtual 104, 3) := by decide +kernel
theorem dX5_wrong_40 : decode cX5_wrong 40 = .ok (.aload_n 0, 1) := by decide +kernel
theorem dX5_wrong_41 : decode cX5_wrong 41 = .ok (.getfield 12, 3) := by decide +kernel
theorem dX5_wrong_44 : decode cX5_wrong 44 = .ok (.invokevirtual 127, 3) := by decide +kernel
theorem dX5_wrong_47 : decode cX5_wrong 47 = .ok (.iconst 0, 1) := by decide +kernel
theorem dX5_wrong_48 : decode cX5_wrong 48 = .ok (.iload_n 3, 1) := by decide +kernel
theorem dX5_wrong_49 : decode cX5_wrong 49 = .ok (.invokestatic 130, 3) := by decide +kernel
theorem dX5_wrong_52 : decode cX5_wrong 52 = .ok (.ireturn, 1) := by decide +kernel
theorem dX5_wrong_53 : decode cX5_wrong 53 = .ok (.aload_n 0, 1) := by decide +kernel
theorem dX5_wrong_54 : decode cX5_wrong 54 = .ok (.iload 4, 2) := by decide +kernel
theorem dX5_wrong_56 : decode cX5_wrong 56 = .ok (.invokevirtual 104, 3) := by decide +kernel
theorem dX5_wrong_59 : decode cX5_wrong 59 = .ok (.aload_n 0, 1) := by decide +kernel
theorem dX5_wrong_60 : decode cX5_wrong 60 = .ok (.getfield 12, 3) := by decide +kernel
theorem dX5_wrong_63 : decode cX5_wrong 63 = .ok (.invokevirtual 134, 3) := by decide +kernel
theorem dX5_wrong_66 : decode cX5_wrong 66 = .ok (.bipush 20, 2) := by decide +kernel
theorem dX5_wrong_68 : decode cX5_wrong 68 = .ok (.iload_n 3, 1) := by decide +kernel
theorem dX5_wrong_69 : decode cX5_wrong 69 = .ok (.invokestatic 130, 3) := by decide +kernel
theorem dX5_wrong_72 : decode cX5_wrong 72 = .ok (.ireturn, 1) := by decide +kernel
theorem dX5_count_0 : decode cX5_count 0 = .ok (.iload_n 1, 1) := by decide +kernel
theorem dX5_count_1 : decode cX5_count 1 = .ok (.tableswitch 96 0 4 #[35, 43, 51, 66, 81], 35) := by decide +kernel
theorem dX5_count_36 : decode cX5_count 36 = .ok (.aload_n 0, 1) := by decide +kernel
theorem dX5_count_37 : decode cX5_count 37 = .ok (.getfield 12, 3) := by decide +kernel
theorem dX5_count_40 : decode cX5_count 40 = .ok (.getfield 73, 3) := by decide +kernel
theorem dX5_count_43 : decode cX5_count 43 = .ok (.ireturn, 1) := by decide +kernel
theorem dX5_count_44 : decode cX5_count 44 = .ok (.aload_n 0, 1) := by decide +kernel
theorem dX5_count_45 : decode cX5_count 45 = .ok (.getfield 12, 3) := by decide +kernel
theorem dX5_count_48 : decode cX5_count 48 = .ok (.getfield 137, 3) := by decide +kernel
theorem dX5_count_51 : decode cX5_count 51 = .ok (.ireturn, 1) := by decide +kernel
theorem dX5_count_52 : decode cX5_count 52 = .ok (.aload_n 0, 1) := by decide +kernel
theorem dX5_count_53 : decode cX5_count 53 = .ok (.getfield 19, 3) := by decide +kernel
theorem dX5_count_56 : decode cX5_count 56 = .ok (.aload_n 0, 1) := by decide +kernel
theorem dX5_count_57 : decode cX5_count 57 = .ok (.getfield 12, 3) := by decide +kernel
theorem dX5_count_60 : decode cX5_count 60 = .ok (.getfield 73, 3) := by decide +kernel
theorem dX5_count_63 : decode cX5_count 63 = .ok (.invokevirtual 69, 3) := by decide +kernel
theorem dX5_count_66 : decode cX5_count 66 = .ok (.ireturn, 1) := by decide +kernel
theorem dX5_count_67 : decode cX5_count 67 = .ok (.aload_n 0, 1) := by decide +kernel
theorem dX5_count_68 : decode cX5_count 68 = .ok (.getfield 33, 3) := by decide +kernel
theorem dX5_count_71 : decode cX5_count 71 = .ok (.aload_n 0, 1) := by decide +kernel
theorem dX5_count_72 : decode cX5_count 72 = .ok (.getfield 12, 3) := by decide +kernel
theorem dX5_count_75 : decode cX5_count 75 = .ok (.getfield 73, 3) := by decide +kernel
theorem dX5_count_78 : decode cX5_count 78 = .ok (.invokevirtual 140, 3) := by decide +kernel
theorem dX5_count_81 : decode cX5_count 81 = .ok (.ireturn, 1) := by decide +kernel
theorem dX5_count_82 : decode cX5_count 82 = .ok (.aload_n 0, 1) := by decide +kernel
theorem dX5_count_83 : decode cX5_count 83 = .ok (.getfield 33, 3) := by decide +kernel
theorem dX5_count_86 : decode cX5_count 86 = .ok (.aload_n 0, 1) := by decide +kernel
theorem dX5_count_87 : decode cX5_count 87 = .ok (.getfield 12, 3) := by decide +kernel
theorem dX5_count_90 : decode cX5_count 90 = .ok (.getfield 73, 3) := by decide +kernel
theorem dX5_count_93 : decode cX5_count 93 = .ok (.invokevirtual 143, 3) := by decide +kernel
theorem dX5_count_96 : decode cX5_count 96 = .ok (.ireturn, 1) := by decide +kernel
theorem dX5_count_97 : decode cX5_count 97 = .ok (.iconst (-1), 1) := by decide +kernel
theorem dX5_count_98 : decode cX5_count 98 = .ok (.ireturn, 1) := by decide +kernel
theorem dX5_hasPrefix_0 : decode cX5_hasPrefix 0 = .ok (.iload_n 1, 1) := by decide +kernel
theorem dX5_hasPrefix_1 : decode cX5_hasPrefix 1 = .ok (.ifCond .lt 18, 3) := by decide +kernel
theorem dX5_hasPrefix_4 : decode cX5_hasPrefix 4 = .ok (.iload_n 1, 1) := by decide +kernel
theorem dX5_hasPrefix_5 : decode cX5_hasPrefix 5 = .ok (.aload_n 0, 1) := by decide +kernel
theorem dX5_hasPrefix_6 : decode cX5_hasPrefix 6 = .ok (.getfield 12, 3) := by decide +kernel
theorem dX5_hasPrefix_9 : decode cX5_hasPrefix 9 = .ok (.getfield 73, 3) := by decide +kernel
theorem dX5_hasPrefix_12 : decode cX5_hasPrefix 12 = .ok (.if_icmp .gt 7, 3) := by decide +kernel
theorem dX5_hasPrefix_15 : decode cX5_hasPrefix 15 = .ok (.iconst 1, 1) := by decide +kernel
theorem dX5_hasPrefix_16 : decode cX5_hasPrefix 16 = .ok (.goto 4, 3) := by decide +kernel
theorem dX5_hasPrefix_19 : decode cX5_hasPrefix 19 = .ok (.iconst 0, 1) := by decide +kernel
theorem dX5_hasPrefix_20 : decode cX5_hasPrefix 20 = .ok (.ireturn, 1) := by decide +kernel
theorem dX5_hasReading_0 : decode cX5_hasReading 0 = .ok (.iload_n 1, 1) := by decide +kernel
theorem dX5_hasReading_1 : decode cX5_hasReading 1 = .ok (.ifCond .lt 25, 3) := by decide +kernel
theorem dX5_hasReading_4 : decode cX5_hasReading 4 = .ok (.iload_n 1, 1) := by decide +kernel
theorem dX5_hasReading_5 : decode cX5_hasReading 5 = .ok (.aload_n 0, 1) := by decide +kernel
theorem dX5_hasReading_6 : decode cX5_hasReading 6 = .ok (.getfield 19, 3) := by decide +kernel
theorem dX5_hasReading_9 : decode cX5_hasReading 9 = .ok (.aload_n 0, 1) := by decide +kernel
theorem dX5_hasReading_10 : decode cX5_hasReading 10 = .ok (.getfield 12, 3) := by decide +kernel
theorem dX5_hasReading_13 : decode cX5_hasReading 13 = .ok (.getfield 73, 3) := by decide +kernel
theorem dX5_hasReading_16 : decode cX5_hasReading 16 = .ok (.invokevirtual 69, 3) := by decide +kernel
theorem dX5_hasReading_19 : decode cX5_hasReading 19 = .ok (.if_icmp .ge 7, 3) := by decide +kernel
theorem dX5_hasReading_22 : decode cX5_hasReading 22 = .ok (.iconst 1, 1) := by decide +kernel
theorem dX5_hasReading_23 : decode cX5_hasReading 23 = .ok (.goto 4, 3) := by decide +kernel
theorem dX5_hasReading_26 : decode cX5_hasReading 26 = .ok (.iconst 0, 1) := by decide +kernel
theorem dX5_hasReading_27 : decode cX5_hasReading 27 = .ok (.ireturn, 1) := by decide +kernel
theorem dX5_rightAnswer_0 : decode cX5_rightAnswer 0 = .ok (.aload_n 0, 1) := by decide +kernel
theorem dX5_rightAnswer_1 : decode cX5_rightAnswer 1 = .ok (.getfield 33, 3) := by decide +kernel
theorem dX5_rightAnswer_4 : decode cX5_rightAnswer 4 = .ok (.getfield 90, 3) := by decide +kernel
theorem dX5_rightAnswer_7 : decode cX5_rightAnswer 7 = .ok (.aload_n 0, 1) := by decide +kernel
theorem dX5_rightAnswer_8 : decode cX5_rightAnswer 8 = .ok (.getfield 12, 3) := by decide +kernel
theorem dX5_rightAnswer_11 : decode cX5_rightAnswer 11 = .ok (.getfield 73, 3) := by decide +kernel
theorem dX5_rightAnswer_14 : decode cX5_rightAnswer 14 = .ok (.aaload, 1) := by decide +kernel
theorem dX5_rightAnswer_15 : decode cX5_rightAnswer 15 = .ok (.iload_n 1, 1) := by decide +kernel
theorem dX5_rightAnswer_16 : decode cX5_rightAnswer 16 = .ok (.iaload, 1) := by decide +kernel
theorem dX5_rightAnswer_17 : decode cX5_rightAnswer 17 = .ok (.ireturn, 1) := by decide +kernel
theorem dX5_wasAnswer_0 : decode cX5_wasAnswer 0 = .ok (.iconst 0, 1) := by decide +kernel
theorem dX5_wasAnswer_1 : decode cX5_wasAnswer 1 = .ok (.istore_n 3, 1) := by decide +kernel
theorem dX5_wasAnswer_2 : decode cX5_wasAnswer 2 = .ok (.iload_n 3, 1) := by decide +kernel
theorem dX5_wasAnswer_3 : decode cX5_wasAnswer 3 = .ok (.aload_n 0, 1) := by decide +kernel
theorem dX5_wasAnswer_4 : decode cX5_wasAnswer 4 = .ok (.getfield 12, 3) := by decide +kernel
theorem dX5_wasAnswer_7 : decode cX5_wasAnswer 7 = .ok (.getfield 73, 3) := by decide +kernel
theorem dX5_wasAnswer_10 : decode cX5_wasAnswer 10 = .ok (.if_icmp .ge 26, 3) := by decide +kernel
theorem dX5_wasAnswer_13 : decode cX5_wasAnswer 13 = .ok (.aload_n 0, 1) := by decide +kernel
theorem dX5_wasAnswer_14 : decode cX5_wasAnswer 14 = .ok (.getfield 33, 3) := by decide +kernel
theorem dX5_wasAnswer_17 : decode cX5_wasAnswer 17 = .ok (.getfield 90, 3) := by decide +kernel
theorem dX5_wasAnswer_20 : decode cX5_wasAnswer 20 = .ok (.iload_n 3, 1) := by decide +kernel
theorem dX5_wasAnswer_21 : decode cX5_wasAnswer 21 = .ok (.aaload, 1) := by decide +kernel
theorem dX5_wasAnswer_22 : decode cX5_wasAnswer 22 = .ok (.iload_n 1, 1) := by decide +kernel
theorem dX5_wasAnswer_23 : decode cX5_wasAnswer 23 = .ok (.iaload, 1) := by decide +kernel
theorem dX5_wasAnswer_24 : decode cX5_wasAnswer 24 = .ok (.iload_n 2, 1) := by decide +kernel
theorem dX5_wasAnswer_25 : decode cX5_wasAnswer 25 = .ok (.if_icmp .ne 5, 3) := by decide +kernel
theorem dX5_wasAnswer_28 : decode cX5_wasAnswer 28 = .ok (.iconst 1, 1) := by decide +kernel
theorem dX5_wasAnswer_29 : decode cX5_wasAnswer 29 = .ok (.ireturn, 1) := by decide +kernel
theorem dX5_wasAnswer_30 : decode cX5_wasAnswer 30 = .ok (.iinc 3 1, 3) := by decide +kernel
theorem dX5_wasAnswer_33 : decode cX5_wasAnswer 33 = .ok (.goto (-31), 3) := by decide +kernel
theorem dX5_wasAnswer_36 : decode cX5_wasAnswer 36 = .ok (.iconst 0, 1) := by decide +kernel
theorem dX5_wasAnswer_37 : decode cX5_wasAnswer 37 = .ok (.ireturn, 1) := by decide +kernel
theorem dX5_finishSentence_0 : decode cX5_finishSentence 0 = .ok (.aload_n 0, 1) := by decide +kernel
theorem dX5_finishSentence_1 : decode cX5_finishSentence 1 = .ok (.getfield 12, 3) := by decide +kernel
theorem dX5_finishSentence_4 : decode cX5_finishSentence 4 = .ok (.invokevirtual 146, 3) := by decide +kernel
theorem dX5_finishSentence_7 : decode cX5_finishSentence 7 = .ok (.aload_n 0, 1) := by decide +kernel
theorem dX5_finishSentence_8 : decode cX5_finishSentence 8 = .ok (.aload_n 0, 1) := by decide +kernel
theorem dX5_finishSentence_9 : decode cX5_finishSentence 9 = .ok (.getfield 12, 3) := by decide +kernel
theorem dX5_finishSentence_12 : decode cX5_finishSentence 12 = .ok (.getfield 73, 3) := by decide +kernel
theorem dX5_finishSentence_15 : decode cX5_finishSentence 15 = .ok (.invokevirtual 149, 3) := by decide +kernel
theorem dX5_finishSentence_18 : decode cX5_finishSentence 18 = .ok (.ifCond .ne 12, 3) := by decide +kernel
theorem dX5_finishSentence_21 : decode cX5_finishSentence 21 = .ok (.aload_n 0, 1) := by decide +kernel
theorem dX5_finishSentence_22 : decode cX5_finishSentence 22 = .ok (.getfield 12, 3) := by decide +kernel
theorem dX5_finishSentence_25 : decode cX5_finishSentence 25 = .ok (.invokevirtual 152, 3) := by decide +kernel
theorem dX5_finishSentence_28 : decode cX5_finishSentence 28 = .ok (.iconst 0, 1) := by decide +kernel
theorem dX5_finishSentence_29 : decode cX5_finishSentence 29 = .ok (.ireturn, 1) := by decide +kernel
theorem dX5_finishSentence_30 : decode cX5_finishSentence 30 = .ok (.aload_n 0, 1) := by decide +kernel
theorem dX5_finishSentence_31 : decode cX5_finishSentence 31 = .ok (.getfield 12, 3) := by decide +kernel
theorem dX5_finishSentence_34 : decode cX5_finishSentence 34 = .ok (.invokevirtual 155, 3) := by decide +kernel
theorem dX5_finishSentence_37 : decode cX5_finishSentence 37 = .ok (.aload_n 0, 1) := by decide +kernel
theorem dX5_finishSentence_38 : decode cX5_finishSentence 38 = .ok (.aload_n 0, 1) := by decide +kernel
theorem dX5_finishSentence_39 : decode cX5_finishSentence 39 = .ok (.getfield 12, 3) := by decide +kernel
theorem dX5_finishSentence_42 : decode cX5_finishSentence 42 = .ok (.getfield 73, 3) := by decide +kernel
theorem dX5_finishSentence_45 : decode cX5_finishSentence 45 = .ok (.invokevirtual 44, 3) := by decide +kernel
theorem dX5_finishSentence_48 : decode cX5_finishSentence 48 = .ok (.iconst 1, 1) := by decide +kernel
theorem dX5_finishSentence_49 : decode cX5_finishSentence 49 = .ok (.ireturn, 1) := by decide +kernel
theorem dX5_extendWays_0 : decode cX5_extendWays 0 = .ok (.aload_n 0, 1) := by decide +kernel
theorem dX5_extendWays_1 : decode cX5_extendWays 1 = .ok (.getfield 19, 3) := by decide +kernel
theorem dX5_extendWays_4 : decode cX5_extendWays 4 = .ok (.iload_n 1, 1) := by decide +kernel
theorem dX5_extendWays_5 : decode cX5_extendWays 5 = .ok (.iconst 1, 1) := by decide +kernel
theorem dX5_extendWays_6 : decode cX5_extendWays 6 = .ok (.iadd, 1) := by decide +kernel
theorem dX5_extendWays_7 : decode cX5_extendWays 7 = .ok (.invokevirtual 158, 3) := by decide +kernel
theorem dX5_extendWays_10 : decode cX5_extendWays 10 = .ok (.iconst 0, 1) := by decide +kernel
theorem dX5_extendWays_11 : decode cX5_extendWays 11 = .ok (.istore_n 2, 1) := by decide +kernel
theorem dX5_extendWays_12 : decode cX5_extendWays 12 = .ok (.iload_n 2, 1) := by decide +kernel
theorem dX5_extendWays_13 : decode cX5_extendWays 13 = .ok (.aload_n 0, 1) := by decide +kernel
theorem dX5_extendWays_14 : decode cX5_extendWays 14 = .ok (.getfield 19, 3) := by decide +kernel
theorem dX5_extendWays_17 : decode cX5_extendWays 17 = .ok (.iload_n 1, 1) := by decide +kernel
theorem dX5_extendWays_18 : decode cX5_extendWays 18 = .ok (.invokevirtual 69, 3) := by decide +kernel
theorem dX5_extendWays_21 : decode cX5_extendWays 21 = .ok (.if_icmp .ge 43, 3) := by decide +kernel
theorem dX5_extendWays_24 : decode cX5_extendWays 24 = .ok (.aload_n 0, 1) := by decide +kernel
theorem dX5_extendWays_25 : decode cX5_extendWays 25 = .ok (.getfield 19, 3) := by decide +kernel
theorem dX5_extendWays_28 : decode cX5_extendWays 28 = .ok (.iload_n 1, 1) := by decide +kernel
theorem dX5_extendWays_29 : decode cX5_extendWays 29 = .ok (.iload_n 2, 1) := by decide +kernel
theorem dX5_extendWays_30 : decode cX5_extendWays 30 = .ok (.invokevirtual 80, 3) := by decide +kernel
theorem dX5_extendWays_33 : decode cX5_extendWays 33 = .ok (.istore_n 3, 1) := by decide +kernel
theorem dX5_extendWays_34 : decode cX5_extendWays 34 = .ok (.aload_n 0, 1) := by decide +kernel
theorem dX5_extendWays_35 : decode cX5_extendWays 35 = .ok (.getfield 26, 3) := by decide +kernel
theorem dX5_extendWays_38 : decode cX5_extendWays 38 = .ok (.aload_n 0, 1) := by decide +kernel
theorem dX5_extendWays_39 : decode cX5_extendWays 39 = .ok (.getfield 12, 3) := by decide +kernel
theorem dX5_extendWays_42 : decode cX5_extendWays 42 = .ok (.iload_n 1, 1) := by decide +kernel
theorem dX5_extendWays_43 : decode cX5_extendWays 43 = .ok (.iload_n 3, 1) := by decide +kernel
theorem dX5_extendWays_44 : decode cX5_extendWays 44 = .ok (.invokevirtual 97, 3) := by decide +kernel
theorem dX5_extendWays_47 : decode cX5_extendWays 47 = .ok (.aload_n 0, 1) := by decide +kernel
theorem dX5_extendWays_48 : decode cX5_extendWays 48 = .ok (.iload_n 1, 1) := by decide +kernel
theorem dX5_extendWays_49 : decode cX5_extendWays 49 = .ok (.iload_n 3, 1) := by decide +kernel
theorem dX5_extendWays_50 : decode cX5_extendWays 50 = .ok (.invokevirtual 160, 3) := by decide +kernel
theorem dX5_extendWays_53 : decode cX5_extendWays 53 = .ok (.ifCond .ne 5, 3) := by decide +kernel
theorem dX5_extendWays_56 : decode cX5_extendWays 56 = .ok (.iconst 0, 1) := by decide +kernel
theorem dX5_extendWays_57 : decode cX5_extendWays 57 = .ok (.ireturn, 1) := by decide +kernel
theorem dX5_extendWays_58 : decode cX5_extendWays 58 = .ok (.iinc 2 1, 3) := by decide +kernel
theorem dX5_extendWays_61 : decode cX5_extendWays 61 = .ok (.goto (-49), 3) := by decide +kernel
theorem dX5_extendWays_64 : decode cX5_extendWays 64 = .ok (.aload_n 0, 1) := by decide +kernel
theorem dX5_extendWays_65 : decode cX5_extendWays 65 = .ok (.getfield 19, 3) := by decide +kernel
theorem dX5_extendWays_68 : decode cX5_extendWays 68 = .ok (.iload_n 1, 1) := by decide +kernel
theorem dX5_extendWays_69 : decode cX5_extendWays 69 = .ok (.iconst 1, 1) := by decide +kernel
theorem dX5_extendWays_70 : decode cX5_extendWays 70 = .ok (.iadd, 1) := by decide +kernel
theorem dX5_extendWays_71 : decode cX5_extendWays 71 = .ok (.invokevirtual 69, 3) := by decide +kernel
theorem dX5_extendWays_74 : decode cX5_extendWays 74 = .ok (.ifCond .le 7, 3) := by decide +kernel
theorem dX5_extendWays_77 : decode cX5_extendWays 77 = .ok (.iconst 1, 1) := by decide +kernel
theorem dX5_extendWays_78 : decode cX5_extendWays 78 = .ok (.goto 4, 3) := by decide +kernel
theorem dX5_extendWays_81 : decode cX5_extendWays 81 = .ok (.iconst 0, 1) := by decide +kernel
theorem dX5_extendWays_82 : decode cX5_extendWays 82 = .ok (.ireturn, 1) := by decide +kernel
theorem dX5_extendWay_0 : decode cX5_extendWay 0 = .ok (.aload_n 0, 1) := by decide +kernel
theorem dX5_extendWay_1 : decode cX5_extendWay 1 = .ok (.getfield 12, 3) := by decide +kernel
theorem dX5_extendWay_4 : decode cX5_extendWay 4 = .ok (.iload_n 1, 1) := by decide +kernel
theorem dX5_extendWay_5 : decode cX5_extendWay 5 = .ok (.iconst 0, 1) := by decide +kernel
theorem dX5_extendWay_6 : decode cX5_extendWay 6 = .ok (.invokevirtual 163, 3) := by decide +kernel
theorem dX5_extendWay_9 : decode cX5_extendWay 9 = .ok (.invokestatic 166, 3) := by decide +kernel
theorem dX5_extendWay_12 : decode cX5_extendWay 12 = .ok (.istore_n 3, 1) := by decide +kernel
theorem dX5_extendWay_13 : decode cX5_extendWay 13 = .ok (.aload_n 0, 1) := by decide +kernel
theorem dX5_extendWay_14 : decode cX5_extendWay 14 = .ok (.getfield 12, 3) := by decide +kernel
theorem dX5_extendWay_17 : decode cX5_extendWay 17 = .ok (.iload_n 1, 1) := by decide +kernel
theorem dX5_extendWay_18 : decode cX5_extendWay 18 = .ok (.invokevirtual 171, 3) := by decide +kernel
theorem dX5_extendWay_21 : decode cX5_extendWay 21 = .ok (.bipush 33, 2) := by decide +kernel
theorem dX5_extendWay_23 : decode cX5_extendWay 23 = .ok (.if_icmp .ne 18, 3) := by decide +kernel
theorem dX5_extendWay_26 : decode cX5_extendWay 26 = .ok (.aload_n 0, 1) := by decide +kernel
theorem dX5_extendWay_27 : decode cX5_extendWay 27 = .ok (.getfield 12, 3) := by decide +kernel
theorem dX5_extendWay_30 : decode cX5_extendWay 30 = .ok (.iload_n 1, 1) := by decide +kernel
theorem dX5_extendWay_31 : decode cX5_extendWay 31 = .ok (.iconst 1, 1) := by decide +kernel
theorem dX5_extendWay_32 : decode cX5_extendWay 32 = .ok (.invokevirtual 163, 3) := by decide +kernel
theorem dX5_extendWay_35 : decode cX5_extendWay 35 = .ok (.invokestatic 166, 3) := by decide +kernel
theorem dX5_extendWay_38 : decode cX5_extendWay 38 = .ok (.goto 4, 3) := by decide +kernel
theorem dX5_extendWay_41 : decode cX5_extendWay 41 = .ok (.iconst 1, 1) := by decide +kernel
theorem dX5_extendWay_42 : decode cX5_extendWay 42 = .ok (.istore 4, 2) := by decide +kernel
theorem dX5_extendWay_44 : decode cX5_extendWay 44 = .ok (.iconst 0, 1) := by decide +kernel
theorem dX5_extendWay_45 : decode cX5_extendWay 45 = .ok (.istore 5, 2) := by decide +kernel
theorem dX5_extendWay_47 : decode cX5_extendWay 47 = .ok (.iload 5, 2) := by decide +kernel
theorem dX5_extendWay_49 : decode cX5_extendWay 49 = .ok (.iload_n 3, 1) := by decide +kernel
theorem dX5_extendWay_50 : decode cX5_extendWay 50 = .ok (.if_icmp .ge 78, 3) := by decide +kernel
theorem dX5_extendWay_53 : decode cX5_extendWay 53 = .ok (.iconst 0, 1) := by decide +kernel
theorem dX5_extendWay_54 : decode cX5_extendWay 54 = .ok (.istore 6, 2) := by decide +kernel
theorem dX5_extendWay_56 : decode cX5_extendWay 56 = .ok (.iload 6, 2) := by decide +kernel
theorem dX5_extendWay_58 : decode cX5_extendWay 58 = .ok (.iload 4, 2) := by decide +kernel
theorem dX5_extendWay_60 : decode cX5_extendWay 60 = .ok (.if_icmp .ge 62, 3) := by decide +kernel
theorem dX5_extendWay_63 : decode cX5_extendWay 63 = .ok (.iload_n 2, 1) := by decide +kernel
theorem dX5_extendWay_64 : decode cX5_extendWay 64 = .ok (.iload_n 1, 1) := by decide +kernel
theorem dX5_extendWay_65 : decode cX5_extendWay 65 = .ok (.iconst 0, 1) := by decide +kernel
theorem dX5_extendWay_66 : decode cX5_extendWay 66 = .ok (.iload 5, 2) := by decide +kernel
theorem dX5_extendWay_68 : decode cX5_extendWay 68 = .ok (.invokestatic 174, 3) := by decide +kernel
theorem dX5_extendWay_71 : decode cX5_extendWay 71 = .ok (.ior, 1) := by decide +kernel
theorem dX5_extendWay_72 : decode cX5_extendWay 72 = .ok (.iload_n 1, 1) := by decide +kernel
theorem dX5_extendWay_73 : decode cX5_extendWay 73 = .ok (.iconst 1, 1) := by decide +kernel
theorem dX5_extendWay_74 : decode cX5_extendWay 74 = .ok (.iload 6, 2) := by decide +kernel
theorem dX5_extendWay_76 : decode cX5_extendWay 76 = .ok (.invokestatic 174, 3) := by decide +kernel
theorem dX5_extendWay_79 : decode cX5_extendWay 79 = .ok (.ior, 1) := by decide +kernel
theorem dX5_extendWay_80 : decode cX5_extendWay 80 = .ok (.istore 7, 2) := by decide +kernel
theorem dX5_extendWay_82 : decode cX5_extendWay 82 = .ok (.aload_n 0, 1) := by decide +kernel
theorem dX5_extendWay_83 : decode cX5_extendWay 83 = .ok (.getfield 26, 3) := by decide +kernel
theorem dX5_extendWay_86 : decode cX5_extendWay 86 = .ok (.aload_n 0, 1) := by decide +kernel
theorem dX5_extendWay_87 : decode cX5_extendWay 87 = .ok (.getfield 12, 3) := by decide +kernel
theorem dX5_extendWay_90 : decode cX5_extendWay 90 = .ok (.iload_n 1, 1) := by decide +kernel
theorem dX5_extendWay_91 : decode cX5_extendWay 91 = .ok (.iload 7, 2) := by decide +kernel
theorem dX5_extendWay_93 : decode cX5_extendWay 93 = .ok (.invokevirtual 177, 3) := by decide +kernel
theorem dX5_extendWay_96 : decode cX5_extendWay 96 = .ok (.ifCond .eq 20, 3) := by decide +kernel
theorem dX5_extendWay_99 : decode cX5_extendWay 99 = .ok (.aload_n 0, 1) := by decide +kernel
theorem dX5_extendWay_100 : decode cX5_extendWay 100 = .ok (.getfield 19, 3) := by decide +kernel
theorem dX5_extendWay_103 : decode cX5_extendWay 103 = .ok (.iload_n 1, 1) := by decide +kernel
theorem dX5_extendWay_104 : decode cX5_extendWay 104 = .ok (.iconst 1, 1) := by decide +kernel
theorem dX5_extendWay_105 : decode cX5_extendWay 105 = .ok (.iadd, 1) := by decide +kernel
theorem dX5_extendWay_106 : decode cX5_extendWay 106 = .ok (.iload 7, 2) := by decide +kernel
theorem dX5_extendWay_108 : decode cX5_extendWay 108 = .ok (.invokevirtual 181, 3) := by decide +kernel
theorem dX5_extendWay_111 : decode cX5_extendWay 111 = .ok (.ifCond .ne 5, 3) := by decide +kernel
theorem dX5_extendWay_114 : decode cX5_extendWay 114 = .ok (.iconst 0, 1) := by decide +kernel
theorem dX5_extendWay_115 : decode cX5_extendWay 115 = .ok (.ireturn, 1) := by decide +kernel
theorem dX5_extendWay_116 : decode cX5_extendWay 116 = .ok (.iinc 6 1, 3) := by decide +kernel
theorem dX5_extendWay_119 : decode cX5_extendWay 119 = .ok (.goto (-63), 3) := by decide +kernel
theorem dX5_extendWay_122 : decode cX5_extendWay 122 = .ok (.iinc 5 1, 3) := by decide +kernel
theorem dX5_extendWay_125 : decode cX5_extendWay 125 = .ok (.goto (-78), 3) := by decide +kernel
theorem dX5_extendWay_128 : decode cX5_extendWay 128 = .ok (.iconst 1, 1) := by decide +kernel
theorem dX5_extendWay_129 : decode cX5_extendWay 129 = .ok (.ireturn, 1) := by decide +kernel
theorem dX5_findAnswers_0 : decode cX5_findAnswers 0 = .ok (.iconst 0, 1) := by decide +kernel
theorem dX5_findAnswers_1 : decode cX5_findAnswers 1 = .ok (.istore_n 2, 1) := by decide +kernel
theorem dX5_findAnswers_2 : decode cX5_findAnswers 2 = .ok (.iload_n 2, 1) := by decide +kernel
theorem dX5_findAnswers_3 : decode cX5_findAnswers 3 = .ok (.aload_n 0, 1) := by decide +kernel
theorem dX5_findAnswers_4 : decode cX5_findAnswers 4 = .ok (.getfield 19, 3) := by decide +kernel
theorem dX5_findAnswers_7 : decode cX5_findAnswers 7 = .ok (.iload_n 1, 1) := by decide +kernel
theorem dX5_findAnswers_8 : decode cX5_findAnswers 8 = .ok (.invokevirtual 69, 3) := by decide +kernel
theorem dX5_findAnswers_11 : decode cX5_findAnswers 11 = .ok (.if_icmp .ge 51, 3) := by decide +kernel
theorem dX5_findAnswers_14 : decode cX5_findAnswers 14 = .ok (.aload_n 0, 1) := by decide +kernel
theorem dX5_findAnswers_15 : decode cX5_findAnswers 15 = .ok (.getfield 26, 3) := by decide +kernel
theorem dX5_findAnswers_18 : decode cX5_findAnswers 18 = .ok (.aload_n 0, 1) := by decide +kernel
theorem dX5_findAnswers_19 : decode cX5_findAnswers 19 = .ok (.getfield 12, 3) := by decide +kernel
theorem dX5_findAnswers_22 : decode cX5_findAnswers 22 = .ok (.iload_n 1, 1) := by decide +kernel
theorem dX5_findAnswers_23 : decode cX5_findAnswers 23 = .ok (.aload_n 0, 1) := by decide +kernel
theorem dX5_findAnswers_24 : decode cX5_findAnswers 24 = .ok (.getfield 19, 3) := by decide +kernel
theorem dX5_findAnswers_27 : decode cX5_findAnswers 27 = .ok (.iload_n 1, 1) := by decide +kernel
theorem dX5_findAnswers_28 : decode cX5_findAnswers 28 = .ok (.iload_n 2, 1) := by decide +kernel
theorem dX5_findAnswers_29 : decode cX5_findAnswers 29 = .ok (.invokevirtual 80, 3) := by decide +kernel
theorem dX5_findAnswers_32 : decode cX5_findAnswers 32 = .ok (.invokevirtual 97, 3) := by decide +kernel
theorem dX5_findAnswers_35 : decode cX5_findAnswers 35 = .ok (.aload_n 0, 1) := by decide +kernel
theorem dX5_findAnswers_36 : decode cX5_findAnswers 36 = .ok (.getfield 33, 3) := by decide +kernel
theorem dX5_findAnswers_39 : decode cX5_findAnswers 39 = .ok (.iload_n 1, 1) := by decide +kernel
theorem dX5_findAnswers_40 : decode cX5_findAnswers 40 = .ok (.aload_n 0, 1) := by decide +kernel
theorem dX5_findAnswers_41 : decode cX5_findAnswers 41 = .ok (.getfield 26, 3) := by decide +kernel
theorem dX5_findAnswers_44 : decode cX5_findAnswers 44 = .ok (.iload_n 2, 1) := by decide +kernel
theorem dX5_findAnswers_45 : decode cX5_findAnswers 45 = .ok (.ifCond .ne 7, 3) := by decide +kernel
theorem dX5_findAnswers_48 : decode cX5_findAnswers 48 = .ok (.iconst 1, 1) := by decide +kernel
theorem dX5_findAnswers_49 : decode cX5_findAnswers 49 = .ok (.goto 4, 3) := by decide +kernel
theorem dX5_findAnswers_52 : decode cX5_findAnswers 52 = .ok (.iconst 0, 1) := by decide +kernel
theorem dX5_findAnswers_53 : decode cX5_findAnswers 53 = .ok (.invokevirtual 183, 3) := by decide +kernel
theorem dX5_findAnswers_56 : decode cX5_findAnswers 56 = .ok (.iinc 2 1, 3) := by decide +kernel
theorem dX5_findAnswers_59 : decode cX5_findAnswers 59 = .ok (.goto (-57), 3) := by decide +kernel
theorem dX5_findAnswers_62 : decode cX5_findAnswers 62 = .ok (.aload_n 0, 1) := by decide +kernel
theorem dX5_findAnswers_63 : decode cX5_findAnswers 63 = .ok (.getfield 33, 3) := by decide +kernel
theorem dX5_findAnswers_66 : decode cX5_findAnswers 66 = .ok (.iload_n 1, 1) := by decide +kernel
theorem dX5_findAnswers_67 : decode cX5_findAnswers 67 = .ok (.invokevirtual 187, 3) := by decide +kernel
theorem dX5_findAnswers_70 : decode cX5_findAnswers 70 = .ok (.return_, 1) := by decide +kernel
theorem dX5_choiceBut_0 : decode cX5_choiceBut 0 = .ok (.iload_n 3, 1) := by decide +kernel
theorem dX5_choiceBut_1 : decode cX5_choiceBut 1 = .ok (.istore 4, 2) := by decide +kernel
theorem dX5_choiceBut_3 : decode cX5_choiceBut 3 = .ok (.iconst 0, 1) := by decide +kernel
theorem dX5_choiceBut_4 : decode cX5_choiceBut 4 = .ok (.istore 5, 2) := by decide +kernel
theorem dX5_choiceBut_6 : decode cX5_choiceBut 6 = .ok (.iload 5, 2) := by decide +kernel
theorem dX5_choiceBut_8 : decode cX5_choiceBut 8 = .ok (.bipush 8, 2) := by decide +kernel
theorem dX5_choiceBut_10 : decode cX5_choiceBut 10 = .ok (.if_icmp .ge 39, 3) := by decide +kernel
theorem dX5_choiceBut_13 : decode cX5_choiceBut 13 = .ok (.iload_n 1, 1) := by decide +kernel
theorem dX5_choiceBut_14 : decode cX5_choiceBut 14 = .ok (.iload 5, 2) := by decide +kernel
theorem dX5_choiceBut_16 : decode cX5_choiceBut 16 = .ok (.ishr, 1) := by decide +kernel
theorem dX5_choiceBut_17 : decode cX5_choiceBut 17 = .ok (.iconst 1, 1) := by decide +kernel
theorem dX5_choiceBut_18 : decode cX5_choiceBut 18 = .ok (.iand, 1) := by decide +kernel
theorem dX5_choiceBut_19 : decode cX5_choiceBut 19 = .ok (.ifCond .eq 24, 3) := by decide +kernel
theorem dX5_choiceBut_22 : decode cX5_choiceBut 22 = .ok (.iload_n 2, 1) := by decide +kernel
theorem dX5_choiceBut_23 : decode cX5_choiceBut 23 = .ok (.iload 5, 2) := by decide +kernel
theorem dX5_choiceBut_25 : decode cX5_choiceBut 25 = .ok (.iadd, 1) := by decide +kernel
theorem dX5_choiceBut_26 : decode cX5_choiceBut 26 = .ok (.iload_n 0, 1) := by decide +kernel
theorem dX5_choiceBut_27 : decode cX5_choiceBut 27 = .ok (.if_icmp .eq 16, 3) := by decide +kernel
theorem dX5_choiceBut_30 : decode cX5_choiceBut 30 = .ok (.iload 4, 2) := by decide +kernel
theorem dX5_choiceBut_32 : decode cX5_choiceBut 32 = .ok (.ifCond .ne 8, 3) := by decide +kernel
theorem dX5_choiceBut_35 : decode cX5_choiceBut 35 = .ok (.iload_n 2, 1) := by decide +kernel
theorem dX5_choiceBut_36 : decode cX5_choiceBut 36 = .ok (.iload 5, 2) := by decide +kernel
theorem dX5_choiceBut_38 : decode cX5_choiceBut 38 = .ok (.iadd, 1) := by decide +kernel
theorem dX5_choiceBut_39 : decode cX5_choiceBut 39 = .ok (.ireturn, 1) := by decide +kernel
theorem dX5_choiceBut_40 : decode cX5_choiceBut 40 = .ok (.iinc 4 (-1), 3) := by decide +kernel
theorem dX5_choiceBut_43 : decode cX5_choiceBut 43 = .ok (.iinc 5 1, 3) := by decide +kernel
theorem dX5_choiceBut_46 : decode cX5_choiceBut 46 = .ok (.goto (-40), 3) := by decide +kernel
theorem dX5_choiceBut_49 : decode cX5_choiceBut 49 = .ok (.iconst (-1), 1) := by decide +kernel
theorem dX5_choiceBut_50 : decode cX5_choiceBut 50 = .ok (.ireturn, 1) := by decide +kernel
theorem dX5_choiceBit_0 : decode cX5_choiceBit 0 = .ok (.iload_n 2, 1) := by decide +kernel
theorem dX5_choiceBit_1 : decode cX5_choiceBit 1 = .ok (.iconst 2, 1) := by decide +kernel
theorem dX5_choiceBit_2 : decode cX5_choiceBit 2 = .ok (.iload_n 0, 1) := by decide +kernel
theorem dX5_choiceBit_3 : decode cX5_choiceBit 3 = .ok (.imul, 1) := by decide +kernel
theorem dX5_choiceBit_4 : decode cX5_choiceBit 4 = .ok (.iload_n 1, 1) := by decide +kernel
theorem dX5_choiceBit_5 : decode cX5_choiceBit 5 = .ok (.iadd, 1) := by decide +kernel
theorem dX5_choiceBit_6 : decode cX5_choiceBit 6 = .ok (.ishl, 1) := by decide +kernel
theorem dX5_choiceBit_7 : decode cX5_choiceBit 7 = .ok (.ireturn, 1) := by decide +kernel
theorem dX5_aboutCount_0 : decode cX5_aboutCount 0 = .ok (.iload_n 0, 1) := by decide +kernel
theorem dX5_aboutCount_1 : decode cX5_aboutCount 1 = .ok (.iconst 1, 1) := by decide +kernel
theorem dX5_aboutCount_2 : decode cX5_aboutCount 2 = .ok (.if_icmp .eq 8, 3) := by decide +kernel
theorem dX5_aboutCount_5 : decode cX5_aboutCount 5 = .ok (.iload_n 0, 1) := by decide +kernel
theorem dX5_aboutCount_6 : decode cX5_aboutCount 6 = .ok (.iconst 2, 1) := by decide +kernel
theorem dX5_aboutCount_7 : decode cX5_aboutCount 7 = .ok (.if_icmp .ne 8, 3) := by decide +kernel
theorem dX5_aboutCount_10 : decode cX5_aboutCount 10 = .ok (.bipush 10, 2) := by decide +kernel
theorem dX5_aboutCount_12 : decode cX5_aboutCount 12 = .ok (.goto 5, 3) := by decide +kernel
theorem dX5_aboutCount_15 : decode cX5_aboutCount 15 = .ok (.bipush 8, 2) := by decide +kernel
theorem dX5_aboutCount_17 : decode cX5_aboutCount 17 = .ok (.ireturn, 1) := by decide +kernel
theorem dX5_questionNumber_0 : decode cX5_questionNumber 0 = .ok (.iload_n 0, 1) := by decide +kernel
theorem dX5_questionNumber_1 : decode cX5_questionNumber 1 = .ok (.ifCond .lt 20, 3) := by decide +kernel
theorem dX5_questionNumber_4 : decode cX5_questionNumber 4 = .ok (.iload_n 0, 1) := by decide +kernel
theorem dX5_questionNumber_5 : decode cX5_questionNumber 5 = .ok (.iconst 4, 1) := by decide +kernel
theorem dX5_questionNumber_6 : decode cX5_questionNumber 6 = .ok (.if_icmp .ge 15, 3) := by decide +kernel
theorem dX5_questionNumber_9 : decode cX5_questionNumber 9 = .ok (.iload_n 1, 1) := by decide +kernel
theorem dX5_questionNumber_10 : decode cX5_questionNumber 10 = .ok (.ifCond .lt 11, 3) := by decide +kernel
theorem dX5_questionNumber_13 : decode cX5_questionNumber 13 = .ok (.iload_n 1, 1) := by decide +kernel
theorem dX5_questionNumber_14 : decode cX5_questionNumber 14 = .ok (.iload_n 0, 1) := by decide +kernel
theorem dX5_questionNumber_15 : decode cX5_questionNumber 15 = .ok (.invokestatic 190, 3) := by decide +kernel
theorem dX5_questionNumber_18 : decode cX5_questionNumber 18 = .ok (.if_icmp .lt 5, 3) := by decide +kernel
theorem dX5_questionNumber_21 : decode cX5_questionNumber 21 = .ok (.iconst (-1), 1) := by decide +kernel
theorem dX5_questionNumber_22 : decode cX5_questionNumber 22 = .ok (.ireturn, 1) := by decide +kernel
theorem dX5_questionNumber_23 : decode cX5_questionNumber 23 = .ok (.iload_n 0, 1) := by decide +kernel
theorem dX5_questionNumber_24 : decode cX5_questionNumber 24 = .ok (.tableswitch 40 0 2 #[28, 30, 35], 28) := by decide +kernel
theorem dX5_questionNumber_52 : decode cX5_questionNumber 52 = .ok (.iload_n 1, 1) := by decide +kernel
theorem dX5_questionNumber_53 : decode cX5_questionNumber 53 = .ok (.ireturn, 1) := by decide +kernel
theorem dX5_questionNumber_54 : decode cX5_questionNumber 54 = .ok (.bipush 8, 2) := by decide +kernel
theorem dX5_questionNumber_56 : decode cX5_questionNumber 56 = .ok (.iload_n 1, 1) := by decide +kernel
theorem dX5_questionNumber_57 : decode cX5_questionNumber 57 = .ok (.iadd, 1) := by decide +kernel
theorem dX5_questionNumber_58 : decode cX5_questionNumber 58 = .ok (.ireturn, 1) := by decide +kernel
theorem dX5_questionNumber_59 : decode cX5_questionNumber 59 = .ok (.bipush 18, 2) := by decide +kernel
theorem dX5_questionNumber_61 : decode cX5_questionNumber 61 = .ok (.iload_n 1, 1) := by decide +kernel
theorem dX5_questionNumber_62 : decode cX5_questionNumber 62 = .ok (.iadd, 1) := by decide +kernel
theorem dX5_questionNumber_63 : decode cX5_questionNumber 63 = .ok (.ireturn, 1) := by decide +kernel
theorem dX5_questionNumber_64 : decode cX5_questionNumber 64 = .ok (.bipush 28, 2) := by decide +kernel
theorem dX5_questionNumber_66 : decode cX5_questionNumber 66 = .ok (.iload_n 1, 1) := by decide +kernel
theorem dX5_questionNumber_67 : decode cX5_questionNumber 67 = .ok (.iadd, 1) := by decide +kernel
theorem dX5_questionNumber_68 : decode cX5_questionNumber 68 = .ok (.ireturn, 1) := by decide +kernel
theorem dX5_isOfKind_0 : decode cX5_isOfKind 0 = .ok (.iload_n 0, 1) := by decide +kernel
theorem dX5_isOfKind_1 : decode cX5_isOfKind 1 = .ok (.lookupswitch 62 #[(2, 27), (3, 46)], 27) := by decide +kernel
theorem dX5_isOfKind_28 : decode cX5_isOfKind 28 = .ok (.iload_n 1, 1) := by decide +kernel
theorem dX5_isOfKind_29 : decode cX5_isOfKind 29 = .ok (.invokestatic 193, 3) := by decide +kernel
theorem dX5_isOfKind_32 : decode cX5_isOfKind 32 = .ok (.ifCond .ne 9, 3) := by decide +kernel
theorem dX5_isOfKind_35 : decode cX5_isOfKind 35 = .ok (.iload_n 1, 1) := by decide +kernel
theorem dX5_isOfKind_36 : decode cX5_isOfKind 36 = .ok (.bipush 9, 2) := by decide +kernel
theorem dX5_isOfKind_38 : decode cX5_isOfKind 38 = .ok (.if_icmp .ne 7, 3) := by decide +kernel
theorem dX5_isOfKind_41 : decode cX5_isOfKind 41 = .ok (.iconst 1, 1) := by decide +kernel
theorem dX5_isOfKind_42 : decode cX5_isOfKind 42 = .ok (.goto 4, 3) := by decide +kernel
theorem dX5_isOfKind_45 : decode cX5_isOfKind 45 = .ok (.iconst 0, 1) := by decide +kernel
theorem dX5_isOfKind_46 : decode cX5_isOfKind 46 = .ok (.ireturn, 1) := by decide +kernel
theorem dX5_isOfKind_47 : decode cX5_isOfKind 47 = .ok (.iload_n 1, 1) := by decide +kernel
theorem dX5_isOfKind_48 : decode cX5_isOfKind 48 = .ok (.ifCond .lt 13, 3) := by decide +kernel
theorem dX5_isOfKind_51 : decode cX5_isOfKind 51 = .ok (.iload_n 1, 1) := by decide +kernel
theorem dX5_isOfKind_52 : decode cX5_isOfKind 52 = .ok (.bipush 10, 2) := by decide +kernel
theorem dX5_isOfKind_54 : decode cX5_isOfKind 54 = .ok (.if_icmp .gt 7, 3) := by decide +kernel
theorem dX5_isOfKind_57 : decode cX5_isOfKind 57 = .ok (.iconst 1, 1) := by decide +kernel
theorem dX5_isOfKind_58 : decode cX5_isOfKind 58 = .ok (.goto 4, 3) := by decide +kernel
theorem dX5_isOfKind_61 : decode cX5_isOfKind 61 = .ok (.iconst 0, 1) := by decide +kernel
theorem dX5_isOfKind_62 : decode cX5_isOfKind 62 = .ok (.ireturn, 1) := by decide +kernel
theorem dX5_isOfKind_63 : decode cX5_isOfKind 63 = .ok (.iload_n 1, 1) := by decide +kernel
theorem dX5_isOfKind_64 : decode cX5_isOfKind 64 = .ok (.invokestatic 196, 3) := by decide +kernel
theorem dX5_isOfKind_67 : decode cX5_isOfKind 67 = .ok (.ireturn, 1) := by decide +kernel
theorem dX5_isPerson_0 : decode cX5_isPerson 0 = .ok (.iload_n 0, 1) := by decide +kernel
theorem dX5_isPerson_1 : decode cX5_isPerson 1 = .ok (.ifCond .lt 13, 3) := by decide +kernel
theorem dX5_isPerson_4 : decode cX5_isPerson 4 = .ok (.iload_n 0, 1) := by decide +kernel
theorem dX5_isPerson_5 : decode cX5_isPerson 5 = .ok (.bipush 8, 2) := by decide +kernel
theorem dX5_isPerson_7 : decode cX5_isPerson 7 = .ok (.if_icmp .ge 7, 3) := by decide +kernel
theorem dX5_isPerson_10 : decode cX5_isPerson 10 = .ok (.iconst 1, 1) := by decide +kernel
theorem dX5_isPerson_11 : decode cX5_isPerson 11 = .ok (.goto 4, 3) := by decide +kernel
theorem dX5_isPerson_14 : decode cX5_isPerson 14 = .ok (.iconst 0, 1) := by decide +kernel
theorem dX5_isPerson_15 : decode cX5_isPerson 15 = .ok (.ireturn, 1) := by decide +kernel
theorem dX5_isThing_0 : decode cX5_isThing 0 = .ok (.iload_n 0, 1) := by decide +kernel
theorem dX5_isThing_1 : decode cX5_isThing 1 = .ok (.bipush 10, 2) := by decide +kernel
theorem dX5_isThing_3 : decode cX5_isThing 3 = .ok (.if_icmp .lt 13, 3) := by decide +kernel
theorem dX5_isThing_6 : decode cX5_isThing 6 = .ok (.iload_n 0, 1) := by decide +kernel
theorem dX5_isThing_7 : decode cX5_isThing 7 = .ok (.bipush 20, 2) := by decide +kernel
theorem dX5_isThing_9 : decode cX5_isThing 9 = .ok (.if_icmp .ge 7, 3) := by decide +kernel
theorem dX5_isThing_12 : decode cX5_isThing 12 = .ok (.iconst 1, 1) := by decide +kernel
theorem dX5_isThing_13 : decode cX5_isThing 13 = .ok (.goto 4, 3) := by decide +kernel
theorem dX5_isThing_16 : decode cX5_isThing 16 = .ok (.iconst 0, 1) := by decide +kernel
theorem dX5_isThing_17 : decode cX5_isThing 17 = .ok (.ireturn, 1) := by decide +kernel
theorem dX5_isPlace_0 : decode cX5_isPlace 0 = .ok (.iload_n 0, 1) := by decide +kernel
theorem dX5_isPlace_1 : decode cX5_isPlace 1 = .ok (.bipush 20, 2) := by decide +kernel
theorem dX5_isPlace_3 : decode cX5_isPlace 3 = .ok (.if_icmp .lt 13, 3) := by decide +kernel
theorem dX5_isPlace_6 : decode cX5_isPlace 6 = .ok (.iload_n 0, 1) := by decide +kernel
theorem dX5_isPlace_7 : decode cX5_isPlace 7 = .ok (.bipush 28, 2) := by decide +kernel
theorem dX5_isPlace_9 : decode cX5_isPlace 9 = .ok (.if_icmp .ge 7, 3) := by decide +kernel
theorem dX5_isPlace_12 : decode cX5_isPlace 12 = .ok (.iconst 1, 1) := by decide +kernel
theorem dX5_isPlace_13 : decode cX5_isPlace 13 = .ok (.goto 4, 3) := by decide +kernel
theorem dX5_isPlace_16 : decode cX5_isPlace 16 = .ok (.iconst 0, 1) := by decide +kernel
theorem dX5_isPlace_17 : decode cX5_isPlace 17 = .ok (.ireturn, 1) := by decide +kernel
theorem dX5_isWho_0 : decode cX5_isWho 0 = .ok (.iload_n 0, 1) := by decide +kernel
theorem dX5_isWho_1 : decode cX5_isWho 1 = .ok (.invokestatic 193, 3) := by decide +kernel
theorem dX5_isWho_4 : decode cX5_isWho 4 = .ok (.ifCond .ne 15, 3) := by decide +kernel
theorem dX5_isWho_7 : decode cX5_isWho 7 = .ok (.iload_n 0, 1) := by decide +kernel
theorem dX5_isWho_8 : decode cX5_isWho 8 = .ok (.bipush 40, 2) := by decide +kernel
theorem dX5_isWho_10 : decode cX5_isWho 10 = .ok (.if_icmp .eq 9, 3) := by decide +kernel
theorem dX5_isWho_13 : decode cX5_isWho 13 = .ok (.iload_n 0, 1) := by decide +kernel
theorem dX5_isWho_14 : decode cX5_isWho 14 = .ok (.bipush 41, 2) := by decide +kernel
theorem dX5_isWho_16 : decode cX5_isWho 16 = .ok (.if_icmp .ne 7, 3) := by decide +kernel
theorem dX5_isWho_19 : decode cX5_isWho 19 = .ok (.iconst 1, 1) := by decide +kernel
theorem dX5_isWho_20 : decode cX5_isWho 20 = .ok (.goto 4, 3) := by decide +kernel
theorem dX5_isWho_23 : decode cX5_isWho 23 = .ok (.iconst 0, 1) := by decide +kernel
theorem dX5_isWho_24 : decode cX5_isWho 24 = .ok (.ireturn, 1) := by decide +kernel
theorem dJ6_bitCount_0f7a4_0 : decode cJ6_bitCount_0f7a4 0 = .ok (.iload_n 0, 1) := by decide +kernel
theorem dJ6_bitCount_0f7a4_1 : decode cJ6_bitCount_0f7a4 1 = .ok (.iload_n 0, 1) := by decide +kernel
theorem dJ6_bitCount_0f7a4_2 : decode cJ6_bitCount_0f7a4 2 = .ok (.iconst 1, 1) := by decide +kernel
theorem dJ6_bitCount_0f7a4_3 : decode cJ6_bitCount_0f7a4 3 = .ok (.iushr, 1) := by decide +kernel
theorem dJ6_bitCount_0f7a4_4 : decode cJ6_bitCount_0f7a4 4 = .ok (.ldc_w 265, 3) := by decide +kernel
theorem dJ6_bitCount_0f7a4_7 : decode cJ6_bitCount_0f7a4 7 = .ok (.iand, 1) := by decide +kernel
theorem dJ6_bitCount_0f7a4_8 : decode cJ6_bitCount_0f7a4 8 = .ok (.isub, 1) := by decide +kernel
theorem dJ6_bitCount_0f7a4_9 : decode cJ6_bitCount_0f7a4 9 = .ok (.istore_n 0, 1) := by decide +kernel
theorem dJ6_bitCount_0f7a4_10 : decode cJ6_bitCount_0f7a4 10 = .ok (.iload_n 0, 1) := by decide +kernel
theorem dJ6_bitCount_0f7a4_11 : decode cJ6_bitCount_0f7a4 11 = .ok (.ldc_w 266, 3) := by decide +kernel
theorem dJ6_bitCount_0f7a4_14 : decode cJ6_bitCount_0f7a4 14 = .ok (.iand, 1) := by decide +kernel
theorem dJ6_bitCount_0f7a4_15 : decode cJ6_bitCount_0f7a4 15 = .ok (.iload_n 0, 1) := by decide +kernel
theorem dJ6_bitCount_0f7a4_16 : decode cJ6_bitCount_0f7a4 16 = .ok (.iconst 2, 1) := by decide +kernel
theorem dJ6_bitCount_0f7a4_17 : decode cJ6_bitCount_0f7a4 17 = .ok (.iushr, 1) := by decide +kernel
theorem dJ6_bitCount_0f7a4_18 : decode cJ6_bitCount_0f7a4 18 = .ok (.ldc_w 266, 3) := by decide +kernel
theorem dJ6_bitCount_0f7a4_21 : decode cJ6_bitCount_0f7a4 21 = .ok (.iand, 1) := by decide +kernel
theorem dJ6_bitCount_0f7a4_22 : decode cJ6_bitCount_0f7a4 22 = .ok (.iadd, 1) := by decide +kernel
theorem dJ6_bitCount_0f7a4_23 : decode cJ6_bitCount_0f7a4 23 = .ok (.istore_n 0, 1) := by decide +kernel
theorem dJ6_bitCount_0f7a4_24 : decode cJ6_bitCount_0f7a4 24 = .ok (.iload_n 0, 1) := by decide +kernel
theorem dJ6_bitCount_0f7a4_25 : decode cJ6_bitCount_0f7a4 25 = .ok (.iload_n 0, 1) := by decide +kernel
theorem dJ6_bitCount_0f7a4_26 : decode cJ6_bitCount_0f7a4 26 = .ok (.iconst 4, 1) := by decide +kernel
theorem dJ6_bitCount_0f7a4_27 : decode cJ6_bitCount_0f7a4 27 = .ok (.iushr, 1) := by decide +kernel
theorem dJ6_bitCount_0f7a4_28 : decode cJ6_bitCount_0f7a4 28 = .ok (.iadd, 1) := by decide +kernel
theorem dJ6_bitCount_0f7a4_29 : decode cJ6_bitCount_0f7a4 29 = .ok (.ldc_w 267, 3) := by decide +kernel
theorem dJ6_bitCount_0f7a4_32 : decode cJ6_bitCount_0f7a4 32 = .ok (.iand, 1) := by decide +kernel
theorem dJ6_bitCount_0f7a4_33 : decode cJ6_bitCount_0f7a4 33 = .ok (.istore_n 0, 1) := by decide +kernel
theorem dJ6_bitCount_0f7a4_34 : decode cJ6_bitCount_0f7a4 34 = .ok (.iload_n 0, 1) := by decide +kernel
theorem dJ6_bitCount_0f7a4_35 : decode cJ6_bitCount_0f7a4 35 = .ok (.iload_n 0, 1) := by decide +kernel
theorem dJ6_bitCount_0f7a4_36 : decode cJ6_bitCount_0f7a4 36 = .ok (.bipush 8, 2) := by decide +kernel
theorem dJ6_bitCount_0f7a4_38 : decode cJ6_bitCount_0f7a4 38 = .ok (.iushr, 1) := by decide +kernel
theorem dJ6_bitCount_0f7a4_39 : decode cJ6_bitCount_0f7a4 39 = .ok (.iadd, 1) := by decide +kernel
theorem dJ6_bitCount_0f7a4_40 : decode cJ6_bitCount_0f7a4 40 = .ok (.istore_n 0, 1) := by decide +kernel
theorem dJ6_bitCount_0f7a4_41 : decode cJ6_bitCount_0f7a4 41 = .ok (.iload_n 0, 1) := by decide +kernel
theorem dJ6_bitCount_0f7a4_42 : decode cJ6_bitCount_0f7a4 42 = .ok (.iload_n 0, 1) := by decide +kernel
theorem dJ6_bitCount_0f7a4_43 : decode cJ6_bitCount_0f7a4 43 = .ok (.bipush 16, 2) := by decide +kernel
theorem dJ6_bitCount_0f7a4_45 : decode cJ6_bitCount_0f7a4 45 = .ok (.iushr, 1) := by decide +kernel
theorem dJ6_bitCount_0f7a4_46 : decode cJ6_bitCount_0f7a4 46 = .ok (.iadd, 1) := by decide +kernel
theorem dJ6_bitCount_0f7a4_47 : decode cJ6_bitCount_0f7a4 47 = .ok (.istore_n 0, 1) := by decide +kernel
theorem dJ6_bitCount_0f7a4_48 : decode cJ6_bitCount_0f7a4 48 = .ok (.iload_n 0, 1) := by decide +kernel
theorem dJ6_bitCount_0f7a4_49 : decode cJ6_bitCount_0f7a4 49 = .ok (.bipush 63, 2) := by decide +kernel
theorem dJ6_bitCount_0f7a4_51 : decode cJ6_bitCount_0f7a4 51 = .ok (.iand, 1) := by decide +kernel
theorem dJ6_bitCount_0f7a4_52 : decode cJ6_bitCount_0f7a4 52 = .ok (.ireturn, 1) := by decide +kernel
theorem dJ9_max_7cf53_0 : decode cJ9_max_7cf53 0 = .ok (.iload_n 0, 1) := by decide +kernel
theorem dJ9_max_7cf53_1 : decode cJ9_max_7cf53 1 = .ok (.iload_n 1, 1) := by decide +kernel
theorem dJ9_max_7cf53_2 : decode cJ9_max_7cf53 2 = .ok (.if_icmp .lt 7, 3) := by decide +kernel
theorem dJ9_max_7cf53_5 : decode cJ9_max_7cf53 5 = .ok (.iload_n 0, 1) := by decide +kernel
theorem dJ9_max_7cf53_6 : decode cJ9_max_7cf53 6 = .ok (.goto 4, 3) := by decide +kernel
theorem dJ9_max_7cf53_9 : decode cJ9_max_7cf53 9 = .ok (.iload_n 1, 1) := by decide +kernel
theorem dJ9_max_7cf53_10 : decode cJ9_max_7cf53 10 = .ok (.ireturn, 1) := by decide +kernel
end
section
theorem dX6_init_0 : decode cX6_init 0 = .ok (.aload_n 0, 1) := by decide +kernel
theorem dX6_init_1 : decode cX6_init 1 = .ok (.invokespecial 3, 3) := by decide +kernel
theorem dX6_init_4 : decode cX6_init 4 = .ok (.aload_n 0, 1) := by decide +kernel
theorem dX6_init_5 : decode cX6_init 5 = .ok (.bipush 75, 2) := by decide +kernel
theorem dX6_init_7 : decode cX6_init 7 = .ok (.newarray .int, 2) := by decide +kernel
theorem dX6_init_9 : decode cX6_init 9 = .ok (.putfield 9, 3) := by decide +kernel
theorem dX6_init_12 : decode cX6_init 12 = .ok (.aload_n 0, 1) := by decide +kernel
theorem dX6_init_13 : decode cX6_init 13 = .ok (.bipush 15, 2) := by decide +kernel
theorem dX6_init_15 : decode cX6_init 15 = .ok (.newarray .int, 2) := by decide +kernel
theorem dX6_init_17 : decode cX6_init 17 = .ok (.putfield 13, 3) := by decide +kernel
theorem dX6_init_20 : decode cX6_init 20 = .ok (.aload_n 0, 1) := by decide +kernel
theorem dX6_init_21 : decode cX6_init 21 = .ok (.sipush 26624, 3) := by decide +kernel
theorem dX6_init_24 : decode cX6_init 24 = .ok (.newarray .int, 2) := by decide +kernel
theorem dX6_init_26 : decode cX6_init 26 = .ok (.putfield 16, 3) := by decide +kernel
theorem dX6_init_29 : decode cX6_init 29 = .ok (.aload_n 0, 1) := by decide +kernel
theorem dX6_init_30 : decode cX6_init 30 = .ok (.sipush 26624, 3) := by decide +kernel
theorem dX6_init_33 : decode cX6_init 33 = .ok (.newarray .int, 2) := by decide +kernel
theorem dX6_init_35 : decode cX6_init 35 = .ok (.putfield 19, 3) := by decide +kernel
theorem dX6_init_38 : decode cX6_init 38 = .ok (.aload_n 0, 1) := by decide +kernel
theorem dX6_init_39 : decode cX6_init 39 = .ok (.bipush 36, 2) := by decide +kernel
theorem dX6_init_41 : decode cX6_init 41 = .ok (.newarray .int, 2) := by decide +kernel
theorem dX6_init_43 : decode cX6_init 43 = .ok (.putfield 22, 3) := by decide +kernel
theorem dX6_init_46 : decode cX6_init 46 = .ok (.aload_n 0, 1) := by decide +kernel
theorem dX6_init_47 : decode cX6_init 47 = .ok (.bipush 15, 2) := by decide +kernel
theorem dX6_init_49 : decode cX6_init 49 = .ok (.newarray .int, 2) := by decide +kernel
theorem dX6_init_51 : decode cX6_init 51 = .ok (.putfield 25, 3) := by decide +kernel
theorem dX6_init_54 : decode cX6_init 54 = .ok (.aload_n 0, 1) := by decide +kernel
theorem dX6_init_55 : decode cX6_init 55 = .ok (.bipush 15, 2) := by decide +kernel
theorem dX6_init_57 : decode cX6_init 57 = .ok (.newarray .int, 2) := by decide +kernel
theorem dX6_init_59 : decode cX6_init 59 = .ok (.putfield 28, 3) := by decide +kernel
theorem dX6_init_62 : decode cX6_init 62 = .ok (.return_, 1) := by decide +kernel
theorem dX6_in_0 : decode cX6_in 0 = .ok (.iload_n 0, 1) := by decide +kernel
theorem dX6_in_1 : decode cX6_in 1 = .ok (.iload_n 1, 1) := by decide +kernel
theorem dX6_in_2 : decode cX6_in 2 = .ok (.if_icmp .lt 12, 3) := by decide +kernel
theorem dX6_in_5 : decode cX6_in 5 = .ok (.iload_n 0, 1) := by decide +kernel
theorem dX6_in_6 : decode cX6_in 6 = .ok (.iload_n 2, 1) := by decide +kernel
theorem dX6_in_7 : decode cX6_in 7 = .ok (.if_icmp .gt 7, 3) := by decide +kernel
theorem dX6_in_10 : decode cX6_in 10 = .ok (.iconst 1, 1) := by decide +kernel
theorem dX6_in_11 : decode cX6_in 11 = .ok (.goto 4, 3) := by decide +kernel
theorem dX6_in_14 : decode cX6_in 14 = .ok (.iconst 0, 1) := by decide +kernel
theorem dX6_in_15 : decode cX6_in 15 = .ok (.ireturn, 1) := by decide +kernel
theorem dX6_signAt_0 : decode cX6_signAt 0 = .ok (.aload_n 0, 1) := by decide +kernel
theorem dX6_signAt_1 : decode cX6_signAt 1 = .ok (.getfield 9, 3) := by decide +kernel
theorem dX6_signAt_4 : decode cX6_signAt 4 = .ok (.iconst 5, 1) := by decide +kernel
theorem dX6_signAt_5 : decode cX6_signAt 5 = .ok (.iload_n 1, 1) := by decide +kernel
theorem dX6_signAt_6 : decode cX6_signAt 6 = .ok (.imul, 1) := by decide +kernel
theorem dX6_signAt_7 : decode cX6_signAt 7 = .ok (.iload_n 2, 1) := by decide +kernel
theorem dX6_signAt_8 : decode cX6_signAt 8 = .ok (.iadd, 1) := by decide +kernel
theorem dX6_signAt_9 : decode cX6_signAt 9 = .ok (.iaload, 1) := by decide +kernel
theorem dX6_signAt_10 : decode cX6_signAt 10 = .ok (.ireturn, 1) := by decide +kernel
theorem dX6_isWho_0 : decode cX6_isWho 0 = .ok (.iload_n 0, 1) := by decide +kernel
theorem dX6_isWho_1 : decode cX6_isWho 1 = .ok (.iconst 0, 1) := by decide +kernel
theorem dX6_isWho_2 : decode cX6_isWho 2 = .ok (.bipush 7, 2) := by decide +kernel
theorem dX6_isWho_4 : decode cX6_isWho 4 = .ok (.invokestatic 31, 3) := by decide +kernel
theorem dX6_isWho_7 : decode cX6_isWho 7 = .ok (.ifCond .ne 15, 3) := by decide +kernel
theorem dX6_isWho_10 : decode cX6_isWho 10 = .ok (.iload_n 0, 1) := by decide +kernel
theorem dX6_isWho_11 : decode cX6_isWho 11 = .ok (.bipush 40, 2) := by decide +kernel
theorem dX6_isWho_13 : decode cX6_isWho 13 = .ok (.if_icmp .eq 9, 3) := by decide +kernel
theorem dX6_isWho_16 : decode cX6_isWho 16 = .ok (.iload_n 0, 1) := by decide +kernel
theorem dX6_isWho_17 : decode cX6_isWho 17 = .ok (.bipush 41, 2) := by decide +kernel
theorem dX6_isWho_19 : decode cX6_isWho 19 = .ok (.if_icmp .ne 7, 3) := by decide +kernel
theorem dX6_isWho_22 : decode cX6_isWho 22 = .ok (.iconst 1, 1) := by decide +kernel
theorem dX6_isWho_23 : decode cX6_isWho 23 = .ok (.goto 4, 3) := by decide +kernel
theorem dX6_isWho_26 : decode cX6_isWho 26 = .ok (.iconst 0, 1) := by decide +kernel
theorem dX6_isWho_27 : decode cX6_isWho 27 = .ok (.ireturn, 1) := by decide +kernel
theorem dX6_canStand_0 : decode cX6_canStand 0 = .ok (.aload_n 0, 1) := by decide +kernel
theorem dX6_canStand_1 : decode cX6_canStand 1 = .ok (.getfield 13, 3) := by decide +kernel
theorem dX6_canStand_4 : decode cX6_canStand 4 = .ok (.aload_n 0, 1) := by decide +kernel
theorem dX6_canStand_5 : decode cX6_canStand 5 = .ok (.getfield 35, 3) := by decide +kernel
theorem dX6_canStand_8 : decode cX6_canStand 8 = .ok (.iaload, 1) := by decide +kernel
theorem dX6_canStand_9 : decode cX6_canStand 9 = .ok (.istore_n 2, 1) := by decide +kernel
theorem dX6_canStand_10 : decode cX6_canStand 10 = .ok (.iload_n 2, 1) := by decide +kernel
theorem dX6_canStand_11 : decode cX6_canStand 11 = .ok (.iconst 1, 1) := by decide +kernel
theorem dX6_canStand_12 : decode cX6_canStand 12 = .ok (.if_icmp .le 15, 3) := by decide +kernel
theorem dX6_canStand_15 : decode cX6_canStand 15 = .ok (.aload_n 0, 1) := by decide +kernel
theorem dX6_canStand_16 : decode cX6_canStand 16 = .ok (.aload_n 0, 1) := by decide +kernel
theorem dX6_canStand_17 : decode cX6_canStand 17 = .ok (.getfield 35, 3) := by decide +kernel
theorem dX6_canStand_20 : decode cX6_canStand 20 = .ok (.iconst 1, 1) := by decide +kernel
theorem dX6_canStand_21 : decode cX6_canStand 21 = .ok (.invokevirtual 39, 3) := by decide +kernel
theorem dX6_canStand_24 : decode cX6_canStand 24 = .ok (.goto 4, 3) := by decide +kernel
theorem dX6_canStand_27 : decode cX6_canStand 27 = .ok (.iconst 0, 1) := by decide +kernel
theorem dX6_canStand_28 : decode cX6_canStand 28 = .ok (.istore_n 3, 1) := by decide +kernel
theorem dX6_canStand_29 : decode cX6_canStand 29 = .ok (.iload_n 2, 1) := by decide +kernel
theorem dX6_canStand_30 : decode cX6_canStand 30 = .ok (.tableswitch 95 0 3 #[30, 35, 44, 70], 30) := by decide +kernel
theorem dX6_canStand_60 : decode cX6_canStand 60 = .ok (.iload_n 1, 1) := by decide +kernel
theorem dX6_canStand_61 : decode cX6_canStand 61 = .ok (.invokestatic 43, 3) := by decide +kernel
theorem dX6_canStand_64 : decode cX6_canStand 64 = .ok (.ireturn, 1) := by decide +kernel
theorem dX6_canStand_65 : decode cX6_canStand 65 = .ok (.iload_n 1, 1) := by decide +kernel
theorem dX6_canStand_66 : decode cX6_canStand 66 = .ok (.bipush 30, 2) := by decide +kernel
theorem dX6_canStand_68 : decode cX6_canStand 68 = .ok (.bipush 33, 2) := by decide +kernel
theorem dX6_canStand_70 : decode cX6_canStand 70 = .ok (.invokestatic 31, 3) := by decide +kernel
theorem dX6_canStand_73 : decode cX6_canStand 73 = .ok (.ireturn, 1) := by decide +kernel
theorem dX6_canStand_74 : decode cX6_canStand 74 = .ok (.iload_n 3, 1) := by decide +kernel
theorem dX6_canStand_75 : decode cX6_canStand 75 = .ok (.bipush 30, 2) := by decide +kernel
theorem dX6_canStand_77 : decode cX6_canStand 77 = .ok (.if_icmp .ne 14, 3) := by decide +kernel
theorem dX6_canStand_80 : decode cX6_canStand 80 = .ok (.iload_n 1, 1) := by decide +kernel
theorem dX6_canStand_81 : decode cX6_canStand 81 = .ok (.bipush 20, 2) := by decide +kernel
theorem dX6_canStand_83 : decode cX6_canStand 83 = .ok (.bipush 27, 2) := by decide +kernel
theorem dX6_canStand_85 : decode cX6_canStand 85 = .ok (.invokestatic 31, 3) := by decide +kernel
theorem dX6_canStand_88 : decode cX6_canStand 88 = .ok (.goto 11, 3) := by decide +kernel
theorem dX6_canStand_91 : decode cX6_canStand 91 = .ok (.iload_n 1, 1) := by decide +kernel
theorem dX6_canStand_92 : decode cX6_canStand 92 = .ok (.bipush 10, 2) := by decide +kernel
theorem dX6_canStand_94 : decode cX6_canStand 94 = .ok (.bipush 19, 2) := by decide +kernel
theorem dX6_canStand_96 : decode cX6_canStand 96 = .ok (.invokestatic 31, 3) := by decide +kernel
theorem dX6_canStand_99 : decode cX6_canStand 99 = .ok (.ireturn, 1) := by decide +kernel
theorem dX6_canStand_100 : decode cX6_canStand 100 = .ok (.iload_n 3, 1) := by decide +kernel
theorem dX6_canStand_101 : decode cX6_canStand 101 = .ok (.bipush 33, 2) := by decide +kernel
theorem dX6_canStand_103 : decode cX6_canStand 103 = .ok (.if_icmp .ne 10, 3) := by decide +kernel
theorem dX6_canStand_106 : decode cX6_canStand 106 = .ok (.iload_n 1, 1) := by decide +kernel
theorem dX6_canStand_107 : decode cX6_canStand 107 = .ok (.invokestatic 43, 3) := by decide +kernel
theorem dX6_canStand_110 : decode cX6_canStand 110 = .ok (.goto 14, 3) := by decide +kernel
theorem dX6_canStand_113 : decode cX6_canStand 113 = .ok (.iload_n 1, 1) := by decide +kernel
theorem dX6_canStand_114 : decode cX6_canStand 114 = .ok (.bipush 50, 2) := by decide +kernel
theorem dX6_canStand_116 : decode cX6_canStand 116 = .ok (.if_icmp .ne 7, 3) := by decide +kernel
theorem dX6_canStand_119 : decode cX6_canStand 119 = .ok (.iconst 1, 1) := by decide +kernel
theorem dX6_canStand_120 : decode cX6_canStand 120 = .ok (.goto 4, 3) := by decide +kernel
theorem dX6_canStand_123 : decode cX6_canStand 123 = .ok (.iconst 0, 1) := by decide +kernel
theorem dX6_canStand_124 : decode cX6_canStand 124 = .ok (.ireturn, 1) := by decide +kernel
theorem dX6_canStand_125 : decode cX6_canStand 125 = .ok (.iload_n 1, 1) := by decide +kernel
theorem dX6_canStand_126 : decode cX6_canStand 126 = .ok (.bipush 50, 2) := by decide +kernel
theorem dX6_canStand_128 : decode cX6_canStand 128 = .ok (.if_icmp .ne 7, 3) := by decide +kernel
theorem dX6_canStand_131 : decode cX6_canStand 131 = .ok (.iconst 1, 1) := by decide +kernel
theorem dX6_canStand_132 : decode cX6_canStand 132 = .ok (.goto 4, 3) := by decide +kernel
theorem dX6_canStand_135 : decode cX6_canStand 135 = .ok (.iconst 0, 1) := by decide +kernel
theorem dX6_canStand_136 : decode cX6_canStand 136 = .ok (.ireturn, 1) := by decide +kernel
theorem dX6_sign_0 : decode cX6_sign 0 = .ok (.aload_n 0, 1) := by decide +kernel
theorem dX6_sign_1 : decode cX6_sign 1 = .ok (.getfield 35, 3) := by decide +kernel
theorem dX6_sign_4 : decode cX6_sign 4 = .ok (.bipush 14, 2) := by decide +kernel
theorem dX6_sign_6 : decode cX6_sign 6 = .ok (.if_icmp .eq 11, 3) := by decide +kernel
theorem dX6_sign_9 : decode cX6_sign 9 = .ok (.aload_n 0, 1) := by decide +kernel
theorem dX6_sign_10 : decode cX6_sign 10 = .ok (.iload_n 1, 1) := by decide +kernel
theorem dX6_sign_11 : decode cX6_sign 11 = .ok (.invokevirtual 47, 3) := by decide +kernel
theorem dX6_sign_14 : decode cX6_sign 14 = .ok (.ifCond .ne 5, 3) := by decide +kernel
theorem dX6_sign_17 : decode cX6_sign 17 = .ok (.iconst 0, 1) := by decide +kernel
theorem dX6_sign_18 : decode cX6_sign 18 = .ok (.ireturn, 1) := by decide +kernel
theorem dX6_sign_19 : decode cX6_sign 19 = .ok (.aload_n 0, 1) := by decide +kernel
theorem dX6_sign_20 : decode cX6_sign 20 = .ok (.getfield 9, 3) := by decide +kernel
theorem dX6_sign_23 : decode cX6_sign 23 = .ok (.iconst 5, 1) := by decide +kernel
theorem dX6_sign_24 : decode cX6_sign 24 = .ok (.aload_n 0, 1) := by decide +kernel
theorem dX6_sign_25 : decode cX6_sign 25 = .ok (.getfield 35, 3) := by decide +kernel
theorem dX6_sign_28 : decode cX6_sign 28 = .ok (.imul, 1) := by decide +kernel
theorem dX6_sign_29 : decode cX6_sign 29 = .ok (.aload_n 0, 1) := by decide +kernel
theorem dX6_sign_30 : decode cX6_sign 30 = .ok (.getfield 13, 3) := by decide +kernel
theorem dX6_sign_33 : decode cX6_sign 33 = .ok (.aload_n 0, 1) := by decide +kernel
theorem dX6_sign_34 : decode cX6_sign 34 = .ok (.getfield 35, 3) := by decide +kernel
theorem dX6_sign_37 : decode cX6_sign 37 = .ok (.iaload, 1) := by decide +kernel
theorem dX6_sign_38 : decode cX6_sign 38 = .ok (.iadd, 1) := by decide +kernel
theorem dX6_sign_39 : decode cX6_sign 39 = .ok (.iload_n 1, 1) := by decide +kernel
theorem dX6_sign_40 : decode cX6_sign 40 = .ok (.iastore, 1) := by decide +kernel
theorem dX6_sign_41 : decode cX6_sign 41 = .ok (.aload_n 0, 1) := by decide +kernel
theorem dX6_sign_42 : decode cX6_sign 42 = .ok (.getfield 13, 3) := by decide +kernel
theorem dX6_sign_45 : decode cX6_sign 45 = .ok (.aload_n 0, 1) := by decide +kernel
theorem dX6_sign_46 : decode cX6_sign 46 = .ok (.getfield 35, 3) := by decide +kernel
theorem dX6_sign_49 : decode cX6_sign 49 = .ok (.dup2, 1) := by decide +kernel
theorem dX6_sign_50 : decode cX6_sign 50 = .ok (.iaload, 1) := by decide +kernel
theorem dX6_sign_51 : decode cX6_sign 51 = .ok (.iconst 1, 1) := by decide +kernel
theorem dX6_sign_52 : decode cX6_sign 52 = .ok (.iadd, 1) := by decide +kernel
theorem dX6_sign_53 : decode cX6_sign 53 = .ok (.iastore, 1) := by decide +kernel
theorem dX6_sign_54 : decode cX6_sign 54 = .ok (.iload_n 1, 1) := by decide +kernel
theorem dX6_sign_55 : decode cX6_sign 55 = .ok (.bipush 50, 2) := by decide +kernel
theorem dX6_sign_57 : decode cX6_sign 57 = .ok (.if_icmp .eq 5, 3) := by decide +kernel
theorem dX6_sign_60 : decode cX6_sign 60 = .ok (.iconst 1, 1) := by decide +kernel
theorem dX6_sign_61 : decode cX6_sign 61 = .ok (.ireturn, 1) := by decide +kernel
theorem dX6_sign_62 : decode cX6_sign 62 = .ok (.aload_n 0, 1) := by decide +kernel
theorem dX6_sign_63 : decode cX6_sign 63 = .ok (.dup, 1) := by decide +kernel
theorem dX6_sign_64 : decode cX6_sign 64 = .ok (.getfield 35, 3) := by decide +kernel
theorem dX6_sign_67 : decode cX6_sign 67 = .ok (.iconst 1, 1) := by decide +kernel
theorem dX6_sign_68 : decode cX6_sign 68 = .ok (.iadd, 1) := by decide +kernel
theorem dX6_sign_69 : decode cX6_sign 69 = .ok (.putfield 35, 3) := by decide +kernel
theorem dX6_sign_72 : decode cX6_sign 72 = .ok (.aload_n 0, 1) := by decide +kernel
theorem dX6_sign_73 : decode cX6_sign 73 = .ok (.aload_n 0, 1) := by decide +kernel
theorem dX6_sign_74 : decode cX6_sign 74 = .ok (.getfield 35, 3) := by decide +kernel
theorem dX6_sign_77 : decode cX6_sign 77 = .ok (.invokevirtual 50, 3) := by decide +kernel
theorem dX6_sign_80 : decode cX6_sign 80 = .ok (.aload_n 0, 1) := by decide +kernel
theorem dX6_sign_81 : decode cX6_sign 81 = .ok (.getfield 54, 3) := by decide +kernel
theorem dX6_sign_84 : decode cX6_sign 84 = .ok (.iconst 1, 1) := by decide +kernel
theorem dX6_sign_85 : decode cX6_sign 85 = .ok (.bipush 64, 2) := by decide +kernel
theorem dX6_sign_87 : decode cX6_sign 87 = .ok (.invokestatic 31, 3) := by decide +kernel
theorem dX6_sign_90 : decode cX6_sign 90 = .ok (.ifCond .eq 24, 3) := by decide +kernel
theorem dX6_sign_93 : decode cX6_sign 93 = .ok (.aload_n 0, 1) := by decide +kernel
theorem dX6_sign_94 : decode cX6_sign 94 = .ok (.getfield 35, 3) := by decide +kernel
theorem dX6_sign_97 : decode cX6_sign 97 = .ok (.bipush 14, 2) := by decide +kernel
theorem dX6_sign_99 : decode cX6_sign 99 = .ok (.if_icmp .ge 13, 3) := by decide +kernel
theorem dX6_sign_102 : decode cX6_sign 102 = .ok (.aload_n 0, 1) := by decide +kernel
theorem dX6_sign_103 : decode cX6_sign 103 = .ok (.getfield 13, 3) := by decide +kernel
theorem dX6_sign_106 : decode cX6_sign 106 = .ok (.aload_n 0, 1) := by decide +kernel
theorem dX6_sign_107 : decode cX6_sign 107 = .ok (.getfield 35, 3) := by decide +kernel
theorem dX6_sign_110 : decode cX6_sign 110 = .ok (.iconst 0, 1) := by decide +kernel
theorem dX6_sign_111 : decode cX6_sign 111 = .ok (.iastore, 1) := by decide +kernel
theorem dX6_sign_112 : decode cX6_sign 112 = .ok (.iconst 1, 1) := by decide +kernel
theorem dX6_sign_113 : decode cX6_sign 113 = .ok (.ireturn, 1) := by decide +kernel
theorem dX6_sign_114 : decode cX6_sign 114 = .ok (.aload_n 0, 1) := by decide +kernel
theorem dX6_sign_115 : decode cX6_sign 115 = .ok (.dup, 1) := by decide +kernel
theorem dX6_sign_116 : decode cX6_sign 116 = .ok (.getfield 35, 3) := by decide +kernel
theorem dX6_sign_119 : decode cX6_sign 119 = .ok (.iconst 1, 1) := by decide +kernel
theorem dX6_sign_120 : decode cX6_sign 120 = .ok (.isub, 1) := by decide +kernel
theorem dX6_sign_121 : decode cX6_sign 121 = .ok (.putfield 35, 3) := by decide +kernel
theorem dX6_sign_124 : decode cX6_sign 124 = .ok (.aload_n 0, 1) := by decide +kernel
theorem dX6_sign_125 : decode cX6_sign 125 = .ok (.getfield 13, 3) := by decide +kernel
theorem dX6_sign_128 : decode cX6_sign 128 = .ok (.aload_n 0, 1) := by decide +kernel
theorem dX6_sign_129 : decode cX6_sign 129 = .ok (.getfield 35, 3) := by decide +kernel
theorem dX6_sign_132 : decode cX6_sign 132 = .ok (.iconst 0, 1) := by decide +kernel
theorem dX6_sign_133 : decode cX6_sign 133 = .ok (.iastore, 1) := by decide +kernel
theorem dX6_sign_134 : decode cX6_sign 134 = .ok (.iconst 0, 1) := by decide +kernel
theorem dX6_sign_135 : decode cX6_sign 135 = .ok (.ireturn, 1) := by decide +kernel
theorem dX6_back_0 : decode cX6_back 0 = .ok (.aload_n 0, 1) := by decide +kernel
theorem dX6_back_1 : decode cX6_back 1 = .ok (.getfield 35, 3) := by decide +kernel
theorem dX6_back_4 : decode cX6_back 4 = .ok (.bipush 14, 2) := by decide +kernel
theorem dX6_back_6 : decode cX6_back 6 = .ok (.if_icmp .ge 27, 3) := by decide +kernel
theorem dX6_back_9 : decode cX6_back 9 = .ok (.aload_n 0, 1) := by decide +kernel
theorem dX6_back_10 : decode cX6_back 10 = .ok (.getfield 13, 3) := by decide +kernel
theorem dX6_back_13 : decode cX6_back 13 = .ok (.aload_n 0, 1) := by decide +kernel
theorem dX6_back_14 : decode cX6_back 14 = .ok (.getfield 35, 3) := by decide +kernel
theorem dX6_back_17 : decode cX6_back 17 = .ok (.iaload, 1) := by decide +kernel
theorem dX6_back_18 : decode cX6_back 18 = .ok (.ifCond .le 15, 3) := by decide +kernel
theorem dX6_back_21 : decode cX6_back 21 = .ok (.aload_n 0, 1) := by decide +kernel
theorem dX6_back_22 : decode cX6_back 22 = .ok (.getfield 13, 3) := by decide +kernel
theorem dX6_back_25 : decode cX6_back 25 = .ok (.aload_n 0, 1) := by decide +kernel
theorem dX6_back_26 : decode cX6_back 26 = .ok (.getfield 35, 3) := by decide +kernel
theorem dX6_back_29 : decode cX6_back 29 = .ok (.iconst 0, 1) := by decide +kernel
theorem dX6_back_30 : decode cX6_back 30 = .ok (.iastore, 1) := by decide +kernel
theorem dX6_back_31 : decode cX6_back 31 = .ok (.iconst 1, 1) := by decide +kernel
theorem dX6_back_32 : decode cX6_back 32 = .ok (.ireturn, 1) := by decide +kernel
theorem dX6_back_33 : decode cX6_back 33 = .ok (.aload_n 0, 1) := by decide +kernel
theorem dX6_back_34 : decode cX6_back 34 = .ok (.getfield 35, 3) := by decide +kernel
theorem dX6_back_37 : decode cX6_back 37 = .ok (.ifCond .ne 5, 3) := by decide +kernel
theorem dX6_back_40 : decode cX6_back 40 = .ok (.iconst 0, 1) := by decide +kernel
theorem dX6_back_41 : decode cX6_back 41 = .ok (.ireturn, 1) := by decide +kernel
theorem dX6_back_42 : decode cX6_back 42 = .ok (.aload_n 0, 1) := by decide +kernel
theorem dX6_back_43 : decode cX6_back 43 = .ok (.dup, 1) := by decide +kernel
theorem dX6_back_44 : decode cX6_back 44 = .ok (.getfield 35, 3) := by decide +kernel
theorem dX6_back_47 : decode cX6_back 47 = .ok (.iconst 1, 1) := by decide +kernel
theorem dX6_back_48 : decode cX6_back 48 = .ok (.isub, 1) := by decide +kernel
theorem dX6_back_49 : decode cX6_back 49 = .ok (.putfield 35, 3) := by decide +kernel
theorem dX6_back_52 : decode cX6_back 52 = .ok (.aload_n 0, 1) := by decide +kernel
theorem dX6_back_53 : decode cX6_back 53 = .ok (.getfield 13, 3) := by decide +kernel
theorem dX6_back_56 : decode cX6_back 56 = .ok (.aload_n 0, 1) := by decide +kernel
theorem dX6_back_57 : decode cX6_back 57 = .ok (.getfield 35, 3) := by decide +kernel
theorem dX6_back_60 : decode cX6_back 60 = .ok (.iconst 0, 1) := by decide +kernel
theorem dX6_back_61 : decode cX6_back 61 = .ok (.iastore, 1) := by decide +kernel
theorem dX6_back_62 : decode cX6_back 62 = .ok (.iconst 1, 1) := by decide +kernel
theorem dX6_back_63 : decode cX6_back 63 = .ok (.ireturn, 1) := by decide +kernel
theorem dX6_told_0 : decode cX6_told 0 = .ok (.iload_n 1, 1) := by decide +kernel
theorem dX6_told_1 : decode cX6_told 1 = .ok (.iconst 0, 1) := by decide +kernel
theorem dX6_told_2 : decode cX6_told 2 = .ok (.aload_n 0, 1) := by decide +kernel
theorem dX6_told_3 : decode cX6_told 3 = .ok (.getfield 35, 3) := by decide +kernel
theorem dX6_told_6 : decode cX6_told 6 = .ok (.bipush 14, 2) := by decide +kernel
theorem dX6_told_8 : decode cX6_told 8 = .ok (.if_icmp .ge 10, 3) := by decide +kernel
theorem dX6_told_11 : decode cX6_told 11 = .ok (.aload_n 0, 1) := by decide +kernel
theorem dX6_told_12 : decode cX6_told 12 = .ok (.getfield 35, 3) := by decide +kernel
theorem dX6_told_15 : decode cX6_told 15 = .ok (.goto 5, 3) := by decide +kernel
theorem dX6_told_18 : decode cX6_told 18 = .ok (.bipush 13, 2) := by decide +kernel
theorem dX6_told_20 : decode cX6_told 20 = .ok (.invokestatic 31, 3) := by decide +kernel
theorem dX6_told_23 : decode cX6_told 23 = .ok (.ifCond .eq 28, 3) := by decide +kernel
theorem dX6_told_26 : decode cX6_told 26 = .ok (.iload_n 2, 1) := by decide +kernel
theorem dX6_told_27 : decode cX6_told 27 = .ok (.iconst 0, 1) := by decide +kernel
theorem dX6_told_28 : decode cX6_told 28 = .ok (.aload_n 0, 1) := by decide +kernel
theorem dX6_told_29 : decode cX6_told 29 = .ok (.getfield 13, 3) := by decide +kernel
theorem dX6_told_32 : decode cX6_told 32 = .ok (.iload_n 1, 1) := by decide +kernel
theorem dX6_told_33 : decode cX6_told 33 = .ok (.iaload, 1) := by decide +kernel
theorem dX6_told_34 : decode cX6_told 34 = .ok (.iconst 1, 1) := by decide +kernel
theorem dX6_told_35 : decode cX6_told 35 = .ok (.isub, 1) := by decide +kernel
theorem dX6_told_36 : decode cX6_told 36 = .ok (.invokestatic 31, 3) := by decide +kernel
theorem dX6_told_39 : decode cX6_told 39 = .ok (.ifCond .eq 12, 3) := by decide +kernel
theorem dX6_told_42 : decode cX6_told 42 = .ok (.aload_n 0, 1) := by decide +kernel
theorem dX6_told_43 : decode cX6_told 43 = .ok (.iload_n 1, 1) := by decide +kernel
theorem dX6_told_44 : decode cX6_told 44 = .ok (.iload_n 2, 1) := by decide +kernel
theorem dX6_told_45 : decode cX6_told 45 = .ok (.invokevirtual 39, 3) := by decide +kernel
theorem dX6_told_48 : decode cX6_told 48 = .ok (.goto 4, 3) := by decide +kernel
theorem dX6_told_51 : decode cX6_told 51 = .ok (.iconst (-1), 1) := by decide +kernel
theorem dX6_told_52 : decode cX6_told 52 = .ok (.ireturn, 1) := by decide +kernel
theorem dX6_names_0 : decode cX6_names 0 = .ok (.aload_n 0, 1) := by decide +kernel
theorem dX6_names_1 : decode cX6_names 1 = .ok (.iload_n 1, 1) := by decide +kernel
theorem dX6_names_2 : decode cX6_names 2 = .ok (.iconst 0, 1) := by decide +kernel
theorem dX6_names_3 : decode cX6_names 3 = .ok (.invokevirtual 39, 3) := by decide +kernel
theorem dX6_names_6 : decode cX6_names 6 = .ok (.iload_n 2, 1) := by decide +kernel
theorem dX6_names_7 : decode cX6_names 7 = .ok (.if_icmp .eq 24, 3) := by decide +kernel
theorem dX6_names_10 : decode cX6_names 10 = .ok (.aload_n 0, 1) := by decide +kernel
theorem dX6_names_11 : decode cX6_names 11 = .ok (.iload_n 1, 1) := by decide +kernel
theorem dX6_names_12 : decode cX6_names 12 = .ok (.iconst 1, 1) := by decide +kernel
theorem dX6_names_13 : decode cX6_names 13 = .ok (.invokevirtual 39, 3) := by decide +kernel
theorem dX6_names_16 : decode cX6_names 16 = .ok (.bipush 33, 2) := by decide +kernel
theorem dX6_names_18 : decode cX6_names 18 = .ok (.if_icmp .ne 17, 3) := by decide +kernel
theorem dX6_names_21 : decode cX6_names 21 = .ok (.aload_n 0, 1) := by decide +kernel
theorem dX6_names_22 : decode cX6_names 22 = .ok (.iload_n 1, 1) := by decide +kernel
theorem dX6_names_23 : decode cX6_names 23 = .ok (.iconst 3, 1) := by decide +kernel
theorem dX6_names_24 : decode cX6_names 24 = .ok (.invokevirtual 39, 3) := by decide +kernel
theorem dX6_names_27 : decode cX6_names 27 = .ok (.iload_n 2, 1) := by decide +kernel
theorem dX6_names_28 : decode cX6_names 28 = .ok (.if_icmp .ne 7, 3) := by decide +kernel
theorem dX6_names_31 : decode cX6_names 31 = .ok (.iconst 1, 1) := by decide +kernel
theorem dX6_names_32 : decode cX6_names 32 = .ok (.goto 4, 3) := by decide +kernel
theorem dX6_names_35 : decode cX6_names 35 = .ok (.iconst 0, 1) := by decide +kernel
theorem dX6_names_36 : decode cX6_names 36 = .ok (.ireturn, 1) := by decide +kernel
theorem dX6_mayMean_0 : decode cX6_mayMean 0 = .ok (.iload_n 1, 1) := by decide +kernel
theorem dX6_mayMean_1 : decode cX6_mayMean 1 = .ok (.bipush 8, 2) := by decide +kernel
theorem dX6_mayMean_3 : decode cX6_mayMean 3 = .ok (.if_icmp .ge 14, 3) := by decide +kernel
theorem dX6_mayMean_6 : decode cX6_mayMean 6 = .ok (.iload_n 1, 1) := by decide +kernel
theorem dX6_mayMean_7 : decode cX6_mayMean 7 = .ok (.iload_n 3, 1) := by decide +kernel
theorem dX6_mayMean_8 : decode cX6_mayMean 8 = .ok (.if_icmp .ne 7, 3) := by decide +kernel
theorem dX6_mayMean_11 : decode cX6_mayMean 11 = .ok (.iconst 1, 1) := by decide +kernel
theorem dX6_mayMean_12 : decode cX6_mayMean 12 = .ok (.goto 4, 3) := by decide +kernel
theorem dX6_mayMean_15 : decode cX6_mayMean 15 = .ok (.iconst 0, 1) := by decide +kernel
theorem dX6_mayMean_16 : decode cX6_mayMean 16 = .ok (.ireturn, 1) := by decide +kernel
theorem dX6_mayMean_17 : decode cX6_mayMean 17 = .ok (.iload_n 3, 1) := by decide +kernel
theorem dX6_mayMean_18 : decode cX6_mayMean 18 = .ok (.iconst 2, 1) := by decide +kernel
theorem dX6_mayMean_19 : decode cX6_mayMean 19 = .ok (.irem, 1) := by decide +kernel
theorem dX6_mayMean_20 : decode cX6_mayMean 20 = .ok (.iload_n 1, 1) := by decide +kernel
theorem dX6_mayMean_21 : decode cX6_mayMean 21 = .ok (.bipush 40, 2) := by decide +kernel
theorem dX6_mayMean_23 : decode cX6_mayMean 23 = .ok (.isub, 1) := by decide +kernel
theorem dX6_mayMean_24 : decode cX6_mayMean 24 = .ok (.if_icmp .eq 5, 3) := by decide +kernel
theorem dX6_mayMean_27 : decode cX6_mayMean 27 = .ok (.iconst 0, 1) := by decide +kernel
theorem dX6_mayMean_28 : decode cX6_mayMean 28 = .ok (.ireturn, 1) := by decide +kernel
theorem dX6_mayMean_29 : decode cX6_mayMean 29 = .ok (.iload_n 2, 1) := by decide +kernel
theorem dX6_mayMean_30 : decode cX6_mayMean 30 = .ok (.iconst 1, 1) := by decide +kernel
theorem dX6_mayMean_31 : decode cX6_mayMean 31 = .ok (.isub, 1) := by decide +kernel
theorem dX6_mayMean_32 : decode cX6_mayMean 32 = .ok (.istore 4, 2) := by decide +kernel
theorem dX6_mayMean_34 : decode cX6_mayMean 34 = .ok (.iload 4, 2) := by decide +kernel
theorem dX6_mayMean_36 : decode cX6_mayMean 36 = .ok (.ifCond .lt 67, 3) := by decide +kernel
theorem dX6_mayMean_39 : decode cX6_mayMean 39 = .ok (.iconst 0, 1) := by decide +kernel
theorem dX6_mayMean_40 : decode cX6_mayMean 40 = .ok (.istore 5, 2) := by decide +kernel
theorem dX6_mayMean_42 : decode cX6_mayMean 42 = .ok (.iload_n 1, 1) := by decide +kernel
theorem dX6_mayMean_43 : decode cX6_mayMean 43 = .ok (.bipush 40, 2) := by decide +kernel
theorem dX6_mayMean_45 : decode cX6_mayMean 45 = .ok (.isub, 1) := by decide +kernel
theorem dX6_mayMean_46 : decode cX6_mayMean 46 = .ok (.istore 6, 2) := by decide +kernel
theorem dX6_mayMean_48 : decode cX6_mayMean 48 = .ok (.iload 6, 2) := by decide +kernel
theorem dX6_mayMean_50 : decode cX6_mayMean 50 = .ok (.bipush 8, 2) := by decide +kernel
theorem dX6_mayMean_52 : decode cX6_mayMean 52 = .ok (.if_icmp .ge 32, 3) := by decide +kernel
theorem dX6_mayMean_55 : decode cX6_mayMean 55 = .ok (.iload 5, 2) := by decide +kernel
theorem dX6_mayMean_57 : decode cX6_mayMean 57 = .ok (.ifCond .ne 14, 3) := by decide +kernel
theorem dX6_mayMean_60 : decode cX6_mayMean 60 = .ok (.aload_n 0, 1) := by decide +kernel
theorem dX6_mayMean_61 : decode cX6_mayMean 61 = .ok (.iload 4, 2) := by decide +kernel
theorem dX6_mayMean_63 : decode cX6_mayMean 63 = .ok (.iload 6, 2) := by decide +kernel
theorem dX6_mayMean_65 : decode cX6_mayMean 65 = .ok (.invokevirtual 57, 3) := by decide +kernel
theorem dX6_mayMean_68 : decode cX6_mayMean 68 = .ok (.ifCond .eq 7, 3) := by decide +kernel
theorem dX6_mayMean_71 : decode cX6_mayMean 71 = .ok (.iconst 1, 1) := by decide +kernel
theorem dX6_mayMean_72 : decode cX6_mayMean 72 = .ok (.goto 4, 3) := by decide +kernel
theorem dX6_mayMean_75 : decode cX6_mayMean 75 = .ok (.iconst 0, 1) := by decide +kernel
theorem dX6_mayMean_76 : decode cX6_mayMean 76 = .ok (.istore 5, 2) := by decide +kernel
theorem dX6_mayMean_78 : decode cX6_mayMean 78 = .ok (.iinc 6 2, 3) := by decide +kernel
theorem dX6_mayMean_81 : decode cX6_mayMean 81 = .ok (.goto (-33), 3) := by decide +kernel
theorem dX6_mayMean_84 : decode cX6_mayMean 84 = .ok (.iload 5, 2) := by decide +kernel
theorem dX6_mayMean_86 : decode cX6_mayMean 86 = .ok (.ifCond .eq 11, 3) := by decide +kernel
theorem dX6_mayMean_89 : decode cX6_mayMean 89 = .ok (.aload_n 0, 1) := by decide +kernel
theorem dX6_mayMean_90 : decode cX6_mayMean 90 = .ok (.iload 4, 2) := by decide +kernel
theorem dX6_mayMean_92 : decode cX6_mayMean 92 = .ok (.iload_n 3, 1) := by decide +kernel
theorem dX6_mayMean_93 : decode cX6_mayMean 93 = .ok (.invokevirtual 57, 3) := by decide +kernel
theorem dX6_mayMean_96 : decode cX6_mayMean 96 = .ok (.ireturn, 1) := by decide +kernel
theorem dX6_mayMean_97 : decode cX6_mayMean 97 = .ok (.iinc 4 (-1), 3) := by decide +kernel
theorem dX6_mayMean_100 : decode cX6_mayMean 100 = .ok (.goto (-66), 3) := by decide +kernel
theorem dX6_mayMean_103 : decode cX6_mayMean 103 = .ok (.iconst 0, 1) := by decide +kernel
theorem dX6_mayMean_104 : decode cX6_mayMean 104 = .ok (.ireturn, 1) := by decide +kernel
theorem dX6_reads_0 : decode cX6_reads 0 = .ok (.iconst 0, 1) := by decide +kernel
theorem dX6_reads_1 : decode cX6_reads 1 = .ok (.istore_n 2, 1) := by decide +kernel
theorem dX6_reads_2 : decode cX6_reads 2 = .ok (.iload_n 2, 1) := by decide +kernel
theorem dX6_reads_3 : decode cX6_reads 3 = .ok (.bipush 104, 2) := by decide +kernel
theorem dX6_reads_5 : decode cX6_reads 5 = .ok (.if_icmp .ge 62, 3) := by decide +kernel
theorem dX6_reads_8 : decode cX6_reads 8 = .ok (.aload_n 0, 1) := by decide +kernel
theorem dX6_reads_9 : decode cX6_reads 9 = .ok (.getfield 16, 3) := by decide +kernel
theorem dX6_reads_12 : decode cX6_reads 12 = .ok (.iload_n 2, 1) := by decide +kernel
theorem dX6_reads_13 : decode cX6_reads 13 = .ok (.iload_n 2, 1) := by decide +kernel
theorem dX6_reads_14 : decode cX6_reads 14 = .ok (.bipush 8, 2) := by decide +kernel
theorem dX6_reads_16 : decode cX6_reads 16 = .ok (.if_icmp .lt 39, 3) := by decide +kernel
theorem dX6_reads_19 : decode cX6_reads 19 = .ok (.iload_n 2, 1) := by decide +kernel
theorem dX6_reads_20 : decode cX6_reads 20 = .ok (.bipush 16, 2) := by decide +kernel
theorem dX6_reads_22 : decode cX6_reads 22 = .ok (.if_icmp .lt 9, 3) := by decide +kernel
theorem dX6_reads_25 : decode cX6_reads 25 = .ok (.iload_n 2, 1) := by decide +kernel
theorem dX6_reads_26 : decode cX6_reads 26 = .ok (.bipush 26, 2) := by decide +kernel
theorem dX6_reads_28 : decode cX6_reads 28 = .ok (.if_icmp .lt 27, 3) := by decide +kernel
theorem dX6_reads_31 : decode cX6_reads 31 = .ok (.iload_n 2, 1) := by decide +kernel
theorem dX6_reads_32 : decode cX6_reads 32 = .ok (.bipush 46, 2) := by decide +kernel
theorem dX6_reads_34 : decode cX6_reads 34 = .ok (.if_icmp .lt 9, 3) := by decide +kernel
theorem dX6_reads_37 : decode cX6_reads 37 = .ok (.iload_n 2, 1) := by decide +kernel
theorem dX6_reads_38 : decode cX6_reads 38 = .ok (.bipush 56, 2) := by decide +kernel
theorem dX6_reads_40 : decode cX6_reads 40 = .ok (.if_icmp .lt 15, 3) := by decide +kernel
theorem dX6_reads_43 : decode cX6_reads 43 = .ok (.iload_n 2, 1) := by decide +kernel
theorem dX6_reads_44 : decode cX6_reads 44 = .ok (.bipush 66, 2) := by decide +kernel
theorem dX6_reads_46 : decode cX6_reads 46 = .ok (.if_icmp .lt 13, 3) := by decide +kernel
theorem dX6_reads_49 : decode cX6_reads 49 = .ok (.iload_n 2, 1) := by decide +kernel
theorem dX6_reads_50 : decode cX6_reads 50 = .ok (.bipush 94, 2) := by decide +kernel
theorem dX6_reads_52 : decode cX6_reads 52 = .ok (.if_icmp .ge 7, 3) := by decide +kernel
theorem dX6_reads_55 : decode cX6_reads 55 = .ok (.iconst (-1), 1) := by decide +kernel
theorem dX6_reads_56 : decode cX6_reads 56 = .ok (.goto 4, 3) := by decide +kernel
theorem dX6_reads_59 : decode cX6_reads 59 = .ok (.iconst 0, 1) := by decide +kernel
theorem dX6_reads_60 : decode cX6_reads 60 = .ok (.iastore, 1) := by decide +kernel
theorem dX6_reads_61 : decode cX6_reads 61 = .ok (.iinc 2 1, 3) := by decide +kernel
theorem dX6_reads_64 : decode cX6_reads 64 = .ok (.goto (-62), 3) := by decide +kernel
theorem dX6_reads_67 : decode cX6_reads 67 = .ok (.aload_n 0, 1) := by decide +kernel
theorem dX6_reads_68 : decode cX6_reads 68 = .ok (.iconst 1, 1) := by decide +kernel
theorem dX6_reads_69 : decode cX6_reads 69 = .ok (.putfield 54, 3) := by decide +kernel
theorem dX6_reads_72 : decode cX6_reads 72 = .ok (.iconst 0, 1) := by decide +kernel
theorem dX6_reads_73 : decode cX6_reads 73 = .ok (.istore_n 2, 1) := by decide +kernel
theorem dX6_reads_74 : decode cX6_reads 74 = .ok (.iload_n 2, 1) := by decide +kernel
theorem dX6_reads_75 : decode cX6_reads 75 = .ok (.iload_n 1, 1) := by decide +kernel
theorem dX6_reads_76 : decode cX6_reads 76 = .ok (.if_icmp .ge 23, 3) := by decide +kernel
theorem dX6_reads_79 : decode cX6_reads 79 = .ok (.aload_n 0, 1) := by decide +kernel
theorem dX6_reads_80 : decode cX6_reads 80 = .ok (.getfield 54, 3) := by decide +kernel
theorem dX6_reads_83 : decode cX6_reads 83 = .ok (.bipush 64, 2) := by decide +kernel
theorem dX6_reads_85 : decode cX6_reads 85 = .ok (.if_icmp .gt 14, 3) := by decide +kernel
theorem dX6_reads_88 : decode cX6_reads 88 = .ok (.aload_n 0, 1) := by decide +kernel
theorem dX6_reads_89 : decode cX6_reads 89 = .ok (.iload_n 2, 1) := by decide +kernel
theorem dX6_reads_90 : decode cX6_reads 90 = .ok (.invokevirtual 61, 3) := by decide +kernel
theorem dX6_reads_93 : decode cX6_reads 93 = .ok (.iinc 2 1, 3) := by decide +kernel
theorem dX6_reads_96 : decode cX6_reads 96 = .ok (.goto (-22), 3) := by decide +kernel
theorem dX6_reads_99 : decode cX6_reads 99 = .ok (.return_, 1) := by decide +kernel
theorem dX6_goes_0 : decode cX6_goes 0 = .ok (.aload_n 0, 1) := by decide +kernel
theorem dX6_goes_1 : decode cX6_goes 1 = .ok (.getfield 54, 3) := by decide +kernel
theorem dX6_goes_4 : decode cX6_goes 4 = .ok (.istore_n 2, 1) := by decide +kernel
theorem dX6_goes_5 : decode cX6_goes 5 = .ok (.aload_n 0, 1) := by decide +kernel
theorem dX6_goes_6 : decode cX6_goes 6 = .ok (.iconst 0, 1) := by decide +kernel
theorem dX6_goes_7 : decode cX6_goes 7 = .ok (.putfield 54, 3) := by decide +kernel
theorem dX6_goes_10 : decode cX6_goes 10 = .ok (.iconst 0, 1) := by decide +kernel
theorem dX6_goes_11 : decode cX6_goes 11 = .ok (.istore_n 3, 1) := by decide +kernel
theorem dX6_goes_12 : decode cX6_goes 12 = .ok (.iload_n 3, 1) := by decide +kernel
theorem dX6_goes_13 : decode cX6_goes 13 = .ok (.iload_n 2, 1) := by decide +kernel
theorem dX6_goes_14 : decode cX6_goes 14 = .ok (.if_icmp .ge 109, 3) := by decide +kernel
theorem dX6_goes_17 : decode cX6_goes 17 = .ok (.iconst 0, 1) := by decide +kernel
theorem dX6_goes_18 : decode cX6_goes 18 = .ok (.istore 4, 2) := by decide +kernel
theorem dX6_goes_20 : decode cX6_goes 20 = .ok (.iload 4, 2) := by decide +kernel
theorem dX6_goes_22 : decode cX6_goes 22 = .ok (.bipush 8, 2) := by decide +kernel
theorem dX6_goes_24 : decode cX6_goes 24 = .ok (.if_icmp .ge 93, 3) := by decide +kernel
theorem dX6_goes_27 : decode cX6_goes 27 = .ok (.aload_n 0, 1) := by decide +kernel
theorem dX6_goes_28 : decode cX6_goes 28 = .ok (.aload_n 0, 1) := by decide +kernel
theorem dX6_goes_29 : decode cX6_goes 29 = .ok (.iload_n 1, 1) := by decide +kernel
theorem dX6_goes_30 : decode cX6_goes 30 = .ok (.iconst 0, 1) := by decide +kernel
theorem dX6_goes_31 : decode cX6_goes 31 = .ok (.invokevirtual 39, 3) := by decide +kernel
theorem dX6_goes_34 : decode cX6_goes 34 = .ok (.iload_n 1, 1) := by decide +kernel
theorem dX6_goes_35 : decode cX6_goes 35 = .ok (.iload 4, 2) := by decide +kernel
theorem dX6_goes_37 : decode cX6_goes 37 = .ok (.invokevirtual 64, 3) := by decide +kernel
theorem dX6_goes_40 : decode cX6_goes 40 = .ok (.ifCond .ne 6, 3) := by decide +kernel
theorem dX6_goes_43 : decode cX6_goes 43 = .ok (.goto 68, 3) := by decide +kernel
theorem dX6_goes_46 : decode cX6_goes 46 = .ok (.aload_n 0, 1) := by decide +kernel
theorem dX6_goes_47 : decode cX6_goes 47 = .ok (.iload_n 1, 1) := by decide +kernel
theorem dX6_goes_48 : decode cX6_goes 48 = .ok (.iconst 1, 1) := by decide +kernel
theorem dX6_goes_49 : decode cX6_goes 49 = .ok (.invokevirtual 39, 3) := by decide +kernel
theorem dX6_goes_52 : decode cX6_goes 52 = .ok (.bipush 33, 2) := by decide +kernel
theorem dX6_goes_54 : decode cX6_goes 54 = .ok (.if_icmp .eq 15, 3) := by decide +kernel
theorem dX6_goes_57 : decode cX6_goes 57 = .ok (.aload_n 0, 1) := by decide +kernel
theorem dX6_goes_58 : decode cX6_goes 58 = .ok (.iload_n 3, 1) := by decide +kernel
theorem dX6_goes_59 : decode cX6_goes 59 = .ok (.iload_n 1, 1) := by decide +kernel
theorem dX6_goes_60 : decode cX6_goes 60 = .ok (.iload 4, 2) := by decide +kernel
theorem dX6_goes_62 : decode cX6_goes 62 = .ok (.iconst (-1), 1) := by decide +kernel
theorem dX6_goes_63 : decode cX6_goes 63 = .ok (.invokevirtual 67, 3) := by decide +kernel
theorem dX6_goes_66 : decode cX6_goes 66 = .ok (.goto 45, 3) := by decide +kernel
theorem dX6_goes_69 : decode cX6_goes 69 = .ok (.iconst 0, 1) := by decide +kernel
theorem dX6_goes_70 : decode cX6_goes 70 = .ok (.istore 5, 2) := by decide +kernel
theorem dX6_goes_72 : decode cX6_goes 72 = .ok (.iload 5, 2) := by decide +kernel
theorem dX6_goes_74 : decode cX6_goes 74 = .ok (.bipush 8, 2) := by decide +kernel
theorem dX6_goes_76 : decode cX6_goes 76 = .ok (.if_icmp .ge 35, 3) := by decide +kernel
theorem dX6_goes_79 : decode cX6_goes 79 = .ok (.aload_n 0, 1) := by decide +kernel
theorem dX6_goes_80 : decode cX6_goes 80 = .ok (.aload_n 0, 1) := by decide +kernel
theorem dX6_goes_81 : decode cX6_goes 81 = .ok (.iload_n 1, 1) := by decide +kernel
theorem dX6_goes_82 : decode cX6_goes 82 = .ok (.iconst 3, 1) := by decide +kernel
theorem dX6_goes_83 : decode cX6_goes 83 = .ok (.invokevirtual 39, 3) := by decide +kernel
theorem dX6_goes_86 : decode cX6_goes 86 = .ok (.iload_n 1, 1) := by decide +kernel
theorem dX6_goes_87 : decode cX6_goes 87 = .ok (.iload 5, 2) := by decide +kernel
theorem dX6_goes_89 : decode cX6_goes 89 = .ok (.invokevirtual 64, 3) := by decide +kernel
theorem dX6_goes_92 : decode cX6_goes 92 = .ok (.ifCond .eq 13, 3) := by decide +kernel
theorem dX6_goes_95 : decode cX6_goes 95 = .ok (.aload_n 0, 1) := by decide +kernel
theorem dX6_goes_96 : decode cX6_goes 96 = .ok (.iload_n 3, 1) := by decide +kernel
theorem dX6_goes_97 : decode cX6_goes 97 = .ok (.iload_n 1, 1) := by decide +kernel
theorem dX6_goes_98 : decode cX6_goes 98 = .ok (.iload 4, 2) := by decide +kernel
theorem dX6_goes_100 : decode cX6_goes 100 = .ok (.iload 5, 2) := by decide +kernel
theorem dX6_goes_102 : decode cX6_goes 102 = .ok (.invokevirtual 67, 3) := by decide +kernel
theorem dX6_goes_105 : decode cX6_goes 105 = .ok (.iinc 5 1, 3) := by decide +kernel
theorem dX6_goes_108 : decode cX6_goes 108 = .ok (.goto (-36), 3) := by decide +kernel
theorem dX6_goes_111 : decode cX6_goes 111 = .ok (.iinc 4 1, 3) := by decide +kernel
theorem dX6_goes_114 : decode cX6_goes 114 = .ok (.goto (-94), 3) := by decide +kernel
theorem dX6_goes_117 : decode cX6_goes 117 = .ok (.iinc 3 1, 3) := by decide +kernel
theorem dX6_goes_120 : decode cX6_goes 120 = .ok (.goto (-108), 3) := by decide +kernel
theorem dX6_goes_123 : decode cX6_goes 123 = .ok (.iconst 0, 1) := by decide +kernel
theorem dX6_goes_124 : decode cX6_goes 124 = .ok (.istore_n 3, 1) := by decide +kernel
theorem dX6_goes_125 : decode cX6_goes 125 = .ok (.iload_n 3, 1) := by decide +kernel
theorem dX6_goes_126 : decode cX6_goes 126 = .ok (.aload_n 0, 1) := by decide +kernel
theorem dX6_goes_127 : decode cX6_goes 127 = .ok (.getfield 54, 3) := by decide +kernel
theorem dX6_goes_130 : decode cX6_goes 130 = .ok (.bipush 104, 2) := by decide +kernel
theorem dX6_goes_132 : decode cX6_goes 132 = .ok (.imul, 1) := by decide +kernel
theorem dX6_goes_133 : decode cX6_goes 133 = .ok (.if_icmp .ge 21, 3) := by decide +kernel
theorem dX6_goes_136 : decode cX6_goes 136 = .ok (.aload_n 0, 1) := by decide +kernel
theorem dX6_goes_137 : decode cX6_goes 137 = .ok (.getfield 16, 3) := by decide +kernel
theorem dX6_goes_140 : decode cX6_goes 140 = .ok (.iload_n 3, 1) := by decide +kernel
theorem dX6_goes_141 : decode cX6_goes 141 = .ok (.aload_n 0, 1) := by decide +kernel
theorem dX6_goes_142 : decode cX6_goes 142 = .ok (.getfield 19, 3) := by decide +kernel
theorem dX6_goes_145 : decode cX6_goes 145 = .ok (.iload_n 3, 1) := by decide +kernel
theorem dX6_goes_146 : decode cX6_goes 146 = .ok (.iaload, 1) := by decide +kernel
theorem dX6_goes_147 : decode cX6_goes 147 = .ok (.iastore, 1) := by decide +kernel
theorem dX6_goes_148 : decode cX6_goes 148 = .ok (.iinc 3 1, 3) := by decide +kernel
theorem dX6_goes_151 : decode cX6_goes 151 = .ok (.goto (-26), 3) := by decide +kernel
theorem dX6_goes_154 : decode cX6_goes 154 = .ok (.return_, 1) := by decide +kernel
theorem dX6_tries_0 : decode cX6_tries 0 = .ok (.bipush 104, 2) := by decide +kernel
theorem dX6_tries_2 : decode cX6_tries 2 = .ok (.aload_n 0, 1) := by decide +kernel
theorem dX6_tries_3 : decode cX6_tries 3 = .ok (.getfield 54, 3) := by decide +kernel
theorem dX6_tries_6 : decode cX6_tries 6 = .ok (.imul, 1) := by decide +kernel
theorem dX6_tries_7 : decode cX6_tries 7 = .ok (.istore 5, 2) := by decide +kernel
theorem dX6_tries_9 : decode cX6_tries 9 = .ok (.iconst 0, 1) := by decide +kernel
theorem dX6_tries_10 : decode cX6_tries 10 = .ok (.istore 6, 2) := by decide +kernel
theorem dX6_tries_12 : decode cX6_tries 12 = .ok (.iload 6, 2) := by decide +kernel
theorem dX6_tries_14 : decode cX6_tries 14 = .ok (.bipush 104, 2) := by decide +kernel
theorem dX6_tries_16 : decode cX6_tries 16 = .ok (.if_icmp .ge 31, 3) := by decide +kernel
theorem dX6_tries_19 : decode cX6_tries 19 = .ok (.aload_n 0, 1) := by decide +kernel
theorem dX6_tries_20 : decode cX6_tries 20 = .ok (.getfield 19, 3) := by decide +kernel
theorem dX6_tries_23 : decode cX6_tries 23 = .ok (.iload 5, 2) := by decide +kernel
theorem dX6_tries_25 : decode cX6_tries 25 = .ok (.iload 6, 2) := by decide +kernel
theorem dX6_tries_27 : decode cX6_tries 27 = .ok (.iadd, 1) := by decide +kernel
theorem dX6_tries_28 : decode cX6_tries 28 = .ok (.aload_n 0, 1) := by decide +kernel
theorem dX6_tries_29 : decode cX6_tries 29 = .ok (.getfield 16, 3) := by decide +kernel
theorem dX6_tries_32 : decode cX6_tries 32 = .ok (.bipush 104, 2) := by decide +kernel
theorem dX6_tries_34 : decode cX6_tries 34 = .ok (.iload_n 1, 1) := by decide +kernel
theorem dX6_tries_35 : decode cX6_tries 35 = .ok (.imul, 1) := by decide +kernel
theorem dX6_tries_36 : decode cX6_tries 36 = .ok (.iload 6, 2) := by decide +kernel
theorem dX6_tries_38 : decode cX6_tries 38 = .ok (.iadd, 1) := by decide +kernel
theorem dX6_tries_39 : decode cX6_tries 39 = .ok (.iaload, 1) := by decide +kernel
theorem dX6_tries_40 : decode cX6_tries 40 = .ok (.iastore, 1) := by decide +kernel
theorem dX6_tries_41 : decode cX6_tries 41 = .ok (.iinc 6 1, 3) := by decide +kernel
theorem dX6_tries_44 : decode cX6_tries 44 = .ok (.goto (-32), 3) := by decide +kernel
theorem dX6_tries_47 : decode cX6_tries 47 = .ok (.aload_n 0, 1) := by decide +kernel
theorem dX6_tries_48 : decode cX6_tries 48 = .ok (.getfield 19, 3) := by decide +kernel
theorem dX6_tries_51 : decode cX6_tries 51 = .ok (.iload 5, 2) := by decide +kernel
theorem dX6_tries_53 : decode cX6_tries 53 = .ok (.bipush 66, 2) := by decide +kernel
theorem dX6_tries_55 : decode cX6_tries 55 = .ok (.iadd, 1) := by decide +kernel
theorem dX6_tries_56 : decode cX6_tries 56 = .ok (.iconst 2, 1) := by decide +kernel
theorem dX6_tries_57 : decode cX6_tries 57 = .ok (.iload_n 2, 1) := by decide +kernel
theorem dX6_tries_58 : decode cX6_tries 58 = .ok (.imul, 1) := by decide +kernel
theorem dX6_tries_59 : decode cX6_tries 59 = .ok (.iadd, 1) := by decide +kernel
theorem dX6_tries_60 : decode cX6_tries 60 = .ok (.iload_n 3, 1) := by decide +kernel
theorem dX6_tries_61 : decode cX6_tries 61 = .ok (.iastore, 1) := by decide +kernel
theorem dX6_tries_62 : decode cX6_tries 62 = .ok (.aload_n 0, 1) := by decide +kernel
theorem dX6_tries_63 : decode cX6_tries 63 = .ok (.getfield 19, 3) := by decide +kernel
theorem dX6_tries_66 : decode cX6_tries 66 = .ok (.iload 5, 2) := by decide +kernel
theorem dX6_tries_68 : decode cX6_tries 68 = .ok (.bipush 66, 2) := by decide +kernel
theorem dX6_tries_70 : decode cX6_tries 70 = .ok (.iadd, 1) := by decide +kernel
theorem dX6_tries_71 : decode cX6_tries 71 = .ok (.iconst 2, 1) := by decide +kernel
theorem dX6_tries_72 : decode cX6_tries 72 = .ok (.iload_n 2, 1) := by decide +kernel
theorem dX6_tries_73 : decode cX6_tries 73 = .ok (.imul, 1) := by decide +kernel
theorem dX6_tries_74 : decode cX6_tries 74 = .ok (.iadd, 1) := by decide +kernel
theorem dX6_tries_75 : decode cX6_tries 75 = .ok (.iconst 1, 1) := by decide +kernel
theorem dX6_tries_76 : decode cX6_tries 76 = .ok (.iadd, 1) := by decide +kernel
theorem dX6_tries_77 : decode cX6_tries 77 = .ok (.iload 4, 2) := by decide +kernel
theorem dX6_tries_79 : decode cX6_tries 79 = .ok (.iastore, 1) := by decide +kernel
theorem dX6_tries_80 : decode cX6_tries 80 = .ok (.aload_n 0, 1) := by decide +kernel
theorem dX6_tries_81 : decode cX6_tries 81 = .ok (.iload_n 2, 1) := by decide +kernel
theorem dX6_tries_82 : decode cX6_tries 82 = .ok (.iconst 2, 1) := by decide +kernel
theorem dX6_tries_83 : decode cX6_tries 83 = .ok (.invokevirtual 39, 3) := by decide +kernel
theorem dX6_tries_86 : decode cX6_tries 86 = .ok (.istore 6, 2) := by decide +kernel
theorem dX6_tries_88 : decode cX6_tries 88 = .ok (.aload_n 0, 1) := by decide +kernel
theorem dX6_tries_89 : decode cX6_tries 89 = .ok (.iload_n 2, 1) := by decide +kernel
theorem dX6_tries_90 : decode cX6_tries 90 = .ok (.iconst 1, 1) := by decide +kernel
theorem dX6_tries_91 : decode cX6_tries 91 = .ok (.invokevirtual 39, 3) := by decide +kernel
theorem dX6_tries_94 : decode cX6_tries 94 = .ok (.istore 7, 2) := by decide +kernel
theorem dX6_tries_96 : decode cX6_tries 96 = .ok (.iload 7, 2) := by decide +kernel
theorem dX6_tries_98 : decode cX6_tries 98 = .ok (.bipush 30, 2) := by decide +kernel
theorem dX6_tries_100 : decode cX6_tries 100 = .ok (.if_icmp .ne 16, 3) := by decide +kernel
theorem dX6_tries_103 : decode cX6_tries 103 = .ok (.aload_n 0, 1) := by decide +kernel
theorem dX6_tries_104 : decode cX6_tries 104 = .ok (.iload 5, 2) := by decide +kernel
theorem dX6_tries_106 : decode cX6_tries 106 = .ok (.iload_n 2, 1) := by decide +kernel
theorem dX6_tries_107 : decode cX6_tries 107 = .ok (.iload_n 3, 1) := by decide +kernel
theorem dX6_tries_108 : decode cX6_tries 108 = .ok (.iload 6, 2) := by decide +kernel
theorem dX6_tries_110 : decode cX6_tries 110 = .ok (.invokevirtual 71, 3) := by decide +kernel
theorem dX6_tries_113 : decode cX6_tries 113 = .ok (.goto 64, 3) := by decide +kernel
theorem dX6_tries_116 : decode cX6_tries 116 = .ok (.iload 7, 2) := by decide +kernel
theorem dX6_tries_118 : decode cX6_tries 118 = .ok (.bipush 31, 2) := by decide +kernel
theorem dX6_tries_120 : decode cX6_tries 120 = .ok (.if_icmp .ne 19, 3) := by decide +kernel
theorem dX6_tries_123 : decode cX6_tries 123 = .ok (.aload_n 0, 1) := by decide +kernel
theorem dX6_tries_124 : decode cX6_tries 124 = .ok (.iload 5, 2) := by decide +kernel
theorem dX6_tries_126 : decode cX6_tries 126 = .ok (.iload_n 2, 1) := by decide +kernel
theorem dX6_tries_127 : decode cX6_tries 127 = .ok (.iload_n 3, 1) := by decide +kernel
theorem dX6_tries_128 : decode cX6_tries 128 = .ok (.iload 6, 2) := by decide +kernel
theorem dX6_tries_130 : decode cX6_tries 130 = .ok (.bipush 10, 2) := by decide +kernel
theorem dX6_tries_132 : decode cX6_tries 132 = .ok (.isub, 1) := by decide +kernel
theorem dX6_tries_133 : decode cX6_tries 133 = .ok (.invokevirtual 75, 3) := by decide +kernel
theorem dX6_tries_136 : decode cX6_tries 136 = .ok (.goto 41, 3) := by decide +kernel
theorem dX6_tries_139 : decode cX6_tries 139 = .ok (.iload 7, 2) := by decide +kernel
theorem dX6_tries_141 : decode cX6_tries 141 = .ok (.bipush 32, 2) := by decide +kernel
theorem dX6_tries_143 : decode cX6_tries 143 = .ok (.if_icmp .ne 19, 3) := by decide +kernel
theorem dX6_tries_146 : decode cX6_tries 146 = .ok (.aload_n 0, 1) := by decide +kernel
theorem dX6_tries_147 : decode cX6_tries 147 = .ok (.iload 5, 2) := by decide +kernel
theorem dX6_tries_149 : decode cX6_tries 149 = .ok (.iload_n 2, 1) := by decide +kernel
theorem dX6_tries_150 : decode cX6_tries 150 = .ok (.iload_n 3, 1) := by decide +kernel
theorem dX6_tries_151 : decode cX6_tries 151 = .ok (.iload 6, 2) := by decide +kernel
theorem dX6_tries_153 : decode cX6_tries 153 = .ok (.bipush 10, 2) := by decide +kernel
theorem dX6_tries_155 : decode cX6_tries 155 = .ok (.isub, 1) := by decide +kernel
theorem dX6_tries_156 : decode cX6_tries 156 = .ok (.invokevirtual 78, 3) := by decide +kernel
theorem dX6_tries_159 : decode cX6_tries 159 = .ok (.goto 18, 3) := by decide +kernel
theorem dX6_tries_162 : decode cX6_tries 162 = .ok (.aload_n 0, 1) := by decide +kernel
theorem dX6_tries_163 : decode cX6_tries 163 = .ok (.iload 5, 2) := by decide +kernel
theorem dX6_tries_165 : decode cX6_tries 165 = .ok (.iload_n 2, 1) := by decide +kernel
theorem dX6_tries_166 : decode cX6_tries 166 = .ok (.iload_n 3, 1) := by decide +kernel
theorem dX6_tries_167 : decode cX6_tries 167 = .ok (.iload 6, 2) := by decide +kernel
theorem dX6_tries_169 : decode cX6_tries 169 = .ok (.bipush 10, 2) := by decide +kernel
theorem dX6_tries_171 : decode cX6_tries 171 = .ok (.isub, 1) := by decide +kernel
theorem dX6_tries_172 : decode cX6_tries 172 = .ok (.iload 4, 2) := by decide +kernel
theorem dX6_tries_174 : decode cX6_tries 174 = .ok (.invokevirtual 81, 3) := by decide +kernel
theorem dX6_tries_177 : decode cX6_tries 177 = .ok (.istore 8, 2) := by decide +kernel
theorem dX6_tries_179 : decode cX6_tries 179 = .ok (.iload 8, 2) := by decide +kernel
theorem dX6_tries_181 : decode cX6_tries 181 = .ok (.ifCond .eq 13, 3) := by decide +kernel
theorem dX6_tries_184 : decode cX6_tries 184 = .ok (.aload_n 0, 1) := by decide +kernel
theorem dX6_tries_185 : decode cX6_tries 185 = .ok (.dup, 1) := by decide +kernel
theorem dX6_tries_186 : decode cX6_tries 186 = .ok (.getfield 54, 3) := by decide +kernel
theorem dX6_tries_189 : decode cX6_tries 189 = .ok (.iconst 1, 1) := by decide +kernel
theorem dX6_tries_190 : decode cX6_tries 190 = .ok (.iadd, 1) := by decide +kernel
theorem dX6_tries_191 : decode cX6_tries 191 = .ok (.putfield 54, 3) := by decide +kernel
theorem dX6_tries_194 : decode cX6_tries 194 = .ok (.return_, 1) := by decide +kernel
theorem dX6_walks_0 : decode cX6_walks 0 = .ok (.aload_n 0, 1) := by decide +kernel
theorem dX6_walks_1 : decode cX6_walks 1 = .ok (.getfield 19, 3) := by decide +kernel
theorem dX6_walks_4 : decode cX6_walks 4 = .ok (.iload_n 1, 1) := by decide +kernel
theorem dX6_walks_5 : decode cX6_walks 5 = .ok (.iconst 0, 1) := by decide +kernel
theorem dX6_walks_6 : decode cX6_walks 6 = .ok (.iadd, 1) := by decide +kernel
theorem dX6_walks_7 : decode cX6_walks 7 = .ok (.iload_n 3, 1) := by decide +kernel
theorem dX6_walks_8 : decode cX6_walks 8 = .ok (.iadd, 1) := by decide +kernel
theorem dX6_walks_9 : decode cX6_walks 9 = .ok (.iload 4, 2) := by decide +kernel
theorem dX6_walks_11 : decode cX6_walks 11 = .ok (.iastore, 1) := by decide +kernel
theorem dX6_walks_12 : decode cX6_walks 12 = .ok (.aload_n 0, 1) := by decide +kernel
theorem dX6_walks_13 : decode cX6_walks 13 = .ok (.getfield 19, 3) := by decide +kernel
theorem dX6_walks_16 : decode cX6_walks 16 = .ok (.iload_n 1, 1) := by decide +kernel
theorem dX6_walks_17 : decode cX6_walks 17 = .ok (.bipush 8, 2) := by decide +kernel
theorem dX6_walks_19 : decode cX6_walks 19 = .ok (.iadd, 1) := by decide +kernel
theorem dX6_walks_20 : decode cX6_walks 20 = .ok (.iload_n 3, 1) := by decide +kernel
theorem dX6_walks_21 : decode cX6_walks 21 = .ok (.iadd, 1) := by decide +kernel
theorem dX6_walks_22 : decode cX6_walks 22 = .ok (.iconst 1, 1) := by decide +kernel
theorem dX6_walks_23 : decode cX6_walks 23 = .ok (.iload_n 2, 1) := by decide +kernel
theorem dX6_walks_24 : decode cX6_walks 24 = .ok (.ishl, 1) := by decide +kernel
theorem dX6_walks_25 : decode cX6_walks 25 = .ok (.iastore, 1) := by decide +kernel
theorem dX6_walks_26 : decode cX6_walks 26 = .ok (.iconst 1, 1) := by decide +kernel
theorem dX6_walks_27 : decode cX6_walks 27 = .ok (.ireturn, 1) := by decide +kernel
theorem dX6_isOthers_0 : decode cX6_isOthers 0 = .ok (.aload_n 0, 1) := by decide +kernel
theorem dX6_isOthers_1 : decode cX6_isOthers 1 = .ok (.getfield 19, 3) := by decide +kernel
theorem dX6_isOthers_4 : decode cX6_isOthers 4 = .ok (.iload_n 1, 1) := by decide +kernel
theorem dX6_isOthers_5 : decode cX6_isOthers 5 = .ok (.bipush 16, 2) := by decide +kernel
theorem dX6_isOthers_7 : decode cX6_isOthers 7 = .ok (.iadd, 1) := by decide +kernel
theorem dX6_isOthers_8 : decode cX6_isOthers 8 = .ok (.iload_n 3, 1) := by decide +kernel
theorem dX6_isOthers_9 : decode cX6_isOthers 9 = .ok (.iadd, 1) := by decide +kernel
theorem dX6_isOthers_10 : decode cX6_isOthers 10 = .ok (.iaload, 1) := by decide +kernel
theorem dX6_isOthers_11 : decode cX6_isOthers 11 = .ok (.iconst (-1), 1) := by decide +kernel
theorem dX6_isOthers_12 : decode cX6_isOthers 12 = .ok (.if_icmp .eq 22, 3) := by decide +kernel
theorem dX6_isOthers_15 : decode cX6_isOthers 15 = .ok (.aload_n 0, 1) := by decide +kernel
theorem dX6_isOthers_16 : decode cX6_isOthers 16 = .ok (.getfield 19, 3) := by decide +kernel
theorem dX6_isOthers_19 : decode cX6_isOthers 19 = .ok (.iload_n 1, 1) := by decide +kernel
theorem dX6_isOthers_20 : decode cX6_isOthers 20 = .ok (.bipush 16, 2) := by decide +kernel
theorem dX6_isOthers_22 : decode cX6_isOthers 22 = .ok (.iadd, 1) := by decide +kernel
theorem dX6_isOthers_23 : decode cX6_isOthers 23 = .ok (.iload_n 3, 1) := by decide +kernel
theorem dX6_isOthers_24 : decode cX6_isOthers 24 = .ok (.iadd, 1) := by decide +kernel
theorem dX6_isOthers_25 : decode cX6_isOthers 25 = .ok (.iaload, 1) := by decide +kernel
theorem dX6_isOthers_26 : decode cX6_isOthers 26 = .ok (.iload_n 2, 1) := by decide +kernel
theorem dX6_isOthers_27 : decode cX6_isOthers 27 = .ok (.if_icmp .eq 7, 3) := by decide +kernel
theorem dX6_isOthers_30 : decode cX6_isOthers 30 = .ok (.iconst 1, 1) := by decide +kernel
theorem dX6_isOthers_31 : decode cX6_isOthers 31 = .ok (.goto 4, 3) := by decide +kernel
theorem dX6_isOthers_34 : decode cX6_isOthers 34 = .ok (.iconst 0, 1) := by decide +kernel
theorem dX6_isOthers_35 : decode cX6_isOthers 35 = .ok (.ireturn, 1) := by decide +kernel
theorem dX6_takes_0 : decode cX6_takes 0 = .ok (.aload_n 0, 1) := by decide +kernel
theorem dX6_takes_1 : decode cX6_takes 1 = .ok (.iload_n 1, 1) := by decide +kernel
theorem dX6_takes_2 : decode cX6_takes 2 = .ok (.iload_n 3, 1) := by decide +kernel
theorem dX6_takes_3 : decode cX6_takes 3 = .ok (.iload 4, 2) := by decide +kernel
theorem dX6_takes_5 : decode cX6_takes 5 = .ok (.invokevirtual 85, 3) := by decide +kernel
theorem dX6_takes_8 : decode cX6_takes 8 = .ok (.ifCond .eq 5, 3) := by decide +kernel
theorem dX6_takes_11 : decode cX6_takes 11 = .ok (.iconst 0, 1) := by decide +kernel
theorem dX6_takes_12 : decode cX6_takes 12 = .ok (.ireturn, 1) := by decide +kernel
theorem dX6_takes_13 : decode cX6_takes 13 = .ok (.aload_n 0, 1) := by decide +kernel
theorem dX6_takes_14 : decode cX6_takes 14 = .ok (.getfield 19, 3) := by decide +kernel
theorem dX6_takes_17 : decode cX6_takes 17 = .ok (.iload_n 1, 1) := by decide +kernel
theorem dX6_takes_18 : decode cX6_takes 18 = .ok (.bipush 46, 2) := by decide +kernel
theorem dX6_takes_20 : decode cX6_takes 20 = .ok (.iadd, 1) := by decide +kernel
theorem dX6_takes_21 : decode cX6_takes 21 = .ok (.iload 4, 2) := by decide +kernel
theorem dX6_takes_23 : decode cX6_takes 23 = .ok (.iadd, 1) := by decide +kernel
theorem dX6_takes_24 : decode cX6_takes 24 = .ok (.iaload, 1) := by decide +kernel
theorem dX6_takes_25 : decode cX6_takes 25 = .ok (.istore 5, 2) := by decide +kernel
theorem dX6_takes_27 : decode cX6_takes 27 = .ok (.aload_n 0, 1) := by decide +kernel
theorem dX6_takes_28 : decode cX6_takes 28 = .ok (.getfield 19, 3) := by decide +kernel
theorem dX6_takes_31 : decode cX6_takes 31 = .ok (.iload_n 1, 1) := by decide +kernel
theorem dX6_takes_32 : decode cX6_takes 32 = .ok (.bipush 36, 2) := by decide +kernel
theorem dX6_takes_34 : decode cX6_takes 34 = .ok (.iadd, 1) := by decide +kernel
theorem dX6_takes_35 : decode cX6_takes 35 = .ok (.iload 4, 2) := by decide +kernel
theorem dX6_takes_37 : decode cX6_takes 37 = .ok (.iadd, 1) := by decide +kernel
theorem dX6_takes_38 : decode cX6_takes 38 = .ok (.iaload, 1) := by decide +kernel
theorem dX6_takes_39 : decode cX6_takes 39 = .ok (.iconst 1, 1) := by decide +kernel
theorem dX6_takes_40 : decode cX6_takes 40 = .ok (.if_icmp .ne 82, 3) := by decide +kernel
theorem dX6_takes_43 : decode cX6_takes 43 = .ok (.iload 5, 2) := by decide +kernel
theorem dX6_takes_45 : decode cX6_takes 45 = .ok (.iconst (-1), 1) := by decide +kernel
theorem dX6_takes_46 : decode cX6_takes 46 = .ok (.if_icmp .eq 76, 3) := by decide +kernel
theorem dX6_takes_49 : decode cX6_takes 49 = .ok (.aload_n 0, 1) := by decide +kernel
theorem dX6_takes_50 : decode cX6_takes 50 = .ok (.getfield 19, 3) := by decide +kernel
theorem dX6_takes_53 : decode cX6_takes 53 = .ok (.iload_n 1, 1) := by decide +kernel
theorem dX6_takes_54 : decode cX6_takes 54 = .ok (.iconst 0, 1) := by decide +kernel
theorem dX6_takes_55 : decode cX6_takes 55 = .ok (.iadd, 1) := by decide +kernel
theorem dX6_takes_56 : decode cX6_takes 56 = .ok (.iload_n 3, 1) := by decide +kernel
theorem dX6_takes_57 : decode cX6_takes 57 = .ok (.iadd, 1) := by decide +kernel
theorem dX6_takes_58 : decode cX6_takes 58 = .ok (.iaload, 1) := by decide +kernel
theorem dX6_takes_59 : decode cX6_takes 59 = .ok (.iconst (-1), 1) := by decide +kernel
theorem dX6_takes_60 : decode cX6_takes 60 = .ok (.if_icmp .ne 45, 3) := by decide +kernel
theorem dX6_takes_63 : decode cX6_takes 63 = .ok (.aload_n 0, 1) := by decide +kernel
theorem dX6_takes_64 : decode cX6_takes 64 = .ok (.getfield 19, 3) := by decide +kernel
theorem dX6_takes_67 : decode cX6_takes 67 = .ok (.iload_n 1, 1) := by decide +kernel
theorem dX6_takes_68 : decode cX6_takes 68 = .ok (.iconst 0, 1) := by decide +kernel
theorem dX6_takes_69 : decode cX6_takes 69 = .ok (.iadd, 1) := by decide +kernel
theorem dX6_takes_70 : decode cX6_takes 70 = .ok (.iload_n 3, 1) := by decide +kernel
theorem dX6_takes_71 : decode cX6_takes 71 = .ok (.iadd, 1) := by decide +kernel
theorem dX6_takes_72 : decode cX6_takes 72 = .ok (.iload 5, 2) := by decide +kernel
theorem dX6_takes_74 : decode cX6_takes 74 = .ok (.iastore, 1) := by decide +kernel
theorem dX6_takes_75 : decode cX6_takes 75 = .ok (.aload_n 0, 1) := by decide +kernel
theorem dX6_takes_76 : decode cX6_takes 76 = .ok (.getfield 19, 3) := by decide +kernel
theorem dX6_takes_79 : decode cX6_takes 79 = .ok (.iload_n 1, 1) := by decide +kernel
theorem dX6_takes_80 : decode cX6_takes 80 = .ok (.bipush 8, 2) := by decide +kernel
theorem dX6_takes_82 : decode cX6_takes 82 = .ok (.iadd, 1) := by decide +kernel
theorem dX6_takes_83 : decode cX6_takes 83 = .ok (.iload_n 3, 1) := by decide +kernel
theorem dX6_takes_84 : decode cX6_takes 84 = .ok (.iadd, 1) := by decide +kernel
theorem dX6_takes_85 : decode cX6_takes 85 = .ok (.iconst 1, 1) := by decide +kernel
theorem dX6_takes_86 : decode cX6_takes 86 = .ok (.iload_n 2, 1) := by decide +kernel
theorem dX6_takes_87 : decode cX6_takes 87 = .ok (.ishl, 1) := by decide +kernel
theorem dX6_takes_88 : decode cX6_takes 88 = .ok (.aload_n 0, 1) := by decide +kernel
theorem dX6_takes_89 : decode cX6_takes 89 = .ok (.getfield 19, 3) := by decide +kernel
theorem dX6_takes_92 : decode cX6_takes 92 = .ok (.iload_n 1, 1) := by decide +kernel
theorem dX6_takes_93 : decode cX6_takes 93 = .ok (.bipush 56, 2) := by decide +kernel
theorem dX6_takes_95 : decode cX6_takes 95 = .ok (.iadd, 1) := by decide +kernel
theorem dX6_takes_96 : decode cX6_takes 96 = .ok (.iload 4, 2) := by decide +kernel
theorem dX6_takes_98 : decode cX6_takes 98 = .ok (.iadd, 1) := by decide +kernel
theorem dX6_takes_99 : decode cX6_takes 99 = .ok (.iaload, 1) := by decide +kernel
theorem dX6_takes_100 : decode cX6_takes 100 = .ok (.ior, 1) := by decide +kernel
theorem dX6_takes_101 : decode cX6_takes 101 = .ok (.iastore, 1) := by decide +kernel
theorem dX6_takes_102 : decode cX6_takes 102 = .ok (.goto 20, 3) := by decide +kernel
theorem dX6_takes_105 : decode cX6_takes 105 = .ok (.aload_n 0, 1) := by decide +kernel
theorem dX6_takes_106 : decode cX6_takes 106 = .ok (.getfield 19, 3) := by decide +kernel
theorem dX6_takes_109 : decode cX6_takes 109 = .ok (.iload_n 1, 1) := by decide +kernel
theorem dX6_takes_110 : decode cX6_takes 110 = .ok (.iconst 0, 1) := by decide +kernel
theorem dX6_takes_111 : decode cX6_takes 111 = .ok (.iadd, 1) := by decide +kernel
theorem dX6_takes_112 : decode cX6_takes 112 = .ok (.iload_n 3, 1) := by decide +kernel
theorem dX6_takes_113 : decode cX6_takes 113 = .ok (.iadd, 1) := by decide +kernel
theorem dX6_takes_114 : decode cX6_takes 114 = .ok (.iaload, 1) := by decide +kernel
theorem dX6_takes_115 : decode cX6_takes 115 = .ok (.iload 5, 2) := by decide +kernel
theorem dX6_takes_117 : decode cX6_takes 117 = .ok (.if_icmp .eq 5, 3) := by decide +kernel
theorem dX6_takes_120 : decode cX6_takes 120 = .ok (.iconst 0, 1) := by decide +kernel
theorem dX6_takes_121 : decode cX6_takes 121 = .ok (.ireturn, 1) := by decide +kernel
theorem dX6_takes_122 : decode cX6_takes 122 = .ok (.aload_n 0, 1) := by decide +kernel
theorem dX6_takes_123 : decode cX6_takes 123 = .ok (.getfield 19, 3) := by decide +kernel
theorem dX6_takes_126 : decode cX6_takes 126 = .ok (.iload_n 1, 1) := by decide +kernel
theorem dX6_takes_127 : decode cX6_takes 127 = .ok (.bipush 16, 2) := by decide +kernel
theorem dX6_takes_129 : decode cX6_takes 129 = .ok (.iadd, 1) := by decide +kernel
theorem dX6_takes_130 : decode cX6_takes 130 = .ok (.iload 4, 2) := by decide +kernel
theorem dX6_takes_132 : decode cX6_takes 132 = .ok (.iadd, 1) := by decide +kernel
theorem dX6_takes_133 : decode cX6_takes 133 = .ok (.iaload, 1) := by decide +kernel
theorem dX6_takes_134 : decode cX6_takes 134 = .ok (.iload_n 3, 1) := by decide +kernel
theorem dX6_takes_135 : decode cX6_takes 135 = .ok (.if_icmp .eq 12, 3) := by decide +kernel
theorem dX6_takes_138 : decode cX6_takes 138 = .ok (.aload_n 0, 1) := by decide +kernel
theorem dX6_takes_139 : decode cX6_takes 139 = .ok (.iload_n 1, 1) := by decide +kernel
theorem dX6_takes_140 : decode cX6_takes 140 = .ok (.iload_n 2, 1) := by decide +kernel
theorem dX6_takes_141 : decode cX6_takes 141 = .ok (.iload_n 3, 1) := by decide +kernel
theorem dX6_takes_142 : decode cX6_takes 142 = .ok (.iload 4, 2) := by decide +kernel
theorem dX6_takes_144 : decode cX6_takes 144 = .ok (.invokevirtual 88, 3) := by decide +kernel
theorem dX6_takes_147 : decode cX6_takes 147 = .ok (.iconst 1, 1) := by decide +kernel
theorem dX6_takes_148 : decode cX6_takes 148 = .ok (.ireturn, 1) := by decide +kernel
theorem dX6_has_0 : decode cX6_has 0 = .ok (.aload_n 0, 1) := by decide +kernel
theorem dX6_has_1 : decode cX6_has 1 = .ok (.getfield 19, 3) := by decide +kernel
theorem dX6_has_4 : decode cX6_has 4 = .ok (.iload_n 1, 1) := by decide +kernel
theorem dX6_has_5 : decode cX6_has 5 = .ok (.bipush 16, 2) := by decide +kernel
theorem dX6_has_7 : decode cX6_has 7 = .ok (.iadd, 1) := by decide +kernel
theorem dX6_has_8 : decode cX6_has 8 = .ok (.iload 4, 2) := by decide +kernel
theorem dX6_has_10 : decode cX6_has 10 = .ok (.iadd, 1) := by decide +kernel
theorem dX6_has_11 : decode cX6_has 11 = .ok (.iload_n 3, 1) := by decide +kernel
theorem dX6_has_12 : decode cX6_has 12 = .ok (.iastore, 1) := by decide +kernel
theorem dX6_has_13 : decode cX6_has 13 = .ok (.aload_n 0, 1) := by decide +kernel
theorem dX6_has_14 : decode cX6_has 14 = .ok (.getfield 19, 3) := by decide +kernel
theorem dX6_has_17 : decode cX6_has 17 = .ok (.iload_n 1, 1) := by decide +kernel
theorem dX6_has_18 : decode cX6_has 18 = .ok (.bipush 26, 2) := by decide +kernel
theorem dX6_has_20 : decode cX6_has 20 = .ok (.iadd, 1) := by decide +kernel
theorem dX6_has_21 : decode cX6_has 21 = .ok (.iload 4, 2) := by decide +kernel
theorem dX6_has_23 : decode cX6_has 23 = .ok (.iadd, 1) := by decide +kernel
theorem dX6_has_24 : decode cX6_has 24 = .ok (.iconst 1, 1) := by decide +kernel
theorem dX6_has_25 : decode cX6_has 25 = .ok (.iload_n 2, 1) := by decide +kernel
theorem dX6_has_26 : decode cX6_has 26 = .ok (.ishl, 1) := by decide +kernel
theorem dX6_has_27 : decode cX6_has 27 = .ok (.iastore, 1) := by decide +kernel
theorem dX6_has_28 : decode cX6_has 28 = .ok (.aload_n 0, 1) := by decide +kernel
theorem dX6_has_29 : decode cX6_has 29 = .ok (.getfield 19, 3) := by decide +kernel
theorem dX6_has_32 : decode cX6_has 32 = .ok (.iload_n 1, 1) := by decide +kernel
theorem dX6_has_33 : decode cX6_has 33 = .ok (.bipush 36, 2) := by decide +kernel
theorem dX6_has_35 : decode cX6_has 35 = .ok (.iadd, 1) := by decide +kernel
theorem dX6_has_36 : decode cX6_has 36 = .ok (.iload 4, 2) := by decide +kernel
theorem dX6_has_38 : decode cX6_has 38 = .ok (.iadd, 1) := by decide +kernel
theorem dX6_has_39 : decode cX6_has 39 = .ok (.iconst 0, 1) := by decide +kernel
theorem dX6_has_40 : decode cX6_has 40 = .ok (.iastore, 1) := by decide +kernel
theorem dX6_has_41 : decode cX6_has 41 = .ok (.aload_n 0, 1) := by decide +kernel
theorem dX6_has_42 : decode cX6_has 42 = .ok (.getfield 19, 3) := by decide +kernel
theorem dX6_has_45 : decode cX6_has 45 = .ok (.iload_n 1, 1) := by decide +kernel
theorem dX6_has_46 : decode cX6_has 46 = .ok (.bipush 46, 2) := by decide +kernel
theorem dX6_has_48 : decode cX6_has 48 = .ok (.iadd, 1) := by decide +kernel
theorem dX6_has_49 : decode cX6_has 49 = .ok (.iload 4, 2) := by decide +kernel
theorem dX6_has_51 : decode cX6_has 51 = .ok (.iadd, 1) := by decide +kernel
theorem dX6_has_52 : decode cX6_has 52 = .ok (.iconst (-1), 1) := by decide +kernel
theorem dX6_has_53 : decode cX6_has 53 = .ok (.iastore, 1) := by decide +kernel
theorem dX6_has_54 : decode cX6_has 54 = .ok (.aload_n 0, 1) := by decide +kernel
theorem dX6_has_55 : decode cX6_has 55 = .ok (.getfield 19, 3) := by decide +kernel
theorem dX6_has_58 : decode cX6_has 58 = .ok (.iload_n 1, 1) := by decide +kernel
theorem dX6_has_59 : decode cX6_has 59 = .ok (.bipush 56, 2) := by decide +kernel
theorem dX6_has_61 : decode cX6_has 61 = .ok (.iadd, 1) := by decide +kernel
theorem dX6_has_62 : decode cX6_has 62 = .ok (.iload 4, 2) := by decide +kernel
theorem dX6_has_64 : decode cX6_has 64 = .ok (.iadd, 1) := by decide +kernel
theorem dX6_has_65 : decode cX6_has 65 = .ok (.iconst 0, 1) := by decide +kernel
theorem dX6_has_66 : decode cX6_has 66 = .ok (.iastore, 1) := by decide +kernel
theorem dX6_has_67 : decode cX6_has 67 = .ok (.return_, 1) := by decide +kernel
theorem dX6_drops_0 : decode cX6_drops 0 = .ok (.aload_n 0, 1) := by decide +kernel
theorem dX6_drops_1 : decode cX6_drops 1 = .ok (.iload_n 1, 1) := by decide +kernel
theorem dX6_drops_2 : decode cX6_drops 2 = .ok (.iload_n 3, 1) := by decide +kernel
theorem dX6_drops_3 : decode cX6_drops 3 = .ok (.iload 4, 2) := by decide +kernel
theorem dX6_drops_5 : decode cX6_drops 5 = .ok (.invokevirtual 85, 3) := by decide +kernel
theorem dX6_drops_8 : decode cX6_drops 8 = .ok (.ifCond .ne 19, 3) := by decide +kernel
theorem dX6_drops_11 : decode cX6_drops 11 = .ok (.aload_n 0, 1) := by decide +kernel
theorem dX6_drops_12 : decode cX6_drops 12 = .ok (.getfield 19, 3) := by decide +kernel
theorem dX6_drops_15 : decode cX6_drops 15 = .ok (.iload_n 1, 1) := by decide +kernel
theorem dX6_drops_16 : decode cX6_drops 16 = .ok (.bipush 36, 2) := by decide +kernel
theorem dX6_drops_18 : decode cX6_drops 18 = .ok (.iadd, 1) := by decide +kernel
theorem dX6_drops_19 : decode cX6_drops 19 = .ok (.iload 4, 2) := by decide +kernel
theorem dX6_drops_21 : decode cX6_drops 21 = .ok (.iadd, 1) := by decide +kernel
theorem dX6_drops_22 : decode cX6_drops 22 = .ok (.iaload, 1) := by decide +kernel
theorem dX6_drops_23 : decode cX6_drops 23 = .ok (.iconst 1, 1) := by decide +kernel
theorem dX6_drops_24 : decode cX6_drops 24 = .ok (.if_icmp .ne 5, 3) := by decide +kernel
theorem dX6_drops_27 : decode cX6_drops 27 = .ok (.iconst 0, 1) := by decide +kernel
theorem dX6_drops_28 : decode cX6_drops 28 = .ok (.ireturn, 1) := by decide +kernel
theorem dX6_drops_29 : decode cX6_drops 29 = .ok (.aload_n 0, 1) := by decide +kernel
theorem dX6_drops_30 : decode cX6_drops 30 = .ok (.getfield 19, 3) := by decide +kernel
theorem dX6_drops_33 : decode cX6_drops 33 = .ok (.iload_n 1, 1) := by decide +kernel
theorem dX6_drops_34 : decode cX6_drops 34 = .ok (.bipush 16, 2) := by decide +kernel
theorem dX6_drops_36 : decode cX6_drops 36 = .ok (.iadd, 1) := by decide +kernel
theorem dX6_drops_37 : decode cX6_drops 37 = .ok (.iload 4, 2) := by decide +kernel
theorem dX6_drops_39 : decode cX6_drops 39 = .ok (.iadd, 1) := by decide +kernel
theorem dX6_drops_40 : decode cX6_drops 40 = .ok (.iconst (-1), 1) := by decide +kernel
theorem dX6_drops_41 : decode cX6_drops 41 = .ok (.iastore, 1) := by decide +kernel
theorem dX6_drops_42 : decode cX6_drops 42 = .ok (.aload_n 0, 1) := by decide +kernel
theorem dX6_drops_43 : decode cX6_drops 43 = .ok (.getfield 19, 3) := by decide +kernel
theorem dX6_drops_46 : decode cX6_drops 46 = .ok (.iload_n 1, 1) := by decide +kernel
theorem dX6_drops_47 : decode cX6_drops 47 = .ok (.bipush 26, 2) := by decide +kernel
theorem dX6_drops_49 : decode cX6_drops 49 = .ok (.iadd, 1) := by decide +kernel
theorem dX6_drops_50 : decode cX6_drops 50 = .ok (.iload 4, 2) := by decide +kernel
theorem dX6_drops_52 : decode cX6_drops 52 = .ok (.iadd, 1) := by decide +kernel
theorem dX6_drops_53 : decode cX6_drops 53 = .ok (.iconst 0, 1) := by decide +kernel
theorem dX6_drops_54 : decode cX6_drops 54 = .ok (.iastore, 1) := by decide +kernel
theorem dX6_drops_55 : decode cX6_drops 55 = .ok (.aload_n 0, 1) := by decide +kernel
theorem dX6_drops_56 : decode cX6_drops 56 = .ok (.getfield 19, 3) := by decide +kernel
theorem dX6_drops_59 : decode cX6_drops 59 = .ok (.iload_n 1, 1) := by decide +kernel
theorem dX6_drops_60 : decode cX6_drops 60 = .ok (.bipush 36, 2) := by decide +kernel
theorem dX6_drops_62 : decode cX6_drops 62 = .ok (.iadd, 1) := by decide +kernel
theorem dX6_drops_63 : decode cX6_drops 63 = .ok (.iload 4, 2) := by decide +kernel
theorem dX6_drops_65 : decode cX6_drops 65 = .ok (.iadd, 1) := by decide +kernel
theorem dX6_drops_66 : decode cX6_drops 66 = .ok (.iconst 1, 1) := by decide +kernel
theorem dX6_drops_67 : decode cX6_drops 67 = .ok (.iastore, 1) := by decide +kernel
theorem dX6_drops_68 : decode cX6_drops 68 = .ok (.aload_n 0, 1) := by decide +kernel
theorem dX6_drops_69 : decode cX6_drops 69 = .ok (.getfield 19, 3) := by decide +kernel
theorem dX6_drops_72 : decode cX6_drops 72 = .ok (.iload_n 1, 1) := by decide +kernel
theorem dX6_drops_73 : decode cX6_drops 73 = .ok (.bipush 46, 2) := by decide +kernel
theorem dX6_drops_75 : decode cX6_drops 75 = .ok (.iadd, 1) := by decide +kernel
theorem dX6_drops_76 : decode cX6_drops 76 = .ok (.iload 4, 2) := by decide +kernel
theorem dX6_drops_78 : decode cX6_drops 78 = .ok (.iadd, 1) := by decide +kernel
theorem dX6_drops_79 : decode cX6_drops 79 = .ok (.aload_n 0, 1) := by decide +kernel
theorem dX6_drops_80 : decode cX6_drops 80 = .ok (.getfield 19, 3) := by decide +kernel
theorem dX6_drops_83 : decode cX6_drops 83 = .ok (.iload_n 1, 1) := by decide +kernel
theorem dX6_drops_84 : decode cX6_drops 84 = .ok (.iconst 0, 1) := by decide +kernel
theorem dX6_drops_85 : decode cX6_drops 85 = .ok (.iadd, 1) := by decide +kernel
theorem dX6_drops_86 : decode cX6_drops 86 = .ok (.iload_n 3, 1) := by decide +kernel
theorem dX6_drops_87 : decode cX6_drops 87 = .ok (.iadd, 1) := by decide +kernel
theorem dX6_drops_88 : decode cX6_drops 88 = .ok (.iaload, 1) := by decide +kernel
theorem dX6_drops_89 : decode cX6_drops 89 = .ok (.iastore, 1) := by decide +kernel
theorem dX6_drops_90 : decode cX6_drops 90 = .ok (.aload_n 0, 1) := by decide +kernel
theorem dX6_drops_91 : decode cX6_drops 91 = .ok (.getfield 19, 3) := by decide +kernel
theorem dX6_drops_94 : decode cX6_drops 94 = .ok (.iload_n 1, 1) := by decide +kernel
theorem dX6_drops_95 : decode cX6_drops 95 = .ok (.bipush 94, 2) := by decide +kernel
theorem dX6_drops_97 : decode cX6_drops 97 = .ok (.iadd, 1) := by decide +kernel
theorem dX6_drops_98 : decode cX6_drops 98 = .ok (.iload 4, 2) := by decide +kernel
theorem dX6_drops_100 : decode cX6_drops 100 = .ok (.iadd, 1) := by decide +kernel
theorem dX6_drops_101 : decode cX6_drops 101 = .ok (.iconst 1, 1) := by decide +kernel
theorem dX6_drops_102 : decode cX6_drops 102 = .ok (.iload_n 2, 1) := by decide +kernel
theorem dX6_drops_103 : decode cX6_drops 103 = .ok (.ishl, 1) := by decide +kernel
theorem dX6_drops_104 : decode cX6_drops 104 = .ok (.iastore, 1) := by decide +kernel
theorem dX6_drops_105 : decode cX6_drops 105 = .ok (.aload_n 0, 1) := by decide +kernel
theorem dX6_drops_106 : decode cX6_drops 106 = .ok (.getfield 19, 3) := by decide +kernel
theorem dX6_drops_109 : decode cX6_drops 109 = .ok (.iload_n 1, 1) := by decide +kernel
theorem dX6_drops_110 : decode cX6_drops 110 = .ok (.bipush 56, 2) := by decide +kernel
theorem dX6_drops_112 : decode cX6_drops 112 = .ok (.iadd, 1) := by decide +kernel
theorem dX6_drops_113 : decode cX6_drops 113 = .ok (.iload 4, 2) := by decide +kernel
theorem dX6_drops_115 : decode cX6_drops 115 = .ok (.iadd, 1) := by decide +kernel
theorem dX6_drops_116 : decode cX6_drops 116 = .ok (.iconst 1, 1) := by decide +kernel
theorem dX6_drops_117 : decode cX6_drops 117 = .ok (.iload_n 2, 1) := by decide +kernel
theorem dX6_drops_118 : decode cX6_drops 118 = .ok (.ishl, 1) := by decide +kernel
theorem dX6_drops_119 : decode cX6_drops 119 = .ok (.aload_n 0, 1) := by decide +kernel
theorem dX6_drops_120 : decode cX6_drops 120 = .ok (.getfield 19, 3) := by decide +kernel
theorem dX6_drops_123 : decode cX6_drops 123 = .ok (.iload_n 1, 1) := by decide +kernel
theorem dX6_drops_124 : decode cX6_drops 124 = .ok (.iconst 0, 1) := by decide +kernel
theorem dX6_drops_125 : decode cX6_drops 125 = .ok (.iadd, 1) := by decide +kernel
theorem dX6_drops_126 : decode cX6_drops 126 = .ok (.iload_n 3, 1) := by decide +kernel
theorem dX6_drops_127 : decode cX6_drops 127 = .ok (.iadd, 1) := by decide +kernel
theorem dX6_drops_128 : decode cX6_drops 128 = .ok (.iaload, 1) := by decide +kernel
theorem dX6_drops_129 : decode cX6_drops 129 = .ok (.iconst (-1), 1) := by decide +kernel
theorem dX6_drops_130 : decode cX6_drops 130 = .ok (.if_icmp .ne 7, 3) := by decide +kernel
theorem dX6_drops_133 : decode cX6_drops 133 = .ok (.iconst 0, 1) := by decide +kernel
theorem dX6_drops_134 : decode cX6_drops 134 = .ok (.goto 14, 3) := by decide +kernel
theorem dX6_drops_137 : decode cX6_drops 137 = .ok (.aload_n 0, 1) := by decide +kernel
theorem dX6_drops_138 : decode cX6_drops 138 = .ok (.getfield 19, 3) := by decide +kernel
theorem dX6_drops_141 : decode cX6_drops 141 = .ok (.iload_n 1, 1) := by decide +kernel
theorem dX6_drops_142 : decode cX6_drops 142 = .ok (.bipush 8, 2) := by decide +kernel
theorem dX6_drops_144 : decode cX6_drops 144 = .ok (.iadd, 1) := by decide +kernel
theorem dX6_drops_145 : decode cX6_drops 145 = .ok (.iload_n 3, 1) := by decide +kernel
theorem dX6_drops_146 : decode cX6_drops 146 = .ok (.iadd, 1) := by decide +kernel
theorem dX6_drops_147 : decode cX6_drops 147 = .ok (.iaload, 1) := by decide +kernel
theorem dX6_drops_148 : decode cX6_drops 148 = .ok (.ior, 1) := by decide +kernel
theorem dX6_drops_149 : decode cX6_drops 149 = .ok (.iastore, 1) := by decide +kernel
theorem dX6_drops_150 : decode cX6_drops 150 = .ok (.iconst 1, 1) := by decide +kernel
theorem dX6_drops_151 : decode cX6_drops 151 = .ok (.ireturn, 1) := by decide +kernel
theorem dX6_gives_0 : decode cX6_gives 0 = .ok (.iload_n 3, 1) := by decide +kernel
theorem dX6_gives_1 : decode cX6_gives 1 = .ok (.iload 5, 2) := by decide +kernel
theorem dX6_gives_3 : decode cX6_gives 3 = .ok (.if_icmp .eq 30, 3) := by decide +kernel
theorem dX6_gives_6 : decode cX6_gives 6 = .ok (.aload_n 0, 1) := by decide +kernel
theorem dX6_gives_7 : decode cX6_gives 7 = .ok (.iload_n 1, 1) := by decide +kernel
theorem dX6_gives_8 : decode cX6_gives 8 = .ok (.iload_n 3, 1) := by decide +kernel
theorem dX6_gives_9 : decode cX6_gives 9 = .ok (.iload 4, 2) := by decide +kernel
theorem dX6_gives_11 : decode cX6_gives 11 = .ok (.invokevirtual 85, 3) := by decide +kernel
theorem dX6_gives_14 : decode cX6_gives 14 = .ok (.ifCond .ne 19, 3) := by decide +kernel
theorem dX6_gives_17 : decode cX6_gives 17 = .ok (.aload_n 0, 1) := by decide +kernel
theorem dX6_gives_18 : decode cX6_gives 18 = .ok (.getfield 19, 3) := by decide +kernel
theorem dX6_gives_21 : decode cX6_gives 21 = .ok (.iload_n 1, 1) := by decide +kernel
theorem dX6_gives_22 : decode cX6_gives 22 = .ok (.bipush 36, 2) := by decide +kernel
theorem dX6_gives_24 : decode cX6_gives 24 = .ok (.iadd, 1) := by decide +kernel
theorem dX6_gives_25 : decode cX6_gives 25 = .ok (.iload 4, 2) := by decide +kernel
theorem dX6_gives_27 : decode cX6_gives 27 = .ok (.iadd, 1) := by decide +kernel
theorem dX6_gives_28 : decode cX6_gives 28 = .ok (.iaload, 1) := by decide +kernel
theorem dX6_gives_29 : decode cX6_gives 29 = .ok (.iconst 1, 1) := by decide +kernel
theorem dX6_gives_30 : decode cX6_gives 30 = .ok (.if_icmp .ne 5, 3) := by decide +kernel
theorem dX6_gives_33 : decode cX6_gives 33 = .ok (.iconst 0, 1) := by decide +kernel
theorem dX6_gives_34 : decode cX6_gives 34 = .ok (.ireturn, 1) := by decide +kernel
theorem dX6_gives_35 : decode cX6_gives 35 = .ok (.aload_n 0, 1) := by decide +kernel
theorem dX6_gives_36 : decode cX6_gives 36 = .ok (.getfield 19, 3) := by decide +kernel
theorem dX6_gives_39 : decode cX6_gives 39 = .ok (.iload_n 1, 1) := by decide +kernel
theorem dX6_gives_40 : decode cX6_gives 40 = .ok (.iconst 0, 1) := by decide +kernel
theorem dX6_gives_41 : decode cX6_gives 41 = .ok (.iadd, 1) := by decide +kernel
theorem dX6_gives_42 : decode cX6_gives 42 = .ok (.iload_n 3, 1) := by decide +kernel
theorem dX6_gives_43 : decode cX6_gives 43 = .ok (.iadd, 1) := by decide +kernel
theorem dX6_gives_44 : decode cX6_gives 44 = .ok (.iaload, 1) := by decide +kernel
theorem dX6_gives_45 : decode cX6_gives 45 = .ok (.istore 6, 2) := by decide +kernel
theorem dX6_gives_47 : decode cX6_gives 47 = .ok (.aload_n 0, 1) := by decide +kernel
theorem dX6_gives_48 : decode cX6_gives 48 = .ok (.getfield 19, 3) := by decide +kernel
theorem dX6_gives_51 : decode cX6_gives 51 = .ok (.iload_n 1, 1) := by decide +kernel
theorem dX6_gives_52 : decode cX6_gives 52 = .ok (.iconst 0, 1) := by decide +kernel
theorem dX6_gives_53 : decode cX6_gives 53 = .ok (.iadd, 1) := by decide +kernel
theorem dX6_gives_54 : decode cX6_gives 54 = .ok (.iload 5, 2) := by decide +kernel
theorem dX6_gives_56 : decode cX6_gives 56 = .ok (.iadd, 1) := by decide +kernel
theorem dX6_gives_57 : decode cX6_gives 57 = .ok (.iaload, 1) := by decide +kernel
theorem dX6_gives_58 : decode cX6_gives 58 = .ok (.istore 7, 2) := by decide +kernel
theorem dX6_gives_60 : decode cX6_gives 60 = .ok (.iload 6, 2) := by decide +kernel
theorem dX6_gives_62 : decode cX6_gives 62 = .ok (.iconst (-1), 1) := by decide +kernel
theorem dX6_gives_63 : decode cX6_gives 63 = .ok (.if_icmp .eq 18, 3) := by decide +kernel
theorem dX6_gives_66 : decode cX6_gives 66 = .ok (.iload 7, 2) := by decide +kernel
theorem dX6_gives_68 : decode cX6_gives 68 = .ok (.iconst (-1), 1) := by decide +kernel
theorem dX6_gives_69 : decode cX6_gives 69 = .ok (.if_icmp .eq 12, 3) := by decide +kernel
theorem dX6_gives_72 : decode cX6_gives 72 = .ok (.iload 6, 2) := by decide +kernel
theorem dX6_gives_74 : decode cX6_gives 74 = .ok (.iload 7, 2) := by decide +kernel
theorem dX6_gives_76 : decode cX6_gives 76 = .ok (.if_icmp .eq 5, 3) := by decide +kernel
theorem dX6_gives_79 : decode cX6_gives 79 = .ok (.iconst 0, 1) := by decide +kernel
theorem dX6_gives_80 : decode cX6_gives 80 = .ok (.ireturn, 1) := by decide +kernel
theorem dX6_gives_81 : decode cX6_gives 81 = .ok (.iload 6, 2) := by decide +kernel
theorem dX6_gives_83 : decode cX6_gives 83 = .ok (.iconst (-1), 1) := by decide +kernel
theorem dX6_gives_84 : decode cX6_gives 84 = .ok (.if_icmp .ne 48, 3) := by decide +kernel
theorem dX6_gives_87 : decode cX6_gives 87 = .ok (.iload 7, 2) := by decide +kernel
theorem dX6_gives_89 : decode cX6_gives 89 = .ok (.iconst (-1), 1) := by decide +kernel
theorem dX6_gives_90 : decode cX6_gives 90 = .ok (.if_icmp .eq 42, 3) := by decide +kernel
theorem dX6_gives_93 : decode cX6_gives 93 = .ok (.aload_n 0, 1) := by decide +kernel
theorem dX6_gives_94 : decode cX6_gives 94 = .ok (.getfield 19, 3) := by decide +kernel
theorem dX6_gives_97 : decode cX6_gives 97 = .ok (.iload_n 1, 1) := by decide +kernel
theorem dX6_gives_98 : decode cX6_gives 98 = .ok (.iconst 0, 1) := by decide +kernel
theorem dX6_gives_99 : decode cX6_gives 99 = .ok (.iadd, 1) := by decide +kernel
theorem dX6_gives_100 : decode cX6_gives 100 = .ok (.iload_n 3, 1) := by decide +kernel
theorem dX6_gives_101 : decode cX6_gives 101 = .ok (.iadd, 1) := by decide +kernel
theorem dX6_gives_102 : decode cX6_gives 102 = .ok (.iload 7, 2) := by decide +kernel
theorem dX6_gives_104 : decode cX6_gives 104 = .ok (.iastore, 1) := by decide +kernel
theorem dX6_gives_105 : decode cX6_gives 105 = .ok (.aload_n 0, 1) := by decide +kernel
theorem dX6_gives_106 : decode cX6_gives 106 = .ok (.getfield 19, 3) := by decide +kernel
theorem dX6_gives_109 : decode cX6_gives 109 = .ok (.iload_n 1, 1) := by decide +kernel
theorem dX6_gives_110 : decode cX6_gives 110 = .ok (.bipush 8, 2) := by decide +kernel
theorem dX6_gives_112 : decode cX6_gives 112 = .ok (.iadd, 1) := by decide +kernel
theorem dX6_gives_113 : decode cX6_gives 113 = .ok (.iload_n 3, 1) := by decide +kernel
theorem dX6_gives_114 : decode cX6_gives 114 = .ok (.iadd, 1) := by decide +kernel
theorem dX6_gives_115 : decode cX6_gives 115 = .ok (.iconst 1, 1) := by decide +kernel
theorem dX6_gives_116 : decode cX6_gives 116 = .ok (.iload_n 2, 1) := by decide +kernel
theorem dX6_gives_117 : decode cX6_gives 117 = .ok (.ishl, 1) := by decide +kernel
theorem dX6_gives_118 : decode cX6_gives 118 = .ok (.aload_n 0, 1) := by decide +kernel
theorem dX6_gives_119 : decode cX6_gives 119 = .ok (.getfield 19, 3) := by decide +kernel
theorem dX6_gives_122 : decode cX6_gives 122 = .ok (.iload_n 1, 1) := by decide +kernel
theorem dX6_gives_123 : decode cX6_gives 123 = .ok (.bipush 8, 2) := by decide +kernel
theorem dX6_gives_125 : decode cX6_gives 125 = .ok (.iadd, 1) := by decide +kernel
theorem dX6_gives_126 : decode cX6_gives 126 = .ok (.iload 5, 2) := by decide +kernel
theorem dX6_gives_128 : decode cX6_gives 128 = .ok (.iadd, 1) := by decide +kernel
theorem dX6_gives_129 : decode cX6_gives 129 = .ok (.iaload, 1) := by decide +kernel
theorem dX6_gives_130 : decode cX6_gives 130 = .ok (.ior, 1) := by decide +kernel
theorem dX6_gives_131 : decode cX6_gives 131 = .ok (.iastore, 1) := by decide +kernel
theorem dX6_gives_132 : decode cX6_gives 132 = .ok (.iload 6, 2) := by decide +kernel
theorem dX6_gives_134 : decode cX6_gives 134 = .ok (.iconst (-1), 1) := by decide +kernel
theorem dX6_gives_135 : decode cX6_gives 135 = .ok (.if_icmp .eq 49, 3) := by decide +kernel
theorem dX6_gives_138 : decode cX6_gives 138 = .ok (.iload 7, 2) := by decide +kernel
theorem dX6_gives_140 : decode cX6_gives 140 = .ok (.iconst (-1), 1) := by decide +kernel
theorem dX6_gives_141 : decode cX6_gives 141 = .ok (.if_icmp .ne 43, 3) := by decide +kernel
theorem dX6_gives_144 : decode cX6_gives 144 = .ok (.aload_n 0, 1) := by decide +kernel
theorem dX6_gives_145 : decode cX6_gives 145 = .ok (.getfield 19, 3) := by decide +kernel
theorem dX6_gives_148 : decode cX6_gives 148 = .ok (.iload_n 1, 1) := by decide +kernel
theorem dX6_gives_149 : decode cX6_gives 149 = .ok (.iconst 0, 1) := by decide +kernel
theorem dX6_gives_150 : decode cX6_gives 150 = .ok (.iadd, 1) := by decide +kernel
theorem dX6_gives_151 : decode cX6_gives 151 = .ok (.iload 5, 2) := by decide +kernel
theorem dX6_gives_153 : decode cX6_gives 153 = .ok (.iadd, 1) := by decide +kernel
theorem dX6_gives_154 : decode cX6_gives 154 = .ok (.iload 6, 2) := by decide +kernel
theorem dX6_gives_156 : decode cX6_gives 156 = .ok (.iastore, 1) := by decide +kernel
theorem dX6_gives_157 : decode cX6_gives 157 = .ok (.aload_n 0, 1) := by decide +kernel
theorem dX6_gives_158 : decode cX6_gives 158 = .ok (.getfield 19, 3) := by decide +kernel
theorem dX6_gives_161 : decode cX6_gives 161 = .ok (.iload_n 1, 1) := by decide +kernel
theorem dX6_gives_162 : decode cX6_gives 162 = .ok (.bipush 8, 2) := by decide +kernel
theorem dX6_gives_164 : decode cX6_gives 164 = .ok (.iadd, 1) := by decide +kernel
theorem dX6_gives_165 : decode cX6_gives 165 = .ok (.iload 5, 2) := by decide +kernel
theorem dX6_gives_167 : decode cX6_gives 167 = .ok (.iadd, 1) := by decide +kernel
theorem dX6_gives_168 : decode cX6_gives 168 = .ok (.iconst 1, 1) := by decide +kernel
theorem dX6_gives_169 : decode cX6_gives 169 = .ok (.iload_n 2, 1) := by decide +kernel
theorem dX6_gives_170 : decode cX6_gives 170 = .ok (.ishl, 1) := by decide +kernel
theorem dX6_gives_171 : decode cX6_gives 171 = .ok (.aload_n 0, 1) := by decide +kernel
theorem dX6_gives_172 : decode cX6_gives 172 = .ok (.getfield 19, 3) := by decide +kernel
theorem dX6_gives_175 : decode cX6_gives 175 = .ok (.iload_n 1, 1) := by decide +kernel
theorem dX6_gives_176 : decode cX6_gives 176 = .ok (.bipush 8, 2) := by decide +kernel
theorem dX6_gives_178 : decode cX6_gives 178 = .ok (.iadd, 1) := by decide +kernel
theorem dX6_gives_179 : decode cX6_gives 179 = .ok (.iload_n 3, 1) := by decide +kernel
theorem dX6_gives_180 : decode cX6_gives 180 = .ok (.iadd, 1) := by decide +kernel
theorem dX6_gives_181 : decode cX6_gives 181 = .ok (.iaload, 1) := by decide +kernel
theorem dX6_gives_182 : decode cX6_gives 182 = .ok (.ior, 1) := by decide +kernel
theorem dX6_gives_183 : decode cX6_gives 183 = .ok (.iastore, 1) := by decide +kernel
theorem dX6_gives_184 : decode cX6_gives 184 = .ok (.aload_n 0, 1) := by decide +kernel
theorem dX6_gives_185 : decode cX6_gives 185 = .ok (.iload_n 1, 1) := by decide +kernel
theorem dX6_gives_186 : decode cX6_gives 186 = .ok (.iload_n 2, 1) := by decide +kernel
theorem dX6_gives_187 : decode cX6_gives 187 = .ok (.iload 5, 2) := by decide +kernel
theorem dX6_gives_189 : decode cX6_gives 189 = .ok (.iload 4, 2) := by decide +kernel
theorem dX6_gives_191 : decode cX6_gives 191 = .ok (.invokevirtual 88, 3) := by decide +kernel
theorem dX6_gives_194 : decode cX6_gives 194 = .ok (.iconst 1, 1) := by decide +kernel
theorem dX6_gives_195 : decode cX6_gives 195 = .ok (.ireturn, 1) := by decide +kernel
theorem dX6_readings_0 : decode cX6_readings 0 = .ok (.iload_n 1, 1) := by decide +kernel
theorem dX6_readings_1 : decode cX6_readings 1 = .ok (.iconst 0, 1) := by decide +kernel
theorem dX6_readings_2 : decode cX6_readings 2 = .ok (.aload_n 0, 1) := by decide +kernel
theorem dX6_readings_3 : decode cX6_readings 3 = .ok (.getfield 35, 3) := by decide +kernel
theorem dX6_readings_6 : decode cX6_readings 6 = .ok (.invokestatic 31, 3) := by decide +kernel
theorem dX6_readings_9 : decode cX6_readings 9 = .ok (.ifCond .ne 5, 3) := by decide +kernel
theorem dX6_readings_12 : decode cX6_readings 12 = .ok (.iconst (-1), 1) := by decide +kernel
theorem dX6_readings_13 : decode cX6_readings 13 = .ok (.ireturn, 1) := by decide +kernel
theorem dX6_readings_14 : decode cX6_readings 14 = .ok (.aload_n 0, 1) := by decide +kernel
theorem dX6_readings_15 : decode cX6_readings 15 = .ok (.iload_n 1, 1) := by decide +kernel
theorem dX6_readings_16 : decode cX6_readings 16 = .ok (.invokevirtual 50, 3) := by decide +kernel
theorem dX6_readings_19 : decode cX6_readings 19 = .ok (.aload_n 0, 1) := by decide +kernel
theorem dX6_readings_20 : decode cX6_readings 20 = .ok (.getfield 54, 3) := by decide +kernel
theorem dX6_readings_23 : decode cX6_readings 23 = .ok (.ireturn, 1) := by decide +kernel
theorem dX6_means_0 : decode cX6_means 0 = .ok (.iload_n 1, 1) := by decide +kernel
theorem dX6_means_1 : decode cX6_means 1 = .ok (.iconst 0, 1) := by decide +kernel
theorem dX6_means_2 : decode cX6_means 2 = .ok (.aload_n 0, 1) := by decide +kernel
theorem dX6_means_3 : decode cX6_means 3 = .ok (.getfield 35, 3) := by decide +kernel
theorem dX6_means_6 : decode cX6_means 6 = .ok (.iconst 1, 1) := by decide +kernel
theorem dX6_means_7 : decode cX6_means 7 = .ok (.isub, 1) := by decide +kernel
theorem dX6_means_8 : decode cX6_means 8 = .ok (.invokestatic 31, 3) := by decide +kernel
theorem dX6_means_11 : decode cX6_means 11 = .ok (.ifCond .eq 16, 3) := by decide +kernel
theorem dX6_means_14 : decode cX6_means 14 = .ok (.iload_n 2, 1) := by decide +kernel
theorem dX6_means_15 : decode cX6_means 15 = .ok (.iconst 0, 1) := by decide +kernel
theorem dX6_means_16 : decode cX6_means 16 = .ok (.iconst 1, 1) := by decide +kernel
theorem dX6_means_17 : decode cX6_means 17 = .ok (.invokestatic 31, 3) := by decide +kernel
theorem dX6_means_20 : decode cX6_means 20 = .ok (.ifCond .eq 7, 3) := by decide +kernel
theorem dX6_means_23 : decode cX6_means 23 = .ok (.iload_n 3, 1) := by decide +kernel
theorem dX6_means_24 : decode cX6_means 24 = .ok (.ifCond .ge 5, 3) := by decide +kernel
theorem dX6_means_27 : decode cX6_means 27 = .ok (.iconst (-1), 1) := by decide +kernel
theorem dX6_means_28 : decode cX6_means 28 = .ok (.ireturn, 1) := by decide +kernel
theorem dX6_means_29 : decode cX6_means 29 = .ok (.aload_n 0, 1) := by decide +kernel
theorem dX6_means_30 : decode cX6_means 30 = .ok (.aload_n 0, 1) := by decide +kernel
theorem dX6_means_31 : decode cX6_means 31 = .ok (.getfield 35, 3) := by decide +kernel
theorem dX6_means_34 : decode cX6_means 34 = .ok (.invokevirtual 50, 3) := by decide +kernel
theorem dX6_means_37 : decode cX6_means 37 = .ok (.iload_n 3, 1) := by decide +kernel
theorem dX6_means_38 : decode cX6_means 38 = .ok (.aload_n 0, 1) := by decide +kernel
theorem dX6_means_39 : decode cX6_means 39 = .ok (.getfield 54, 3) := by decide +kernel
theorem dX6_means_42 : decode cX6_means 42 = .ok (.if_icmp .ge 24, 3) := by decide +kernel
theorem dX6_means_45 : decode cX6_means 45 = .ok (.aload_n 0, 1) := by decide +kernel
theorem dX6_means_46 : decode cX6_means 46 = .ok (.getfield 16, 3) := by decide +kernel
theorem dX6_means_49 : decode cX6_means 49 = .ok (.bipush 104, 2) := by decide +kernel
theorem dX6_means_51 : decode cX6_means 51 = .ok (.iload_n 3, 1) := by decide +kernel
theorem dX6_means_52 : decode cX6_means 52 = .ok (.imul, 1) := by decide +kernel
theorem dX6_means_53 : decode cX6_means 53 = .ok (.bipush 66, 2) := by decide +kernel
theorem dX6_means_55 : decode cX6_means 55 = .ok (.iadd, 1) := by decide +kernel
theorem dX6_means_56 : decode cX6_means 56 = .ok (.iconst 2, 1) := by decide +kernel
theorem dX6_means_57 : decode cX6_means 57 = .ok (.iload_n 1, 1) := by decide +kernel
theorem dX6_means_58 : decode cX6_means 58 = .ok (.imul, 1) := by decide +kernel
theorem dX6_means_59 : decode cX6_means 59 = .ok (.iadd, 1) := by decide +kernel
theorem dX6_means_60 : decode cX6_means 60 = .ok (.iload_n 2, 1) := by decide +kernel
theorem dX6_means_61 : decode cX6_means 61 = .ok (.iadd, 1) := by decide +kernel
theorem dX6_means_62 : decode cX6_means 62 = .ok (.iaload, 1) := by decide +kernel
theorem dX6_means_63 : decode cX6_means 63 = .ok (.goto 4, 3) := by decide +kernel
theorem dX6_means_66 : decode cX6_means 66 = .ok (.iconst (-1), 1) := by decide +kernel
theorem dX6_means_67 : decode cX6_means 67 = .ok (.ireturn, 1) := by decide +kernel
theorem dX6_isQuestion_0 : decode cX6_isQuestion 0 = .ok (.iload_n 0, 1) := by decide +kernel
theorem dX6_isQuestion_1 : decode cX6_isQuestion 1 = .ok (.iconst 0, 1) := by decide +kernel
theorem dX6_isQuestion_2 : decode cX6_isQuestion 2 = .ok (.iconst 3, 1) := by decide +kernel
theorem dX6_isQuestion_3 : decode cX6_isQuestion 3 = .ok (.invokestatic 31, 3) := by decide +kernel
theorem dX6_isQuestion_6 : decode cX6_isQuestion 6 = .ok (.ifCond .eq 31, 3) := by decide +kernel
theorem dX6_isQuestion_9 : decode cX6_isQuestion 9 = .ok (.iload_n 1, 1) := by decide +kernel
theorem dX6_isQuestion_10 : decode cX6_isQuestion 10 = .ok (.iconst 0, 1) := by decide +kernel
theorem dX6_isQuestion_11 : decode cX6_isQuestion 11 = .ok (.iload_n 0, 1) := by decide +kernel
theorem dX6_isQuestion_12 : decode cX6_isQuestion 12 = .ok (.ifCond .eq 8, 3) := by decide +kernel
theorem dX6_isQuestion_15 : decode cX6_isQuestion 15 = .ok (.iload_n 0, 1) := by decide +kernel
theorem dX6_isQuestion_16 : decode cX6_isQuestion 16 = .ok (.iconst 3, 1) := by decide +kernel
theorem dX6_isQuestion_17 : decode cX6_isQuestion 17 = .ok (.if_icmp .ne 8, 3) := by decide +kernel
theorem dX6_isQuestion_20 : decode cX6_isQuestion 20 = .ok (.bipush 7, 2) := by decide +kernel
theorem dX6_isQuestion_22 : decode cX6_isQuestion 22 = .ok (.goto 5, 3) := by decide +kernel
theorem dX6_isQuestion_25 : decode cX6_isQuestion 25 = .ok (.bipush 9, 2) := by decide +kernel
theorem dX6_isQuestion_27 : decode cX6_isQuestion 27 = .ok (.invokestatic 31, 3) := by decide +kernel
theorem dX6_isQuestion_30 : decode cX6_isQuestion 30 = .ok (.ifCond .eq 7, 3) := by decide +kernel
theorem dX6_isQuestion_33 : decode cX6_isQuestion 33 = .ok (.iconst 1, 1) := by decide +kernel
theorem dX6_isQuestion_34 : decode cX6_isQuestion 34 = .ok (.goto 4, 3) := by decide +kernel
theorem dX6_isQuestion_37 : decode cX6_isQuestion 37 = .ok (.iconst 0, 1) := by decide +kernel
theorem dX6_isQuestion_38 : decode cX6_isQuestion 38 = .ok (.ireturn, 1) := by decide +kernel
theorem dX6_tells_0 : decode cX6_tells 0 = .ok (.bipush 104, 2) := by decide +kernel
theorem dX6_tells_2 : decode cX6_tells 2 = .ok (.iload_n 3, 1) := by decide +kernel
theorem dX6_tells_3 : decode cX6_tells 3 = .ok (.imul, 1) := by decide +kernel
theorem dX6_tells_4 : decode cX6_tells 4 = .ok (.istore 4, 2) := by decide +kernel
theorem dX6_tells_6 : decode cX6_tells 6 = .ok (.iload_n 1, 1) := by decide +kernel
theorem dX6_tells_7 : decode cX6_tells 7 = .ok (.ifCond .ne 35, 3) := by decide +kernel
theorem dX6_tells_10 : decode cX6_tells 10 = .ok (.aload_n 0, 1) := by decide +kernel
theorem dX6_tells_11 : decode cX6_tells 11 = .ok (.getfield 16, 3) := by decide +kernel
theorem dX6_tells_14 : decode cX6_tells 14 = .ok (.iload 4, 2) := by decide +kernel
theorem dX6_tells_16 : decode cX6_tells 16 = .ok (.iconst 0, 1) := by decide +kernel
theorem dX6_tells_17 : decode cX6_tells 17 = .ok (.iadd, 1) := by decide +kernel
theorem dX6_tells_18 : decode cX6_tells 18 = .ok (.iload_n 2, 1) := by decide +kernel
theorem dX6_tells_19 : decode cX6_tells 19 = .ok (.iadd, 1) := by decide +kernel
theorem dX6_tells_20 : decode cX6_tells 20 = .ok (.iaload, 1) := by decide +kernel
theorem dX6_tells_21 : decode cX6_tells 21 = .ok (.iconst (-1), 1) := by decide +kernel
theorem dX6_tells_22 : decode cX6_tells 22 = .ok (.if_icmp .ne 8, 3) := by decide +kernel
theorem dX6_tells_25 : decode cX6_tells 25 = .ok (.bipush (-2), 2) := by decide +kernel
theorem dX6_tells_27 : decode cX6_tells 27 = .ok (.goto 14, 3) := by decide +kernel
theorem dX6_tells_30 : decode cX6_tells 30 = .ok (.aload_n 0, 1) := by decide +kernel
theorem dX6_tells_31 : decode cX6_tells 31 = .ok (.getfield 16, 3) := by decide +kernel
theorem dX6_tells_34 : decode cX6_tells 34 = .ok (.iload 4, 2) := by decide +kernel
theorem dX6_tells_36 : decode cX6_tells 36 = .ok (.iconst 0, 1) := by decide +kernel
theorem dX6_tells_37 : decode cX6_tells 37 = .ok (.iadd, 1) := by decide +kernel
theorem dX6_tells_38 : decode cX6_tells 38 = .ok (.iload_n 2, 1) := by decide +kernel
theorem dX6_tells_39 : decode cX6_tells 39 = .ok (.iadd, 1) := by decide +kernel
theorem dX6_tells_40 : decode cX6_tells 40 = .ok (.iaload, 1) := by decide +kernel
theorem dX6_tells_41 : decode cX6_tells 41 = .ok (.ireturn, 1) := by decide +kernel
theorem dX6_tells_42 : decode cX6_tells 42 = .ok (.iload_n 1, 1) := by decide +kernel
theorem dX6_tells_43 : decode cX6_tells 43 = .ok (.iconst 3, 1) := by decide +kernel
theorem dX6_tells_44 : decode cX6_tells 44 = .ok (.if_icmp .ne 52, 3) := by decide +kernel
theorem dX6_tells_47 : decode cX6_tells 47 = .ok (.iconst 0, 1) := by decide +kernel
theorem dX6_tells_48 : decode cX6_tells 48 = .ok (.istore 5, 2) := by decide +kernel
theorem dX6_tells_50 : decode cX6_tells 50 = .ok (.iconst 0, 1) := by decide +kernel
theorem dX6_tells_51 : decode cX6_tells 51 = .ok (.istore 6, 2) := by decide +kernel
theorem dX6_tells_53 : decode cX6_tells 53 = .ok (.iload 6, 2) := by decide +kernel
theorem dX6_tells_55 : decode cX6_tells 55 = .ok (.bipush 10, 2) := by decide +kernel
theorem dX6_tells_57 : decode cX6_tells 57 = .ok (.if_icmp .ge 36, 3) := by decide +kernel
theorem dX6_tells_60 : decode cX6_tells 60 = .ok (.iload 5, 2) := by decide +kernel
theorem dX6_tells_62 : decode cX6_tells 62 = .ok (.aload_n 0, 1) := by decide +kernel
theorem dX6_tells_63 : decode cX6_tells 63 = .ok (.getfield 16, 3) := by decide +kernel
theorem dX6_tells_66 : decode cX6_tells 66 = .ok (.iload 4, 2) := by decide +kernel
theorem dX6_tells_68 : decode cX6_tells 68 = .ok (.bipush 16, 2) := by decide +kernel
theorem dX6_tells_70 : decode cX6_tells 70 = .ok (.iadd, 1) := by decide +kernel
theorem dX6_tells_71 : decode cX6_tells 71 = .ok (.iload 6, 2) := by decide +kernel
theorem dX6_tells_73 : decode cX6_tells 73 = .ok (.iadd, 1) := by decide +kernel
theorem dX6_tells_74 : decode cX6_tells 74 = .ok (.iaload, 1) := by decide +kernel
theorem dX6_tells_75 : decode cX6_tells 75 = .ok (.iload_n 2, 1) := by decide +kernel
theorem dX6_tells_76 : decode cX6_tells 76 = .ok (.if_icmp .ne 7, 3) := by decide +kernel
theorem dX6_tells_79 : decode cX6_tells 79 = .ok (.iconst 1, 1) := by decide +kernel
theorem dX6_tells_80 : decode cX6_tells 80 = .ok (.goto 4, 3) := by decide +kernel
theorem dX6_tells_83 : decode cX6_tells 83 = .ok (.iconst 0, 1) := by decide +kernel
theorem dX6_tells_84 : decode cX6_tells 84 = .ok (.iadd, 1) := by decide +kernel
theorem dX6_tells_85 : decode cX6_tells 85 = .ok (.istore 5, 2) := by decide +kernel
theorem dX6_tells_87 : decode cX6_tells 87 = .ok (.iinc 6 1, 3) := by decide +kernel
theorem dX6_tells_90 : decode cX6_tells 90 = .ok (.goto (-37), 3) := by decide +kernel
theorem dX6_tells_93 : decode cX6_tells 93 = .ok (.iload 5, 2) := by decide +kernel
theorem dX6_tells_95 : decode cX6_tells 95 = .ok (.ireturn, 1) := by decide +kernel
theorem dX6_tells_96 : decode cX6_tells 96 = .ok (.aload_n 0, 1) := by decide +kernel
theorem dX6_tells_97 : decode cX6_tells 97 = .ok (.getfield 16, 3) := by decide +kernel
theorem dX6_tells_100 : decode cX6_tells 100 = .ok (.iload 4, 2) := by decide +kernel
theorem dX6_tells_102 : decode cX6_tells 102 = .ok (.bipush 16, 2) := by decide +kernel
theorem dX6_tells_104 : decode cX6_tells 104 = .ok (.iadd, 1) := by decide +kernel
theorem dX6_tells_105 : decode cX6_tells 105 = .ok (.iload_n 2, 1) := by decide +kernel
theorem dX6_tells_106 : decode cX6_tells 106 = .ok (.iadd, 1) := by decide +kernel
theorem dX6_tells_107 : decode cX6_tells 107 = .ok (.iaload, 1) := by decide +kernel
theorem dX6_tells_108 : decode cX6_tells 108 = .ok (.istore 5, 2) := by decide +kernel
theorem dX6_tells_110 : decode cX6_tells 110 = .ok (.aload_n 0, 1) := by decide +kernel
theorem dX6_tells_111 : decode cX6_tells 111 = .ok (.getfield 16, 3) := by decide +kernel
theorem dX6_tells_114 : decode cX6_tells 114 = .ok (.iload 4, 2) := by decide +kernel
theorem dX6_tells_116 : decode cX6_tells 116 = .ok (.bipush 36, 2) := by decide +kernel
theorem dX6_tells_118 : decode cX6_tells 118 = .ok (.iadd, 1) := by decide +kernel
theorem dX6_tells_119 : decode cX6_tells 119 = .ok (.iload_n 2, 1) := by decide +kernel
theorem dX6_tells_120 : decode cX6_tells 120 = .ok (.iadd, 1) := by decide +kernel
theorem dX6_tells_121 : decode cX6_tells 121 = .ok (.iaload, 1) := by decide +kernel
theorem dX6_tells_122 : decode cX6_tells 122 = .ok (.iconst 1, 1) := by decide +kernel
theorem dX6_tells_123 : decode cX6_tells 123 = .ok (.if_icmp .ne 7, 3) := by decide +kernel
theorem dX6_tells_126 : decode cX6_tells 126 = .ok (.iconst 1, 1) := by decide +kernel
theorem dX6_tells_127 : decode cX6_tells 127 = .ok (.goto 4, 3) := by decide +kernel
theorem dX6_tells_130 : decode cX6_tells 130 = .ok (.iconst 0, 1) := by decide +kernel
theorem dX6_tells_131 : decode cX6_tells 131 = .ok (.istore 6, 2) := by decide +kernel
theorem dX6_tells_133 : decode cX6_tells 133 = .ok (.iload_n 1, 1) := by decide +kernel
theorem dX6_tells_134 : decode cX6_tells 134 = .ok (.iconst 2, 1) := by decide +kernel
theorem dX6_tells_135 : decode cX6_tells 135 = .ok (.if_icmp .ne 27, 3) := by decide +kernel
theorem dX6_tells_138 : decode cX6_tells 138 = .ok (.iload 5, 2) := by decide +kernel
theorem dX6_tells_140 : decode cX6_tells 140 = .ok (.iconst (-1), 1) := by decide +kernel
theorem dX6_tells_141 : decode cX6_tells 141 = .ok (.if_icmp .eq 8, 3) := by decide +kernel
theorem dX6_tells_144 : decode cX6_tells 144 = .ok (.iload 5, 2) := by decide +kernel
theorem dX6_tells_146 : decode cX6_tells 146 = .ok (.goto 15, 3) := by decide +kernel
theorem dX6_tells_149 : decode cX6_tells 149 = .ok (.iload 6, 2) := by decide +kernel
theorem dX6_tells_151 : decode cX6_tells 151 = .ok (.ifCond .eq 8, 3) := by decide +kernel
theorem dX6_tells_154 : decode cX6_tells 154 = .ok (.bipush 9, 2) := by decide +kernel
theorem dX6_tells_156 : decode cX6_tells 156 = .ok (.goto 5, 3) := by decide +kernel
theorem dX6_tells_159 : decode cX6_tells 159 = .ok (.bipush (-2), 2) := by decide +kernel
theorem dX6_tells_161 : decode cX6_tells 161 = .ok (.ireturn, 1) := by decide +kernel
theorem dX6_tells_162 : decode cX6_tells 162 = .ok (.iload 5, 2) := by decide +kernel
theorem dX6_tells_164 : decode cX6_tells 164 = .ok (.iconst (-1), 1) := by decide +kernel
theorem dX6_tells_165 : decode cX6_tells 165 = .ok (.if_icmp .eq 18, 3) := by decide +kernel
theorem dX6_tells_168 : decode cX6_tells 168 = .ok (.aload_n 0, 1) := by decide +kernel
theorem dX6_tells_169 : decode cX6_tells 169 = .ok (.getfield 16, 3) := by decide +kernel
theorem dX6_tells_172 : decode cX6_tells 172 = .ok (.iload 4, 2) := by decide +kernel
theorem dX6_tells_174 : decode cX6_tells 174 = .ok (.iconst 0, 1) := by decide +kernel
theorem dX6_tells_175 : decode cX6_tells 175 = .ok (.iadd, 1) := by decide +kernel
theorem dX6_tells_176 : decode cX6_tells 176 = .ok (.iload 5, 2) := by decide +kernel
theorem dX6_tells_178 : decode cX6_tells 178 = .ok (.iadd, 1) := by decide +kernel
theorem dX6_tells_179 : decode cX6_tells 179 = .ok (.iaload, 1) := by decide +kernel
theorem dX6_tells_180 : decode cX6_tells 180 = .ok (.goto 24, 3) := by decide +kernel
theorem dX6_tells_183 : decode cX6_tells 183 = .ok (.iload 6, 2) := by decide +kernel
theorem dX6_tells_185 : decode cX6_tells 185 = .ok (.ifCond .eq 18, 3) := by decide +kernel
theorem dX6_tells_188 : decode cX6_tells 188 = .ok (.aload_n 0, 1) := by decide +kernel
theorem dX6_tells_189 : decode cX6_tells 189 = .ok (.getfield 16, 3) := by decide +kernel
theorem dX6_tells_192 : decode cX6_tells 192 = .ok (.iload 4, 2) := by decide +kernel
theorem dX6_tells_194 : decode cX6_tells 194 = .ok (.bipush 46, 2) := by decide +kernel
theorem dX6_tells_196 : decode cX6_tells 196 = .ok (.iadd, 1) := by decide +kernel
theorem dX6_tells_197 : decode cX6_tells 197 = .ok (.iload_n 2, 1) := by decide +kernel
theorem dX6_tells_198 : decode cX6_tells 198 = .ok (.iadd, 1) := by decide +kernel
theorem dX6_tells_199 : decode cX6_tells 199 = .ok (.iaload, 1) := by decide +kernel
theorem dX6_tells_200 : decode cX6_tells 200 = .ok (.goto 4, 3) := by decide +kernel
theorem dX6_tells_203 : decode cX6_tells 203 = .ok (.iconst (-1), 1) := by decide +kernel
theorem dX6_tells_204 : decode cX6_tells 204 = .ok (.istore 7, 2) := by decide +kernel
theorem dX6_tells_206 : decode cX6_tells 206 = .ok (.iload 7, 2) := by decide +kernel
theorem dX6_tells_208 : decode cX6_tells 208 = .ok (.iconst (-1), 1) := by decide +kernel
theorem dX6_tells_209 : decode cX6_tells 209 = .ok (.if_icmp .ne 8, 3) := by decide +kernel
theorem dX6_tells_212 : decode cX6_tells 212 = .ok (.bipush (-2), 2) := by decide +kernel
theorem dX6_tells_214 : decode cX6_tells 214 = .ok (.goto 5, 3) := by decide +kernel
theorem dX6_tells_217 : decode cX6_tells 217 = .ok (.iload 7, 2) := by decide +kernel
theorem dX6_tells_219 : decode cX6_tells 219 = .ok (.ireturn, 1) := by decide +kernel
theorem dX6_by_0 : decode cX6_by 0 = .ok (.bipush 104, 2) := by decide +kernel
theorem dX6_by_2 : decode cX6_by 2 = .ok (.iload_n 3, 1) := by decide +kernel
theorem dX6_by_3 : decode cX6_by 3 = .ok (.imul, 1) := by decide +kernel
theorem dX6_by_4 : decode cX6_by 4 = .ok (.istore 4, 2) := by decide +kernel
theorem dX6_by_6 : decode cX6_by 6 = .ok (.aload_n 0, 1) := by decide +kernel
theorem dX6_by_7 : decode cX6_by 7 = .ok (.iload_n 1, 1) := by decide +kernel
theorem dX6_by_8 : decode cX6_by 8 = .ok (.iload_n 2, 1) := by decide +kernel
theorem dX6_by_9 : decode cX6_by 9 = .ok (.iload_n 3, 1) := by decide +kernel
theorem dX6_by_10 : decode cX6_by 10 = .ok (.invokevirtual 91, 3) := by decide +kernel
theorem dX6_by_13 : decode cX6_by 13 = .ok (.bipush (-2), 2) := by decide +kernel
theorem dX6_by_15 : decode cX6_by 15 = .ok (.if_icmp .ne 5, 3) := by decide +kernel
theorem dX6_by_18 : decode cX6_by 18 = .ok (.iconst 0, 1) := by decide +kernel
theorem dX6_by_19 : decode cX6_by 19 = .ok (.ireturn, 1) := by decide +kernel
theorem dX6_by_20 : decode cX6_by 20 = .ok (.iload_n 1, 1) := by decide +kernel
theorem dX6_by_21 : decode cX6_by 21 = .ok (.ifCond .ne 16, 3) := by decide +kernel
theorem dX6_by_24 : decode cX6_by 24 = .ok (.aload_n 0, 1) := by decide +kernel
theorem dX6_by_25 : decode cX6_by 25 = .ok (.getfield 16, 3) := by decide +kernel
theorem dX6_by_28 : decode cX6_by 28 = .ok (.iload 4, 2) := by decide +kernel
theorem dX6_by_30 : decode cX6_by 30 = .ok (.bipush 8, 2) := by decide +kernel
theorem dX6_by_32 : decode cX6_by 32 = .ok (.iadd, 1) := by decide +kernel
theorem dX6_by_33 : decode cX6_by 33 = .ok (.iload_n 2, 1) := by decide +kernel
theorem dX6_by_34 : decode cX6_by 34 = .ok (.iadd, 1) := by decide +kernel
theorem dX6_by_35 : decode cX6_by 35 = .ok (.iaload, 1) := by decide +kernel
theorem dX6_by_36 : decode cX6_by 36 = .ok (.ireturn, 1) := by decide +kernel
theorem dX6_by_37 : decode cX6_by 37 = .ok (.iload_n 1, 1) := by decide +kernel
theorem dX6_by_38 : decode cX6_by 38 = .ok (.iconst 3, 1) := by decide +kernel
theorem dX6_by_39 : decode cX6_by 39 = .ok (.if_icmp .ne 64, 3) := by decide +kernel
theorem dX6_by_42 : decode cX6_by 42 = .ok (.iconst 0, 1) := by decide +kernel
theorem dX6_by_43 : decode cX6_by 43 = .ok (.istore 5, 2) := by decide +kernel
theorem dX6_by_45 : decode cX6_by 45 = .ok (.iconst 0, 1) := by decide +kernel
theorem dX6_by_46 : decode cX6_by 46 = .ok (.istore 6, 2) := by decide +kernel
theorem dX6_by_48 : decode cX6_by 48 = .ok (.iload 6, 2) := by decide +kernel
theorem dX6_by_50 : decode cX6_by 50 = .ok (.bipush 10, 2) := by decide +kernel
theorem dX6_by_52 : decode cX6_by 52 = .ok (.if_icmp .ge 48, 3) := by decide +kernel
theorem dX6_by_55 : decode cX6_by 55 = .ok (.iload 5, 2) := by decide +kernel
theorem dX6_by_57 : decode cX6_by 57 = .ok (.aload_n 0, 1) := by decide +kernel
theorem dX6_by_58 : decode cX6_by 58 = .ok (.getfield 16, 3) := by decide +kernel
theorem dX6_by_61 : decode cX6_by 61 = .ok (.iload 4, 2) := by decide +kernel
theorem dX6_by_63 : decode cX6_by 63 = .ok (.bipush 16, 2) := by decide +kernel
theorem dX6_by_65 : decode cX6_by 65 = .ok (.iadd, 1) := by decide +kernel
theorem dX6_by_66 : decode cX6_by 66 = .ok (.iload 6, 2) := by decide +kernel
theorem dX6_by_68 : decode cX6_by 68 = .ok (.iadd, 1) := by decide +kernel
theorem dX6_by_69 : decode cX6_by 69 = .ok (.iaload, 1) := by decide +kernel
theorem dX6_by_70 : decode cX6_by 70 = .ok (.iload_n 2, 1) := by decide +kernel
theorem dX6_by_71 : decode cX6_by 71 = .ok (.if_icmp .ne 19, 3) := by decide +kernel
theorem dX6_by_74 : decode cX6_by 74 = .ok (.aload_n 0, 1) := by decide +kernel
theorem dX6_by_75 : decode cX6_by 75 = .ok (.getfield 16, 3) := by decide +kernel
theorem dX6_by_78 : decode cX6_by 78 = .ok (.iload 4, 2) := by decide +kernel
theorem dX6_by_80 : decode cX6_by 80 = .ok (.bipush 26, 2) := by decide +kernel
theorem dX6_by_82 : decode cX6_by 82 = .ok (.iadd, 1) := by decide +kernel
theorem dX6_by_83 : decode cX6_by 83 = .ok (.iload 6, 2) := by decide +kernel
theorem dX6_by_85 : decode cX6_by 85 = .ok (.iadd, 1) := by decide +kernel
theorem dX6_by_86 : decode cX6_by 86 = .ok (.iaload, 1) := by decide +kernel
theorem dX6_by_87 : decode cX6_by 87 = .ok (.goto 4, 3) := by decide +kernel
theorem dX6_by_90 : decode cX6_by 90 = .ok (.iconst 0, 1) := by decide +kernel
theorem dX6_by_91 : decode cX6_by 91 = .ok (.ior, 1) := by decide +kernel
theorem dX6_by_92 : decode cX6_by 92 = .ok (.istore 5, 2) := by decide +kernel
theorem dX6_by_94 : decode cX6_by 94 = .ok (.iinc 6 1, 3) := by decide +kernel
theorem dX6_by_97 : decode cX6_by 97 = .ok (.goto (-49), 3) := by decide +kernel
theorem dX6_by_100 : decode cX6_by 100 = .ok (.iload 5, 2) := by decide +kernel
theorem dX6_by_102 : decode cX6_by 102 = .ok (.ireturn, 1) := by decide +kernel
theorem dX6_by_103 : decode cX6_by 103 = .ok (.aload_n 0, 1) := by decide +kernel
theorem dX6_by_104 : decode cX6_by 104 = .ok (.getfield 16, 3) := by decide +kernel
theorem dX6_by_107 : decode cX6_by 107 = .ok (.iload 4, 2) := by decide +kernel
theorem dX6_by_109 : decode cX6_by 109 = .ok (.bipush 16, 2) := by decide +kernel
theorem dX6_by_111 : decode cX6_by 111 = .ok (.iadd, 1) := by decide +kernel
theorem dX6_by_112 : decode cX6_by 112 = .ok (.iload_n 2, 1) := by decide +kernel
theorem dX6_by_113 : decode cX6_by 113 = .ok (.iadd, 1) := by decide +kernel
theorem dX6_by_114 : decode cX6_by 114 = .ok (.iaload, 1) := by decide +kernel
theorem dX6_by_115 : decode cX6_by 115 = .ok (.istore 5, 2) := by decide +kernel
theorem dX6_by_117 : decode cX6_by 117 = .ok (.iload 5, 2) := by decide +kernel
theorem dX6_by_119 : decode cX6_by 119 = .ok (.iconst (-1), 1) := by decide +kernel
theorem dX6_by_120 : decode cX6_by 120 = .ok (.if_icmp .ne 26, 3) := by decide +kernel
theorem dX6_by_123 : decode cX6_by 123 = .ok (.aload_n 0, 1) := by decide +kernel
theorem dX6_by_124 : decode cX6_by 124 = .ok (.getfield 16, 3) := by decide +kernel
theorem dX6_by_127 : decode cX6_by 127 = .ok (.iload 4, 2) := by decide +kernel
theorem dX6_by_129 : decode cX6_by 129 = .ok (.iload_n 1, 1) := by decide +kernel
theorem dX6_by_130 : decode cX6_by 130 = .ok (.iconst 2, 1) := by decide +kernel
theorem dX6_by_131 : decode cX6_by 131 = .ok (.if_icmp .ne 8, 3) := by decide +kernel
theorem dX6_by_134 : decode cX6_by 134 = .ok (.bipush 94, 2) := by decide +kernel
theorem dX6_by_136 : decode cX6_by 136 = .ok (.goto 5, 3) := by decide +kernel
theorem dX6_by_139 : decode cX6_by 139 = .ok (.bipush 56, 2) := by decide +kernel
theorem dX6_by_141 : decode cX6_by 141 = .ok (.iadd, 1) := by decide +kernel
theorem dX6_by_142 : decode cX6_by 142 = .ok (.iload_n 2, 1) := by decide +kernel
theorem dX6_by_143 : decode cX6_by 143 = .ok (.iadd, 1) := by decide +kernel
theorem dX6_by_144 : decode cX6_by 144 = .ok (.iaload, 1) := by decide +kernel
theorem dX6_by_145 : decode cX6_by 145 = .ok (.ireturn, 1) := by decide +kernel
theorem dX6_by_146 : decode cX6_by 146 = .ok (.aload_n 0, 1) := by decide +kernel
theorem dX6_by_147 : decode cX6_by 147 = .ok (.getfield 16, 3) := by decide +kernel
theorem dX6_by_150 : decode cX6_by 150 = .ok (.iload 4, 2) := by decide +kernel
theorem dX6_by_152 : decode cX6_by 152 = .ok (.bipush 26, 2) := by decide +kernel
theorem dX6_by_154 : decode cX6_by 154 = .ok (.iadd, 1) := by decide +kernel
theorem dX6_by_155 : decode cX6_by 155 = .ok (.iload_n 2, 1) := by decide +kernel
theorem dX6_by_156 : decode cX6_by 156 = .ok (.iadd, 1) := by decide +kernel
theorem dX6_by_157 : decode cX6_by 157 = .ok (.iaload, 1) := by decide +kernel
theorem dX6_by_158 : decode cX6_by 158 = .ok (.iload_n 1, 1) := by decide +kernel
theorem dX6_by_159 : decode cX6_by 159 = .ok (.iconst 1, 1) := by decide +kernel
theorem dX6_by_160 : decode cX6_by 160 = .ok (.if_icmp .ne 19, 3) := by decide +kernel
theorem dX6_by_163 : decode cX6_by 163 = .ok (.aload_n 0, 1) := by decide +kernel
theorem dX6_by_164 : decode cX6_by 164 = .ok (.getfield 16, 3) := by decide +kernel
theorem dX6_by_167 : decode cX6_by 167 = .ok (.iload 4, 2) := by decide +kernel
theorem dX6_by_169 : decode cX6_by 169 = .ok (.bipush 8, 2) := by decide +kernel
theorem dX6_by_171 : decode cX6_by 171 = .ok (.iadd, 1) := by decide +kernel
theorem dX6_by_172 : decode cX6_by 172 = .ok (.iload 5, 2) := by decide +kernel
theorem dX6_by_174 : decode cX6_by 174 = .ok (.iadd, 1) := by decide +kernel
theorem dX6_by_175 : decode cX6_by 175 = .ok (.iaload, 1) := by decide +kernel
theorem dX6_by_176 : decode cX6_by 176 = .ok (.goto 4, 3) := by decide +kernel
theorem dX6_by_179 : decode cX6_by 179 = .ok (.iconst 0, 1) := by decide +kernel
theorem dX6_by_180 : decode cX6_by 180 = .ok (.ior, 1) := by decide +kernel
theorem dX6_by_181 : decode cX6_by 181 = .ok (.ireturn, 1) := by decide +kernel
theorem dX6_answers_0 : decode cX6_answers 0 = .ok (.aload_n 0, 1) := by decide +kernel
theorem dX6_answers_1 : decode cX6_answers 1 = .ok (.iload_n 1, 1) := by decide +kernel
theorem dX6_answers_2 : decode cX6_answers 2 = .ok (.iload_n 2, 1) := by decide +kernel
theorem dX6_answers_3 : decode cX6_answers 3 = .ok (.iconst 0, 1) := by decide +kernel
theorem dX6_answers_4 : decode cX6_answers 4 = .ok (.invokevirtual 91, 3) := by decide +kernel
theorem dX6_answers_7 : decode cX6_answers 7 = .ok (.istore_n 3, 1) := by decide +kernel
theorem dX6_answers_8 : decode cX6_answers 8 = .ok (.iconst 1, 1) := by decide +kernel
theorem dX6_answers_9 : decode cX6_answers 9 = .ok (.istore 4, 2) := by decide +kernel
theorem dX6_answers_11 : decode cX6_answers 11 = .ok (.iload 4, 2) := by decide +kernel
theorem dX6_answers_13 : decode cX6_answers 13 = .ok (.aload_n 0, 1) := by decide +kernel
theorem dX6_answers_14 : decode cX6_answers 14 = .ok (.getfield 54, 3) := by decide +kernel
theorem dX6_answers_17 : decode cX6_answers 17 = .ok (.if_icmp .ge 24, 3) := by decide +kernel
theorem dX6_answers_20 : decode cX6_answers 20 = .ok (.aload_n 0, 1) := by decide +kernel
theorem dX6_answers_21 : decode cX6_answers 21 = .ok (.iload_n 1, 1) := by decide +kernel
theorem dX6_answers_22 : decode cX6_answers 22 = .ok (.iload_n 2, 1) := by decide +kernel
theorem dX6_answers_23 : decode cX6_answers 23 = .ok (.iload 4, 2) := by decide +kernel
theorem dX6_answers_25 : decode cX6_answers 25 = .ok (.invokevirtual 91, 3) := by decide +kernel
theorem dX6_answers_28 : decode cX6_answers 28 = .ok (.iload_n 3, 1) := by decide +kernel
theorem dX6_answers_29 : decode cX6_answers 29 = .ok (.if_icmp .eq 6, 3) := by decide +kernel
theorem dX6_answers_32 : decode cX6_answers 32 = .ok (.bipush (-3), 2) := by decide +kernel
theorem dX6_answers_34 : decode cX6_answers 34 = .ok (.ireturn, 1) := by decide +kernel
theorem dX6_answers_35 : decode cX6_answers 35 = .ok (.iinc 4 1, 3) := by decide +kernel
theorem dX6_answers_38 : decode cX6_answers 38 = .ok (.goto (-27), 3) := by decide +kernel
theorem dX6_answers_41 : decode cX6_answers 41 = .ok (.iload_n 3, 1) := by decide +kernel
theorem dX6_answers_42 : decode cX6_answers 42 = .ok (.ireturn, 1) := by decide +kernel
theorem dX6_answer_0 : decode cX6_answer 0 = .ok (.iload_n 1, 1) := by decide +kernel
theorem dX6_answer_1 : decode cX6_answer 1 = .ok (.iload_n 2, 1) := by decide +kernel
theorem dX6_answer_2 : decode cX6_answer 2 = .ok (.invokestatic 95, 3) := by decide +kernel
theorem dX6_answer_5 : decode cX6_answer 5 = .ok (.ifCond .eq 15, 3) := by decide +kernel
theorem dX6_answer_8 : decode cX6_answer 8 = .ok (.iload_n 3, 1) := by decide +kernel
theorem dX6_answer_9 : decode cX6_answer 9 = .ok (.iconst 0, 1) := by decide +kernel
theorem dX6_answer_10 : decode cX6_answer 10 = .ok (.aload_n 0, 1) := by decide +kernel
theorem dX6_answer_11 : decode cX6_answer 11 = .ok (.getfield 35, 3) := by decide +kernel
theorem dX6_answer_14 : decode cX6_answer 14 = .ok (.invokestatic 31, 3) := by decide +kernel
theorem dX6_answer_17 : decode cX6_answer 17 = .ok (.ifCond .ne 5, 3) := by decide +kernel
theorem dX6_answer_20 : decode cX6_answer 20 = .ok (.iconst (-1), 1) := by decide +kernel
theorem dX6_answer_21 : decode cX6_answer 21 = .ok (.ireturn, 1) := by decide +kernel
theorem dX6_answer_22 : decode cX6_answer 22 = .ok (.aload_n 0, 1) := by decide +kernel
theorem dX6_answer_23 : decode cX6_answer 23 = .ok (.iload_n 3, 1) := by decide +kernel
theorem dX6_answer_24 : decode cX6_answer 24 = .ok (.invokevirtual 50, 3) := by decide +kernel
theorem dX6_answer_27 : decode cX6_answer 27 = .ok (.aload_n 0, 1) := by decide +kernel
theorem dX6_answer_28 : decode cX6_answer 28 = .ok (.iload_n 1, 1) := by decide +kernel
theorem dX6_answer_29 : decode cX6_answer 29 = .ok (.iload_n 2, 1) := by decide +kernel
theorem dX6_answer_30 : decode cX6_answer 30 = .ok (.invokevirtual 98, 3) := by decide +kernel
theorem dX6_answer_33 : decode cX6_answer 33 = .ok (.ireturn, 1) := by decide +kernel
theorem dX6_bits_0 : decode cX6_bits 0 = .ok (.iconst 0, 1) := by decide +kernel
theorem dX6_bits_1 : decode cX6_bits 1 = .ok (.istore_n 1, 1) := by decide +kernel
theorem dX6_bits_2 : decode cX6_bits 2 = .ok (.iconst 0, 1) := by decide +kernel
theorem dX6_bits_3 : decode cX6_bits 3 = .ok (.istore_n 2, 1) := by decide +kernel
theorem dX6_bits_4 : decode cX6_bits 4 = .ok (.iload_n 2, 1) := by decide +kernel
theorem dX6_bits_5 : decode cX6_bits 5 = .ok (.bipush 14, 2) := by decide +kernel
theorem dX6_bits_7 : decode cX6_bits 7 = .ok (.if_icmp .ge 17, 3) := by decide +kernel
theorem dX6_bits_10 : decode cX6_bits 10 = .ok (.iload_n 1, 1) := by decide +kernel
theorem dX6_bits_11 : decode cX6_bits 11 = .ok (.iload_n 0, 1) := by decide +kernel
theorem dX6_bits_12 : decode cX6_bits 12 = .ok (.iload_n 2, 1) := by decide +kernel
theorem dX6_bits_13 : decode cX6_bits 13 = .ok (.ishr, 1) := by decide +kernel
theorem dX6_bits_14 : decode cX6_bits 14 = .ok (.iconst 1, 1) := by decide +kernel
theorem dX6_bits_15 : decode cX6_bits 15 = .ok (.iand, 1) := by decide +kernel
theorem dX6_bits_16 : decode cX6_bits 16 = .ok (.iadd, 1) := by decide +kernel
theorem dX6_bits_17 : decode cX6_bits 17 = .ok (.istore_n 1, 1) := by decide +kernel
theorem dX6_bits_18 : decode cX6_bits 18 = .ok (.iinc 2 1, 3) := by decide +kernel
theorem dX6_bits_21 : decode cX6_bits 21 = .ok (.goto (-17), 3) := by decide +kernel
theorem dX6_bits_24 : decode cX6_bits 24 = .ok (.iload_n 1, 1) := by decide +kernel
theorem dX6_bits_25 : decode cX6_bits 25 = .ok (.ireturn, 1) := by decide +kernel
theorem dX6_level_0 : decode cX6_level 0 = .ok (.iload_n 1, 1) := by decide +kernel
theorem dX6_level_1 : decode cX6_level 1 = .ok (.iload_n 2, 1) := by decide +kernel
theorem dX6_level_2 : decode cX6_level 2 = .ok (.invokestatic 95, 3) := by decide +kernel
theorem dX6_level_5 : decode cX6_level 5 = .ok (.ifCond .eq 15, 3) := by decide +kernel
theorem dX6_level_8 : decode cX6_level 8 = .ok (.iload_n 3, 1) := by decide +kernel
theorem dX6_level_9 : decode cX6_level 9 = .ok (.iconst 0, 1) := by decide +kernel
theorem dX6_level_10 : decode cX6_level 10 = .ok (.aload_n 0, 1) := by decide +kernel
theorem dX6_level_11 : decode cX6_level 11 = .ok (.getfield 35, 3) := by decide +kernel
theorem dX6_level_14 : decode cX6_level 14 = .ok (.invokestatic 31, 3) := by decide +kernel
theorem dX6_level_17 : decode cX6_level 17 = .ok (.ifCond .ne 5, 3) := by decide +kernel
theorem dX6_level_20 : decode cX6_level 20 = .ok (.iconst (-1), 1) := by decide +kernel
theorem dX6_level_21 : decode cX6_level 21 = .ok (.ireturn, 1) := by decide +kernel
theorem dX6_level_22 : decode cX6_level 22 = .ok (.aload_n 0, 1) := by decide +kernel
theorem dX6_level_23 : decode cX6_level 23 = .ok (.iload_n 3, 1) := by decide +kernel
theorem dX6_level_24 : decode cX6_level 24 = .ok (.invokevirtual 50, 3) := by decide +kernel
theorem dX6_level_27 : decode cX6_level 27 = .ok (.iconst 0, 1) := by decide +kernel
theorem dX6_level_28 : decode cX6_level 28 = .ok (.istore 4, 2) := by decide +kernel
theorem dX6_level_30 : decode cX6_level 30 = .ok (.iconst 0, 1) := by decide +kernel
theorem dX6_level_31 : decode cX6_level 31 = .ok (.istore 5, 2) := by decide +kernel
theorem dX6_level_33 : decode cX6_level 33 = .ok (.iload 5, 2) := by decide +kernel
theorem dX6_level_35 : decode cX6_level 35 = .ok (.aload_n 0, 1) := by decide +kernel
theorem dX6_level_36 : decode cX6_level 36 = .ok (.getfield 54, 3) := by decide +kernel
theorem dX6_level_39 : decode cX6_level 39 = .ok (.if_icmp .ge 33, 3) := by decide +kernel
theorem dX6_level_42 : decode cX6_level 42 = .ok (.aload_n 0, 1) := by decide +kernel
theorem dX6_level_43 : decode cX6_level 43 = .ok (.iload_n 1, 1) := by decide +kernel
theorem dX6_level_44 : decode cX6_level 44 = .ok (.iload_n 2, 1) := by decide +kernel
theorem dX6_level_45 : decode cX6_level 45 = .ok (.iload 5, 2) := by decide +kernel
theorem dX6_level_47 : decode cX6_level 47 = .ok (.invokevirtual 101, 3) := by decide +kernel
theorem dX6_level_50 : decode cX6_level 50 = .ok (.invokestatic 104, 3) := by decide +kernel
theorem dX6_level_53 : decode cX6_level 53 = .ok (.istore 6, 2) := by decide +kernel
theorem dX6_level_55 : decode cX6_level 55 = .ok (.iload 6, 2) := by decide +kernel
theorem dX6_level_57 : decode cX6_level 57 = .ok (.iload 4, 2) := by decide +kernel
theorem dX6_level_59 : decode cX6_level 59 = .ok (.if_icmp .le 7, 3) := by decide +kernel
theorem dX6_level_62 : decode cX6_level 62 = .ok (.iload 6, 2) := by decide +kernel
theorem dX6_level_64 : decode cX6_level 64 = .ok (.istore 4, 2) := by decide +kernel
theorem dX6_level_66 : decode cX6_level 66 = .ok (.iinc 5 1, 3) := by decide +kernel
theorem dX6_level_69 : decode cX6_level 69 = .ok (.goto (-36), 3) := by decide +kernel
theorem dX6_level_72 : decode cX6_level 72 = .ok (.iload 4, 2) := by decide +kernel
theorem dX6_level_74 : decode cX6_level 74 = .ok (.ireturn, 1) := by decide +kernel
theorem dX6_grounds_0 : decode cX6_grounds 0 = .ok (.iload_n 1, 1) := by decide +kernel
theorem dX6_grounds_1 : decode cX6_grounds 1 = .ok (.iload_n 2, 1) := by decide +kernel
theorem dX6_grounds_2 : decode cX6_grounds 2 = .ok (.invokestatic 95, 3) := by decide +kernel
theorem dX6_grounds_5 : decode cX6_grounds 5 = .ok (.ifCond .eq 7, 3) := by decide +kernel
theorem dX6_grounds_8 : decode cX6_grounds 8 = .ok (.iload_n 3, 1) := by decide +kernel
theorem dX6_grounds_9 : decode cX6_grounds 9 = .ok (.ifCond .ge 5, 3) := by decide +kernel
theorem dX6_grounds_12 : decode cX6_grounds 12 = .ok (.iconst (-1), 1) := by decide +kernel
theorem dX6_grounds_13 : decode cX6_grounds 13 = .ok (.ireturn, 1) := by decide +kernel
theorem dX6_grounds_14 : decode cX6_grounds 14 = .ok (.aload_n 0, 1) := by decide +kernel
theorem dX6_grounds_15 : decode cX6_grounds 15 = .ok (.aload_n 0, 1) := by decide +kernel
theorem dX6_grounds_16 : decode cX6_grounds 16 = .ok (.getfield 35, 3) := by decide +kernel
theorem dX6_grounds_19 : decode cX6_grounds 19 = .ok (.invokevirtual 50, 3) := by decide +kernel
theorem dX6_grounds_22 : decode cX6_grounds 22 = .ok (.iload_n 3, 1) := by decide +kernel
theorem dX6_grounds_23 : decode cX6_grounds 23 = .ok (.aload_n 0, 1) := by decide +kernel
theorem dX6_grounds_24 : decode cX6_grounds 24 = .ok (.getfield 54, 3) := by decide +kernel
theorem dX6_grounds_27 : decode cX6_grounds 27 = .ok (.if_icmp .ge 13, 3) := by decide +kernel
theorem dX6_grounds_30 : decode cX6_grounds 30 = .ok (.aload_n 0, 1) := by decide +kernel
theorem dX6_grounds_31 : decode cX6_grounds 31 = .ok (.iload_n 1, 1) := by decide +kernel
theorem dX6_grounds_32 : decode cX6_grounds 32 = .ok (.iload_n 2, 1) := by decide +kernel
theorem dX6_grounds_33 : decode cX6_grounds 33 = .ok (.iload_n 3, 1) := by decide +kernel
theorem dX6_grounds_34 : decode cX6_grounds 34 = .ok (.invokevirtual 101, 3) := by decide +kernel
theorem dX6_grounds_37 : decode cX6_grounds 37 = .ok (.goto 4, 3) := by decide +kernel
theorem dX6_grounds_40 : decode cX6_grounds 40 = .ok (.iconst (-1), 1) := by decide +kernel
theorem dX6_grounds_41 : decode cX6_grounds 41 = .ok (.ireturn, 1) := by decide +kernel
theorem dX6_isOfKind_0 : decode cX6_isOfKind 0 = .ok (.iload_n 0, 1) := by decide +kernel
theorem dX6_isOfKind_1 : decode cX6_isOfKind 1 = .ok (.iconst 3, 1) := by decide +kernel
theorem dX6_isOfKind_2 : decode cX6_isOfKind 2 = .ok (.if_icmp .ne 11, 3) := by decide +kernel
theorem dX6_isOfKind_5 : decode cX6_isOfKind 5 = .ok (.iload_n 1, 1) := by decide +kernel
theorem dX6_isOfKind_6 : decode cX6_isOfKind 6 = .ok (.iconst 0, 1) := by decide +kernel
theorem dX6_isOfKind_7 : decode cX6_isOfKind 7 = .ok (.bipush 10, 2) := by decide +kernel
theorem dX6_isOfKind_9 : decode cX6_isOfKind 9 = .ok (.invokestatic 31, 3) := by decide +kernel
theorem dX6_isOfKind_12 : decode cX6_isOfKind 12 = .ok (.ireturn, 1) := by decide +kernel
theorem dX6_isOfKind_13 : decode cX6_isOfKind 13 = .ok (.iload_n 0, 1) := by decide +kernel
theorem dX6_isOfKind_14 : decode cX6_isOfKind 14 = .ok (.iconst 2, 1) := by decide +kernel
theorem dX6_isOfKind_15 : decode cX6_isOfKind 15 = .ok (.if_icmp .ne 25, 3) := by decide +kernel
theorem dX6_isOfKind_18 : decode cX6_isOfKind 18 = .ok (.iload_n 1, 1) := by decide +kernel
theorem dX6_isOfKind_19 : decode cX6_isOfKind 19 = .ok (.iconst 0, 1) := by decide +kernel
theorem dX6_isOfKind_20 : decode cX6_isOfKind 20 = .ok (.bipush 7, 2) := by decide +kernel
theorem dX6_isOfKind_22 : decode cX6_isOfKind 22 = .ok (.invokestatic 31, 3) := by decide +kernel
theorem dX6_isOfKind_25 : decode cX6_isOfKind 25 = .ok (.ifCond .ne 9, 3) := by decide +kernel
theorem dX6_isOfKind_28 : decode cX6_isOfKind 28 = .ok (.iload_n 1, 1) := by decide +kernel
theorem dX6_isOfKind_29 : decode cX6_isOfKind 29 = .ok (.bipush 9, 2) := by decide +kernel
theorem dX6_isOfKind_31 : decode cX6_isOfKind 31 = .ok (.if_icmp .ne 7, 3) := by decide +kernel
theorem dX6_isOfKind_34 : decode cX6_isOfKind 34 = .ok (.iconst 1, 1) := by decide +kernel
theorem dX6_isOfKind_35 : decode cX6_isOfKind 35 = .ok (.goto 4, 3) := by decide +kernel
theorem dX6_isOfKind_38 : decode cX6_isOfKind 38 = .ok (.iconst 0, 1) := by decide +kernel
theorem dX6_isOfKind_39 : decode cX6_isOfKind 39 = .ok (.ireturn, 1) := by decide +kernel
theorem dX6_isOfKind_40 : decode cX6_isOfKind 40 = .ok (.iload_n 1, 1) := by decide +kernel
theorem dX6_isOfKind_41 : decode cX6_isOfKind 41 = .ok (.bipush 20, 2) := by decide +kernel
theorem dX6_isOfKind_43 : decode cX6_isOfKind 43 = .ok (.bipush 27, 2) := by decide +kernel
theorem dX6_isOfKind_45 : decode cX6_isOfKind 45 = .ok (.invokestatic 31, 3) := by decide +kernel
theorem dX6_isOfKind_48 : decode cX6_isOfKind 48 = .ok (.ireturn, 1) := by decide +kernel
theorem dX6_judge_0 : decode cX6_judge 0 = .ok (.aload_n 0, 1) := by decide +kernel
theorem dX6_judge_1 : decode cX6_judge 1 = .ok (.iload_n 1, 1) := by decide +kernel
theorem dX6_judge_2 : decode cX6_judge 2 = .ok (.iload_n 2, 1) := by decide +kernel
theorem dX6_judge_3 : decode cX6_judge 3 = .ok (.aload_n 0, 1) := by decide +kernel
theorem dX6_judge_4 : decode cX6_judge 4 = .ok (.getfield 35, 3) := by decide +kernel
theorem dX6_judge_7 : decode cX6_judge 7 = .ok (.invokevirtual 108, 3) := by decide +kernel
theorem dX6_judge_10 : decode cX6_judge 10 = .ok (.istore 4, 2) := by decide +kernel
theorem dX6_judge_12 : decode cX6_judge 12 = .ok (.iload 4, 2) := by decide +kernel
theorem dX6_judge_14 : decode cX6_judge 14 = .ok (.ifCond .ge 5, 3) := by decide +kernel
theorem dX6_judge_17 : decode cX6_judge 17 = .ok (.iconst (-1), 1) := by decide +kernel
theorem dX6_judge_18 : decode cX6_judge 18 = .ok (.ireturn, 1) := by decide +kernel
theorem dX6_judge_19 : decode cX6_judge 19 = .ok (.iload 4, 2) := by decide +kernel
theorem dX6_judge_21 : decode cX6_judge 21 = .ok (.iload_n 3, 1) := by decide +kernel
theorem dX6_judge_22 : decode cX6_judge 22 = .ok (.if_icmp .ne 5, 3) := by decide +kernel
theorem dX6_judge_25 : decode cX6_judge 25 = .ok (.iconst 0, 1) := by decide +kernel
theorem dX6_judge_26 : decode cX6_judge 26 = .ok (.ireturn, 1) := by decide +kernel
theorem dX6_judge_27 : decode cX6_judge 27 = .ok (.iload_n 1, 1) := by decide +kernel
theorem dX6_judge_28 : decode cX6_judge 28 = .ok (.iload_n 3, 1) := by decide +kernel
theorem dX6_judge_29 : decode cX6_judge 29 = .ok (.invokestatic 111, 3) := by decide +kernel
theorem dX6_judge_32 : decode cX6_judge 32 = .ok (.ifCond .ne 5, 3) := by decide +kernel
theorem dX6_judge_35 : decode cX6_judge 35 = .ok (.iconst 1, 1) := by decide +kernel
theorem dX6_judge_36 : decode cX6_judge 36 = .ok (.ireturn, 1) := by decide +kernel
theorem dX6_judge_37 : decode cX6_judge 37 = .ok (.iconst 0, 1) := by decide +kernel
theorem dX6_judge_38 : decode cX6_judge 38 = .ok (.istore 5, 2) := by decide +kernel
theorem dX6_judge_40 : decode cX6_judge 40 = .ok (.iload 5, 2) := by decide +kernel
theorem dX6_judge_42 : decode cX6_judge 42 = .ok (.aload_n 0, 1) := by decide +kernel
theorem dX6_judge_43 : decode cX6_judge 43 = .ok (.getfield 35, 3) := by decide +kernel
theorem dX6_judge_46 : decode cX6_judge 46 = .ok (.if_icmp .ge 23, 3) := by decide +kernel
theorem dX6_judge_49 : decode cX6_judge 49 = .ok (.aload_n 0, 1) := by decide +kernel
theorem dX6_judge_50 : decode cX6_judge 50 = .ok (.iload_n 1, 1) := by decide +kernel
theorem dX6_judge_51 : decode cX6_judge 51 = .ok (.iload_n 2, 1) := by decide +kernel
theorem dX6_judge_52 : decode cX6_judge 52 = .ok (.iload 5, 2) := by decide +kernel
theorem dX6_judge_54 : decode cX6_judge 54 = .ok (.invokevirtual 108, 3) := by decide +kernel
theorem dX6_judge_57 : decode cX6_judge 57 = .ok (.iload_n 3, 1) := by decide +kernel
theorem dX6_judge_58 : decode cX6_judge 58 = .ok (.if_icmp .ne 5, 3) := by decide +kernel
theorem dX6_judge_61 : decode cX6_judge 61 = .ok (.iconst 2, 1) := by decide +kernel
theorem dX6_judge_62 : decode cX6_judge 62 = .ok (.ireturn, 1) := by decide +kernel
theorem dX6_judge_63 : decode cX6_judge 63 = .ok (.iinc 5 1, 3) := by decide +kernel
theorem dX6_judge_66 : decode cX6_judge 66 = .ok (.goto (-26), 3) := by decide +kernel
theorem dX6_judge_69 : decode cX6_judge 69 = .ok (.iconst 3, 1) := by decide +kernel
theorem dX6_judge_70 : decode cX6_judge 70 = .ok (.ireturn, 1) := by decide +kernel
theorem dX6_asked_0 : decode cX6_asked 0 = .ok (.aload_n 0, 1) := by decide +kernel
theorem dX6_asked_1 : decode cX6_asked 1 = .ok (.iload_n 1, 1) := by decide +kernel
theorem dX6_asked_2 : decode cX6_asked 2 = .ok (.iload_n 2, 1) := by decide +kernel
theorem dX6_asked_3 : decode cX6_asked 3 = .ok (.invokevirtual 98, 3) := by decide +kernel
theorem dX6_asked_6 : decode cX6_asked 6 = .ok (.ifCond .ge 5, 3) := by decide +kernel
theorem dX6_asked_9 : decode cX6_asked 9 = .ok (.iconst 0, 1) := by decide +kernel
theorem dX6_asked_10 : decode cX6_asked 10 = .ok (.ireturn, 1) := by decide +kernel
theorem dX6_asked_11 : decode cX6_asked 11 = .ok (.aload_n 0, 1) := by decide +kernel
theorem dX6_asked_12 : decode cX6_asked 12 = .ok (.iload_n 1, 1) := by decide +kernel
theorem dX6_asked_13 : decode cX6_asked 13 = .ok (.iload_n 2, 1) := by decide +kernel
theorem dX6_asked_14 : decode cX6_asked 14 = .ok (.iconst 0, 1) := by decide +kernel
theorem dX6_asked_15 : decode cX6_asked 15 = .ok (.invokevirtual 101, 3) := by decide +kernel
theorem dX6_asked_18 : decode cX6_asked 18 = .ok (.istore_n 3, 1) := by decide +kernel
theorem dX6_asked_19 : decode cX6_asked 19 = .ok (.iconst 1, 1) := by decide +kernel
theorem dX6_asked_20 : decode cX6_asked 20 = .ok (.istore 4, 2) := by decide +kernel
theorem dX6_asked_22 : decode cX6_asked 22 = .ok (.iload 4, 2) := by decide +kernel
theorem dX6_asked_24 : decode cX6_asked 24 = .ok (.aload_n 0, 1) := by decide +kernel
theorem dX6_asked_25 : decode cX6_asked 25 = .ok (.getfield 54, 3) := by decide +kernel
theorem dX6_asked_28 : decode cX6_asked 28 = .ok (.if_icmp .ge 20, 3) := by decide +kernel
theorem dX6_asked_31 : decode cX6_asked 31 = .ok (.iload_n 3, 1) := by decide +kernel
theorem dX6_asked_32 : decode cX6_asked 32 = .ok (.aload_n 0, 1) := by decide +kernel
theorem dX6_asked_33 : decode cX6_asked 33 = .ok (.iload_n 1, 1) := by decide +kernel
theorem dX6_asked_34 : decode cX6_asked 34 = .ok (.iload_n 2, 1) := by decide +kernel
theorem dX6_asked_35 : decode cX6_asked 35 = .ok (.iload 4, 2) := by decide +kernel
theorem dX6_asked_37 : decode cX6_asked 37 = .ok (.invokevirtual 101, 3) := by decide +kernel
theorem dX6_asked_40 : decode cX6_asked 40 = .ok (.iand, 1) := by decide +kernel
theorem dX6_asked_41 : decode cX6_asked 41 = .ok (.istore_n 3, 1) := by decide +kernel
theorem dX6_asked_42 : decode cX6_asked 42 = .ok (.iinc 4 1, 3) := by decide +kernel
theorem dX6_asked_45 : decode cX6_asked 45 = .ok (.goto (-23), 3) := by decide +kernel
theorem dX6_asked_48 : decode cX6_asked 48 = .ok (.iload_n 3, 1) := by decide +kernel
theorem dX6_asked_49 : decode cX6_asked 49 = .ok (.ireturn, 1) := by decide +kernel
theorem dX6_asks_0 : decode cX6_asks 0 = .ok (.iload_n 1, 1) := by decide +kernel
theorem dX6_asks_1 : decode cX6_asks 1 = .ok (.iload_n 2, 1) := by decide +kernel
theorem dX6_asks_2 : decode cX6_asks 2 = .ok (.invokestatic 95, 3) := by decide +kernel
theorem dX6_asks_5 : decode cX6_asks 5 = .ok (.ifCond .ne 5, 3) := by decide +kernel
theorem dX6_asks_8 : decode cX6_asks 8 = .ok (.iconst (-1), 1) := by decide +kernel
theorem dX6_asks_9 : decode cX6_asks 9 = .ok (.ireturn, 1) := by decide +kernel
theorem dX6_asks_10 : decode cX6_asks 10 = .ok (.aload_n 0, 1) := by decide +kernel
theorem dX6_asks_11 : decode cX6_asks 11 = .ok (.aload_n 0, 1) := by decide +kernel
theorem dX6_asks_12 : decode cX6_asks 12 = .ok (.getfield 35, 3) := by decide +kernel
theorem dX6_asks_15 : decode cX6_asks 15 = .ok (.invokevirtual 50, 3) := by decide +kernel
theorem dX6_asks_18 : decode cX6_asks 18 = .ok (.aload_n 0, 1) := by decide +kernel
theorem dX6_asks_19 : decode cX6_asks 19 = .ok (.iload_n 1, 1) := by decide +kernel
theorem dX6_asks_20 : decode cX6_asks 20 = .ok (.iload_n 2, 1) := by decide +kernel
theorem dX6_asks_21 : decode cX6_asks 21 = .ok (.invokevirtual 114, 3) := by decide +kernel
theorem dX6_asks_24 : decode cX6_asks 24 = .ok (.ireturn, 1) := by decide +kernel
theorem dX6_gathers_0 : decode cX6_gathers 0 = .ok (.aload_n 0, 1) := by decide +kernel
theorem dX6_gathers_1 : decode cX6_gathers 1 = .ok (.aload_n 0, 1) := by decide +kernel
theorem dX6_gathers_2 : decode cX6_gathers 2 = .ok (.getfield 35, 3) := by decide +kernel
theorem dX6_gathers_5 : decode cX6_gathers 5 = .ok (.invokevirtual 50, 3) := by decide +kernel
theorem dX6_gathers_8 : decode cX6_gathers 8 = .ok (.iconst 0, 1) := by decide +kernel
theorem dX6_gathers_9 : decode cX6_gathers 9 = .ok (.istore_n 1, 1) := by decide +kernel
theorem dX6_gathers_10 : decode cX6_gathers 10 = .ok (.iconst 0, 1) := by decide +kernel
theorem dX6_gathers_11 : decode cX6_gathers 11 = .ok (.istore_n 2, 1) := by decide +kernel
theorem dX6_gathers_12 : decode cX6_gathers 12 = .ok (.iload_n 2, 1) := by decide +kernel
theorem dX6_gathers_13 : decode cX6_gathers 13 = .ok (.iconst 4, 1) := by decide +kernel
theorem dX6_gathers_14 : decode cX6_gathers 14 = .ok (.if_icmp .ge 162, 3) := by decide +kernel
theorem dX6_gathers_17 : decode cX6_gathers 17 = .ok (.iconst 0, 1) := by decide +kernel
theorem dX6_gathers_18 : decode cX6_gathers 18 = .ok (.istore_n 3, 1) := by decide +kernel
theorem dX6_gathers_19 : decode cX6_gathers 19 = .ok (.iload_n 2, 1) := by decide +kernel
theorem dX6_gathers_20 : decode cX6_gathers 20 = .ok (.iload_n 3, 1) := by decide +kernel
theorem dX6_gathers_21 : decode cX6_gathers 21 = .ok (.invokestatic 95, 3) := by decide +kernel
theorem dX6_gathers_24 : decode cX6_gathers 24 = .ok (.ifCond .eq 146, 3) := by decide +kernel
theorem dX6_gathers_27 : decode cX6_gathers 27 = .ok (.aload_n 0, 1) := by decide +kernel
theorem dX6_gathers_28 : decode cX6_gathers 28 = .ok (.iload_n 2, 1) := by decide +kernel
theorem dX6_gathers_29 : decode cX6_gathers 29 = .ok (.iload_n 3, 1) := by decide +kernel
theorem dX6_gathers_30 : decode cX6_gathers 30 = .ok (.invokevirtual 114, 3) := by decide +kernel
theorem dX6_gathers_33 : decode cX6_gathers 33 = .ok (.istore 4, 2) := by decide +kernel
theorem dX6_gathers_35 : decode cX6_gathers 35 = .ok (.iload 4, 2) := by decide +kernel
theorem dX6_gathers_37 : decode cX6_gathers 37 = .ok (.ifCond .eq 7, 3) := by decide +kernel
theorem dX6_gathers_40 : decode cX6_gathers 40 = .ok (.iconst 1, 1) := by decide +kernel
theorem dX6_gathers_41 : decode cX6_gathers 41 = .ok (.goto 4, 3) := by decide +kernel
theorem dX6_gathers_44 : decode cX6_gathers 44 = .ok (.iconst 0, 1) := by decide +kernel
theorem dX6_gathers_45 : decode cX6_gathers 45 = .ok (.istore 5, 2) := by decide +kernel
theorem dX6_gathers_47 : decode cX6_gathers 47 = .ok (.iconst 0, 1) := by decide +kernel
theorem dX6_gathers_48 : decode cX6_gathers 48 = .ok (.istore 6, 2) := by decide +kernel
theorem dX6_gathers_50 : decode cX6_gathers 50 = .ok (.iload 6, 2) := by decide +kernel
theorem dX6_gathers_52 : decode cX6_gathers 52 = .ok (.iload_n 1, 1) := by decide +kernel
theorem dX6_gathers_53 : decode cX6_gathers 53 = .ok (.if_icmp .ge 36, 3) := by decide +kernel
theorem dX6_gathers_56 : decode cX6_gathers 56 = .ok (.iload 5, 2) := by decide +kernel
theorem dX6_gathers_58 : decode cX6_gathers 58 = .ok (.ifCond .eq 22, 3) := by decide +kernel
theorem dX6_gathers_61 : decode cX6_gathers 61 = .ok (.iload 4, 2) := by decide +kernel
theorem dX6_gathers_63 : decode cX6_gathers 63 = .ok (.aload_n 0, 1) := by decide +kernel
theorem dX6_gathers_64 : decode cX6_gathers 64 = .ok (.getfield 22, 3) := by decide +kernel
theorem dX6_gathers_67 : decode cX6_gathers 67 = .ok (.iload 6, 2) := by decide +kernel
theorem dX6_gathers_69 : decode cX6_gathers 69 = .ok (.iaload, 1) := by decide +kernel
theorem dX6_gathers_70 : decode cX6_gathers 70 = .ok (.iconst (-1), 1) := by decide +kernel
theorem dX6_gathers_71 : decode cX6_gathers 71 = .ok (.ixor, 1) := by decide +kernel
theorem dX6_gathers_72 : decode cX6_gathers 72 = .ok (.iand, 1) := by decide +kernel
theorem dX6_gathers_73 : decode cX6_gathers 73 = .ok (.ifCond .eq 7, 3) := by decide +kernel
theorem dX6_gathers_76 : decode cX6_gathers 76 = .ok (.iconst 1, 1) := by decide +kernel
theorem dX6_gathers_77 : decode cX6_gathers 77 = .ok (.goto 4, 3) := by decide +kernel
theorem dX6_gathers_80 : decode cX6_gathers 80 = .ok (.iconst 0, 1) := by decide +kernel
theorem dX6_gathers_81 : decode cX6_gathers 81 = .ok (.istore 5, 2) := by decide +kernel
theorem dX6_gathers_83 : decode cX6_gathers 83 = .ok (.iinc 6 1, 3) := by decide +kernel
theorem dX6_gathers_86 : decode cX6_gathers 86 = .ok (.goto (-36), 3) := by decide +kernel
theorem dX6_gathers_89 : decode cX6_gathers 89 = .ok (.iload 5, 2) := by decide +kernel
theorem dX6_gathers_91 : decode cX6_gathers 91 = .ok (.ifCond .ne 6, 3) := by decide +kernel
theorem dX6_gathers_94 : decode cX6_gathers 94 = .ok (.goto 70, 3) := by decide +kernel
theorem dX6_gathers_97 : decode cX6_gathers 97 = .ok (.iconst 0, 1) := by decide +kernel
theorem dX6_gathers_98 : decode cX6_gathers 98 = .ok (.istore 6, 2) := by decide +kernel
theorem dX6_gathers_100 : decode cX6_gathers 100 = .ok (.iconst 0, 1) := by decide +kernel
theorem dX6_gathers_101 : decode cX6_gathers 101 = .ok (.istore 7, 2) := by decide +kernel
theorem dX6_gathers_103 : decode cX6_gathers 103 = .ok (.iload 7, 2) := by decide +kernel
theorem dX6_gathers_105 : decode cX6_gathers 105 = .ok (.iload_n 1, 1) := by decide +kernel
theorem dX6_gathers_106 : decode cX6_gathers 106 = .ok (.if_icmp .ge 44, 3) := by decide +kernel
theorem dX6_gathers_109 : decode cX6_gathers 109 = .ok (.aload_n 0, 1) := by decide +kernel
theorem dX6_gathers_110 : decode cX6_gathers 110 = .ok (.getfield 22, 3) := by decide +kernel
theorem dX6_gathers_113 : decode cX6_gathers 113 = .ok (.iload 7, 2) := by decide +kernel
theorem dX6_gathers_115 : decode cX6_gathers 115 = .ok (.iaload, 1) := by decide +kernel
theorem dX6_gathers_116 : decode cX6_gathers 116 = .ok (.iload 4, 2) := by decide +kernel
theorem dX6_gathers_118 : decode cX6_gathers 118 = .ok (.iconst (-1), 1) := by decide +kernel
theorem dX6_gathers_119 : decode cX6_gathers 119 = .ok (.ixor, 1) := by decide +kernel
theorem dX6_gathers_120 : decode cX6_gathers 120 = .ok (.iand, 1) := by decide +kernel
theorem dX6_gathers_121 : decode cX6_gathers 121 = .ok (.ifCond .ne 6, 3) := by decide +kernel
theorem dX6_gathers_124 : decode cX6_gathers 124 = .ok (.goto 20, 3) := by decide +kernel
theorem dX6_gathers_127 : decode cX6_gathers 127 = .ok (.aload_n 0, 1) := by decide +kernel
theorem dX6_gathers_128 : decode cX6_gathers 128 = .ok (.getfield 22, 3) := by decide +kernel
theorem dX6_gathers_131 : decode cX6_gathers 131 = .ok (.iload 6, 2) := by decide +kernel
theorem dX6_gathers_133 : decode cX6_gathers 133 = .ok (.aload_n 0, 1) := by decide +kernel
theorem dX6_gathers_134 : decode cX6_gathers 134 = .ok (.getfield 22, 3) := by decide +kernel
theorem dX6_gathers_137 : decode cX6_gathers 137 = .ok (.iload 7, 2) := by decide +kernel
theorem dX6_gathers_139 : decode cX6_gathers 139 = .ok (.iaload, 1) := by decide +kernel
theorem dX6_gathers_140 : decode cX6_gathers 140 = .ok (.iastore, 1) := by decide +kernel
theorem dX6_gathers_141 : decode cX6_gathers 141 = .ok (.iinc 6 1, 3) := by decide +kernel
theorem dX6_gathers_144 : decode cX6_gathers 144 = .ok (.iinc 7 1, 3) := by decide +kernel
theorem dX6_gathers_147 : decode cX6_gathers 147 = .ok (.goto (-44), 3) := by decide +kernel
theorem dX6_gathers_150 : decode cX6_gathers 150 = .ok (.aload_n 0, 1) := by decide +kernel
theorem dX6_gathers_151 : decode cX6_gathers 151 = .ok (.getfield 22, 3) := by decide +kernel
theorem dX6_gathers_154 : decode cX6_gathers 154 = .ok (.iload 6, 2) := by decide +kernel
theorem dX6_gathers_156 : decode cX6_gathers 156 = .ok (.iload 4, 2) := by decide +kernel
theorem dX6_gathers_158 : decode cX6_gathers 158 = .ok (.iastore, 1) := by decide +kernel
theorem dX6_gathers_159 : decode cX6_gathers 159 = .ok (.iload 6, 2) := by decide +kernel
theorem dX6_gathers_161 : decode cX6_gathers 161 = .ok (.iconst 1, 1) := by decide +kernel
theorem dX6_gathers_162 : decode cX6_gathers 162 = .ok (.iadd, 1) := by decide +kernel
theorem dX6_gathers_163 : decode cX6_gathers 163 = .ok (.istore_n 1, 1) := by decide +kernel
theorem dX6_gathers_164 : decode cX6_gathers 164 = .ok (.iinc 3 1, 3) := by decide +kernel
theorem dX6_gathers_167 : decode cX6_gathers 167 = .ok (.goto (-148), 3) := by decide +kernel
theorem dX6_gathers_170 : decode cX6_gathers 170 = .ok (.iinc 2 1, 3) := by decide +kernel
theorem dX6_gathers_173 : decode cX6_gathers 173 = .ok (.goto (-161), 3) := by decide +kernel
theorem dX6_gathers_176 : decode cX6_gathers 176 = .ok (.iload_n 1, 1) := by decide +kernel
theorem dX6_gathers_177 : decode cX6_gathers 177 = .ok (.ireturn, 1) := by decide +kernel
theorem dX6_fewest_0 : decode cX6_fewest 0 = .ok (.aload_n 0, 1) := by decide +kernel
theorem dX6_fewest_1 : decode cX6_fewest 1 = .ok (.invokevirtual 117, 3) := by decide +kernel
theorem dX6_fewest_4 : decode cX6_fewest 4 = .ok (.istore_n 1, 1) := by decide +kernel
theorem dX6_fewest_5 : decode cX6_fewest 5 = .ok (.iconst 0, 1) := by decide +kernel
theorem dX6_fewest_6 : decode cX6_fewest 6 = .ok (.istore_n 2, 1) := by decide +kernel
theorem dX6_fewest_7 : decode cX6_fewest 7 = .ok (.iconst 0, 1) := by decide +kernel
theorem dX6_fewest_8 : decode cX6_fewest 8 = .ok (.istore_n 3, 1) := by decide +kernel
theorem dX6_fewest_9 : decode cX6_fewest 9 = .ok (.iload_n 3, 1) := by decide +kernel
theorem dX6_fewest_10 : decode cX6_fewest 10 = .ok (.iload_n 1, 1) := by decide +kernel
theorem dX6_fewest_11 : decode cX6_fewest 11 = .ok (.if_icmp .ge 18, 3) := by decide +kernel
theorem dX6_fewest_14 : decode cX6_fewest 14 = .ok (.iload_n 2, 1) := by decide +kernel
theorem dX6_fewest_15 : decode cX6_fewest 15 = .ok (.aload_n 0, 1) := by decide +kernel
theorem dX6_fewest_16 : decode cX6_fewest 16 = .ok (.getfield 22, 3) := by decide +kernel
theorem dX6_fewest_19 : decode cX6_fewest 19 = .ok (.iload_n 3, 1) := by decide +kernel
theorem dX6_fewest_20 : decode cX6_fewest 20 = .ok (.iaload, 1) := by decide +kernel
theorem dX6_fewest_21 : decode cX6_fewest 21 = .ok (.ior, 1) := by decide +kernel
theorem dX6_fewest_22 : decode cX6_fewest 22 = .ok (.istore_n 2, 1) := by decide +kernel
theorem dX6_fewest_23 : decode cX6_fewest 23 = .ok (.iinc 3 1, 3) := by decide +kernel
theorem dX6_fewest_26 : decode cX6_fewest 26 = .ok (.goto (-17), 3) := by decide +kernel
theorem dX6_fewest_29 : decode cX6_fewest 29 = .ok (.iload_n 1, 1) := by decide +kernel
theorem dX6_fewest_30 : decode cX6_fewest 30 = .ok (.istore_n 3, 1) := by decide +kernel
theorem dX6_fewest_31 : decode cX6_fewest 31 = .ok (.iconst 0, 1) := by decide +kernel
theorem dX6_fewest_32 : decode cX6_fewest 32 = .ok (.istore 4, 2) := by decide +kernel
theorem dX6_fewest_34 : decode cX6_fewest 34 = .ok (.aload_n 0, 1) := by decide +kernel
theorem dX6_fewest_35 : decode cX6_fewest 35 = .ok (.getfield 28, 3) := by decide +kernel
theorem dX6_fewest_38 : decode cX6_fewest 38 = .ok (.iconst 0, 1) := by decide +kernel
theorem dX6_fewest_39 : decode cX6_fewest 39 = .ok (.iconst 0, 1) := by decide +kernel
theorem dX6_fewest_40 : decode cX6_fewest 40 = .ok (.iastore, 1) := by decide +kernel
theorem dX6_fewest_41 : decode cX6_fewest 41 = .ok (.aload_n 0, 1) := by decide +kernel
theorem dX6_fewest_42 : decode cX6_fewest 42 = .ok (.getfield 25, 3) := by decide +kernel
theorem dX6_fewest_45 : decode cX6_fewest 45 = .ok (.iconst 0, 1) := by decide +kernel
theorem dX6_fewest_46 : decode cX6_fewest 46 = .ok (.iconst (-1), 1) := by decide +kernel
theorem dX6_fewest_47 : decode cX6_fewest 47 = .ok (.iastore, 1) := by decide +kernel
theorem dX6_fewest_48 : decode cX6_fewest 48 = .ok (.iload 4, 2) := by decide +kernel
theorem dX6_fewest_50 : decode cX6_fewest 50 = .ok (.ifCond .lt 183, 3) := by decide +kernel
theorem dX6_fewest_53 : decode cX6_fewest 53 = .ok (.aload_n 0, 1) := by decide +kernel
theorem dX6_fewest_54 : decode cX6_fewest 54 = .ok (.getfield 28, 3) := by decide +kernel
theorem dX6_fewest_57 : decode cX6_fewest 57 = .ok (.iload 4, 2) := by decide +kernel
theorem dX6_fewest_59 : decode cX6_fewest 59 = .ok (.iaload, 1) := by decide +kernel
theorem dX6_fewest_60 : decode cX6_fewest 60 = .ok (.iload_n 2, 1) := by decide +kernel
theorem dX6_fewest_61 : decode cX6_fewest 61 = .ok (.if_icmp .ne 12, 3) := by decide +kernel
theorem dX6_fewest_64 : decode cX6_fewest 64 = .ok (.iload 4, 2) := by decide +kernel
theorem dX6_fewest_66 : decode cX6_fewest 66 = .ok (.iload_n 3, 1) := by decide +kernel
theorem dX6_fewest_67 : decode cX6_fewest 67 = .ok (.if_icmp .ge 6, 3) := by decide +kernel
theorem dX6_fewest_70 : decode cX6_fewest 70 = .ok (.iload 4, 2) := by decide +kernel
theorem dX6_fewest_72 : decode cX6_fewest 72 = .ok (.istore_n 3, 1) := by decide +kernel
theorem dX6_fewest_73 : decode cX6_fewest 73 = .ok (.aload_n 0, 1) := by decide +kernel
theorem dX6_fewest_74 : decode cX6_fewest 74 = .ok (.getfield 28, 3) := by decide +kernel
theorem dX6_fewest_77 : decode cX6_fewest 77 = .ok (.iload 4, 2) := by decide +kernel
theorem dX6_fewest_79 : decode cX6_fewest 79 = .ok (.iaload, 1) := by decide +kernel
theorem dX6_fewest_80 : decode cX6_fewest 80 = .ok (.iload_n 2, 1) := by decide +kernel
theorem dX6_fewest_81 : decode cX6_fewest 81 = .ok (.if_icmp .eq 11, 3) := by decide +kernel
theorem dX6_fewest_84 : decode cX6_fewest 84 = .ok (.iload 4, 2) := by decide +kernel
theorem dX6_fewest_86 : decode cX6_fewest 86 = .ok (.iconst 1, 1) := by decide +kernel
theorem dX6_fewest_87 : decode cX6_fewest 87 = .ok (.iadd, 1) := by decide +kernel
theorem dX6_fewest_88 : decode cX6_fewest 88 = .ok (.iload_n 3, 1) := by decide +kernel
theorem dX6_fewest_89 : decode cX6_fewest 89 = .ok (.if_icmp .lt 9, 3) := by decide +kernel
theorem dX6_fewest_92 : decode cX6_fewest 92 = .ok (.iinc 4 (-1), 3) := by decide +kernel
theorem dX6_fewest_95 : decode cX6_fewest 95 = .ok (.goto (-47), 3) := by decide +kernel
theorem dX6_fewest_98 : decode cX6_fewest 98 = .ok (.iload_n 2, 1) := by decide +kernel
theorem dX6_fewest_99 : decode cX6_fewest 99 = .ok (.aload_n 0, 1) := by decide +kernel
theorem dX6_fewest_100 : decode cX6_fewest 100 = .ok (.getfield 28, 3) := by decide +kernel
theorem dX6_fewest_103 : decode cX6_fewest 103 = .ok (.iload 4, 2) := by decide +kernel
theorem dX6_fewest_105 : decode cX6_fewest 105 = .ok (.iaload, 1) := by decide +kernel
theorem dX6_fewest_106 : decode cX6_fewest 106 = .ok (.iconst (-1), 1) := by decide +kernel
theorem dX6_fewest_107 : decode cX6_fewest 107 = .ok (.ixor, 1) := by decide +kernel
theorem dX6_fewest_108 : decode cX6_fewest 108 = .ok (.iand, 1) := by decide +kernel
theorem dX6_fewest_109 : decode cX6_fewest 109 = .ok (.istore 5, 2) := by decide +kernel
theorem dX6_fewest_111 : decode cX6_fewest 111 = .ok (.iload 5, 2) := by decide +kernel
theorem dX6_fewest_113 : decode cX6_fewest 113 = .ok (.iload 5, 2) := by decide +kernel
theorem dX6_fewest_115 : decode cX6_fewest 115 = .ok (.ineg, 1) := by decide +kernel
theorem dX6_fewest_116 : decode cX6_fewest 116 = .ok (.iand, 1) := by decide +kernel
theorem dX6_fewest_117 : decode cX6_fewest 117 = .ok (.istore 5, 2) := by decide +kernel
theorem dX6_fewest_119 : decode cX6_fewest 119 = .ok (.aload_n 0, 1) := by decide +kernel
theorem dX6_fewest_120 : decode cX6_fewest 120 = .ok (.getfield 25, 3) := by decide +kernel
theorem dX6_fewest_123 : decode cX6_fewest 123 = .ok (.iload 4, 2) := by decide +kernel
theorem dX6_fewest_125 : decode cX6_fewest 125 = .ok (.dup2, 1) := by decide +kernel
theorem dX6_fewest_126 : decode cX6_fewest 126 = .ok (.iaload, 1) := by decide +kernel
theorem dX6_fewest_127 : decode cX6_fewest 127 = .ok (.iconst 1, 1) := by decide +kernel
theorem dX6_fewest_128 : decode cX6_fewest 128 = .ok (.iadd, 1) := by decide +kernel
theorem dX6_fewest_129 : decode cX6_fewest 129 = .ok (.iastore, 1) := by decide +kernel
theorem dX6_fewest_130 : decode cX6_fewest 130 = .ok (.aload_n 0, 1) := by decide +kernel
theorem dX6_fewest_131 : decode cX6_fewest 131 = .ok (.getfield 25, 3) := by decide +kernel
theorem dX6_fewest_134 : decode cX6_fewest 134 = .ok (.iload 4, 2) := by decide +kernel
theorem dX6_fewest_136 : decode cX6_fewest 136 = .ok (.iaload, 1) := by decide +kernel
theorem dX6_fewest_137 : decode cX6_fewest 137 = .ok (.iload_n 1, 1) := by decide +kernel
theorem dX6_fewest_138 : decode cX6_fewest 138 = .ok (.if_icmp .ge 35, 3) := by decide +kernel
theorem dX6_fewest_141 : decode cX6_fewest 141 = .ok (.aload_n 0, 1) := by decide +kernel
theorem dX6_fewest_142 : decode cX6_fewest 142 = .ok (.getfield 22, 3) := by decide +kernel
theorem dX6_fewest_145 : decode cX6_fewest 145 = .ok (.aload_n 0, 1) := by decide +kernel
theorem dX6_fewest_146 : decode cX6_fewest 146 = .ok (.getfield 25, 3) := by decide +kernel
theorem dX6_fewest_149 : decode cX6_fewest 149 = .ok (.iload 4, 2) := by decide +kernel
theorem dX6_fewest_151 : decode cX6_fewest 151 = .ok (.iaload, 1) := by decide +kernel
theorem dX6_fewest_152 : decode cX6_fewest 152 = .ok (.iaload, 1) := by decide +kernel
theorem dX6_fewest_153 : decode cX6_fewest 153 = .ok (.iload 5, 2) := by decide +kernel
theorem dX6_fewest_155 : decode cX6_fewest 155 = .ok (.iand, 1) := by decide +kernel
theorem dX6_fewest_156 : decode cX6_fewest 156 = .ok (.ifCond .ne 17, 3) := by decide +kernel
theorem dX6_fewest_159 : decode cX6_fewest 159 = .ok (.aload_n 0, 1) := by decide +kernel
theorem dX6_fewest_160 : decode cX6_fewest 160 = .ok (.getfield 25, 3) := by decide +kernel
theorem dX6_fewest_163 : decode cX6_fewest 163 = .ok (.iload 4, 2) := by decide +kernel
theorem dX6_fewest_165 : decode cX6_fewest 165 = .ok (.dup2, 1) := by decide +kernel
theorem dX6_fewest_166 : decode cX6_fewest 166 = .ok (.iaload, 1) := by decide +kernel
theorem dX6_fewest_167 : decode cX6_fewest 167 = .ok (.iconst 1, 1) := by decide +kernel
theorem dX6_fewest_168 : decode cX6_fewest 168 = .ok (.iadd, 1) := by decide +kernel
theorem dX6_fewest_169 : decode cX6_fewest 169 = .ok (.iastore, 1) := by decide +kernel
theorem dX6_fewest_170 : decode cX6_fewest 170 = .ok (.goto (-40), 3) := by decide +kernel
theorem dX6_fewest_173 : decode cX6_fewest 173 = .ok (.aload_n 0, 1) := by decide +kernel
theorem dX6_fewest_174 : decode cX6_fewest 174 = .ok (.getfield 25, 3) := by decide +kernel
theorem dX6_fewest_177 : decode cX6_fewest 177 = .ok (.iload 4, 2) := by decide +kernel
theorem dX6_fewest_179 : decode cX6_fewest 179 = .ok (.iaload, 1) := by decide +kernel
theorem dX6_fewest_180 : decode cX6_fewest 180 = .ok (.iload_n 1, 1) := by decide +kernel
theorem dX6_fewest_181 : decode cX6_fewest 181 = .ok (.if_icmp .lt 9, 3) := by decide +kernel
theorem dX6_fewest_184 : decode cX6_fewest 184 = .ok (.iinc 4 (-1), 3) := by decide +kernel
theorem dX6_fewest_187 : decode cX6_fewest 187 = .ok (.goto (-139), 3) := by decide +kernel
theorem dX6_fewest_190 : decode cX6_fewest 190 = .ok (.aload_n 0, 1) := by decide +kernel
theorem dX6_fewest_191 : decode cX6_fewest 191 = .ok (.getfield 28, 3) := by decide +kernel
theorem dX6_fewest_194 : decode cX6_fewest 194 = .ok (.iload 4, 2) := by decide +kernel
theorem dX6_fewest_196 : decode cX6_fewest 196 = .ok (.iconst 1, 1) := by decide +kernel
theorem dX6_fewest_197 : decode cX6_fewest 197 = .ok (.iadd, 1) := by decide +kernel
theorem dX6_fewest_198 : decode cX6_fewest 198 = .ok (.aload_n 0, 1) := by decide +kernel
theorem dX6_fewest_199 : decode cX6_fewest 199 = .ok (.getfield 28, 3) := by decide +kernel
theorem dX6_fewest_202 : decode cX6_fewest 202 = .ok (.iload 4, 2) := by decide +kernel
theorem dX6_fewest_204 : decode cX6_fewest 204 = .ok (.iaload, 1) := by decide +kernel
theorem dX6_fewest_205 : decode cX6_fewest 205 = .ok (.aload_n 0, 1) := by decide +kernel
theorem dX6_fewest_206 : decode cX6_fewest 206 = .ok (.getfield 22, 3) := by decide +kernel
theorem dX6_fewest_209 : decode cX6_fewest 209 = .ok (.aload_n 0, 1) := by decide +kernel
theorem dX6_fewest_210 : decode cX6_fewest 210 = .ok (.getfield 25, 3) := by decide +kernel
theorem dX6_fewest_213 : decode cX6_fewest 213 = .ok (.iload 4, 2) := by decide +kernel
theorem dX6_fewest_215 : decode cX6_fewest 215 = .ok (.iaload, 1) := by decide +kernel
theorem dX6_fewest_216 : decode cX6_fewest 216 = .ok (.iaload, 1) := by decide +kernel
theorem dX6_fewest_217 : decode cX6_fewest 217 = .ok (.ior, 1) := by decide +kernel
theorem dX6_fewest_218 : decode cX6_fewest 218 = .ok (.iastore, 1) := by decide +kernel
theorem dX6_fewest_219 : decode cX6_fewest 219 = .ok (.iinc 4 1, 3) := by decide +kernel
theorem dX6_fewest_222 : decode cX6_fewest 222 = .ok (.aload_n 0, 1) := by decide +kernel
theorem dX6_fewest_223 : decode cX6_fewest 223 = .ok (.getfield 25, 3) := by decide +kernel
theorem dX6_fewest_226 : decode cX6_fewest 226 = .ok (.iload 4, 2) := by decide +kernel
theorem dX6_fewest_228 : decode cX6_fewest 228 = .ok (.iconst (-1), 1) := by decide +kernel
theorem dX6_fewest_229 : decode cX6_fewest 229 = .ok (.iastore, 1) := by decide +kernel
theorem dX6_fewest_230 : decode cX6_fewest 230 = .ok (.goto (-182), 3) := by decide +kernel
theorem dX6_fewest_233 : decode cX6_fewest 233 = .ok (.iload_n 3, 1) := by decide +kernel
theorem dX6_fewest_234 : decode cX6_fewest 234 = .ok (.ireturn, 1) := by decide +kernel
theorem dX6_isNamed_0 : decode cX6_isNamed 0 = .ok (.iconst 0, 1) := by decide +kernel
theorem dX6_isNamed_1 : decode cX6_isNamed 1 = .ok (.istore_n 2, 1) := by decide +kernel
theorem dX6_isNamed_2 : decode cX6_isNamed 2 = .ok (.iload_n 2, 1) := by decide +kernel
theorem dX6_isNamed_3 : decode cX6_isNamed 3 = .ok (.aload_n 0, 1) := by decide +kernel
theorem dX6_isNamed_4 : decode cX6_isNamed 4 = .ok (.getfield 35, 3) := by decide +kernel
theorem dX6_isNamed_7 : decode cX6_isNamed 7 = .ok (.if_icmp .ge 50, 3) := by decide +kernel
theorem dX6_isNamed_10 : decode cX6_isNamed 10 = .ok (.iload_n 1, 1) := by decide +kernel
theorem dX6_isNamed_11 : decode cX6_isNamed 11 = .ok (.bipush 20, 2) := by decide +kernel
theorem dX6_isNamed_13 : decode cX6_isNamed 13 = .ok (.if_icmp .lt 27, 3) := by decide +kernel
theorem dX6_isNamed_16 : decode cX6_isNamed 16 = .ok (.aload_n 0, 1) := by decide +kernel
theorem dX6_isNamed_17 : decode cX6_isNamed 17 = .ok (.iload_n 2, 1) := by decide +kernel
theorem dX6_isNamed_18 : decode cX6_isNamed 18 = .ok (.iconst 1, 1) := by decide +kernel
theorem dX6_isNamed_19 : decode cX6_isNamed 19 = .ok (.invokevirtual 39, 3) := by decide +kernel
theorem dX6_isNamed_22 : decode cX6_isNamed 22 = .ok (.bipush 30, 2) := by decide +kernel
theorem dX6_isNamed_24 : decode cX6_isNamed 24 = .ok (.if_icmp .ne 27, 3) := by decide +kernel
theorem dX6_isNamed_27 : decode cX6_isNamed 27 = .ok (.aload_n 0, 1) := by decide +kernel
theorem dX6_isNamed_28 : decode cX6_isNamed 28 = .ok (.iload_n 2, 1) := by decide +kernel
theorem dX6_isNamed_29 : decode cX6_isNamed 29 = .ok (.iconst 2, 1) := by decide +kernel
theorem dX6_isNamed_30 : decode cX6_isNamed 30 = .ok (.invokevirtual 39, 3) := by decide +kernel
theorem dX6_isNamed_33 : decode cX6_isNamed 33 = .ok (.iload_n 1, 1) := by decide +kernel
theorem dX6_isNamed_34 : decode cX6_isNamed 34 = .ok (.if_icmp .ne 17, 3) := by decide +kernel
theorem dX6_isNamed_37 : decode cX6_isNamed 37 = .ok (.goto 12, 3) := by decide +kernel
theorem dX6_isNamed_40 : decode cX6_isNamed 40 = .ok (.aload_n 0, 1) := by decide +kernel
theorem dX6_isNamed_41 : decode cX6_isNamed 41 = .ok (.iload_n 2, 1) := by decide +kernel
theorem dX6_isNamed_42 : decode cX6_isNamed 42 = .ok (.iload_n 1, 1) := by decide +kernel
theorem dX6_isNamed_43 : decode cX6_isNamed 43 = .ok (.invokevirtual 57, 3) := by decide +kernel
theorem dX6_isNamed_46 : decode cX6_isNamed 46 = .ok (.ifCond .eq 5, 3) := by decide +kernel
theorem dX6_isNamed_49 : decode cX6_isNamed 49 = .ok (.iconst 1, 1) := by decide +kernel
theorem dX6_isNamed_50 : decode cX6_isNamed 50 = .ok (.ireturn, 1) := by decide +kernel
theorem dX6_isNamed_51 : decode cX6_isNamed 51 = .ok (.iinc 2 1, 3) := by decide +kernel
theorem dX6_isNamed_54 : decode cX6_isNamed 54 = .ok (.goto (-52), 3) := by decide +kernel
theorem dX6_isNamed_57 : decode cX6_isNamed 57 = .ok (.iconst 0, 1) := by decide +kernel
theorem dX6_isNamed_58 : decode cX6_isNamed 58 = .ok (.ireturn, 1) := by decide +kernel
theorem dX6_wrong_0 : decode cX6_wrong 0 = .ok (.iload_n 1, 1) := by decide +kernel
theorem dX6_wrong_1 : decode cX6_wrong 1 = .ok (.iconst 3, 1) := by decide +kernel
theorem dX6_wrong_2 : decode cX6_wrong 2 = .ok (.if_icmp .eq 7, 3) := by decide +kernel
theorem dX6_wrong_5 : decode cX6_wrong 5 = .ok (.iload_n 3, 1) := by decide +kernel
theorem dX6_wrong_6 : decode cX6_wrong 6 = .ok (.ifCond .ge 5, 3) := by decide +kernel
theorem dX6_wrong_9 : decode cX6_wrong 9 = .ok (.iconst (-1), 1) := by decide +kernel
theorem dX6_wrong_10 : decode cX6_wrong 10 = .ok (.ireturn, 1) := by decide +kernel
theorem dX6_wrong_11 : decode cX6_wrong 11 = .ok (.aload_n 0, 1) := by decide +kernel
theorem dX6_wrong_12 : decode cX6_wrong 12 = .ok (.iload_n 1, 1) := by decide +kernel
theorem dX6_wrong_13 : decode cX6_wrong 13 = .ok (.iload_n 2, 1) := by decide +kernel
theorem dX6_wrong_14 : decode cX6_wrong 14 = .ok (.aload_n 0, 1) := by decide +kernel
theorem dX6_wrong_15 : decode cX6_wrong 15 = .ok (.getfield 35, 3) := by decide +kernel
theorem dX6_wrong_18 : decode cX6_wrong 18 = .ok (.invokevirtual 108, 3) := by decide +kernel
theorem dX6_wrong_21 : decode cX6_wrong 21 = .ok (.istore 4, 2) := by decide +kernel
theorem dX6_wrong_23 : decode cX6_wrong 23 = .ok (.iload 4, 2) := by decide +kernel
theorem dX6_wrong_25 : decode cX6_wrong 25 = .ok (.ifCond .ge 5, 3) := by decide +kernel
theorem dX6_wrong_28 : decode cX6_wrong 28 = .ok (.iconst (-1), 1) := by decide +kernel
theorem dX6_wrong_29 : decode cX6_wrong 29 = .ok (.ireturn, 1) := by decide +kernel
theorem dX6_wrong_30 : decode cX6_wrong 30 = .ok (.iload_n 3, 1) := by decide +kernel
theorem dX6_wrong_31 : decode cX6_wrong 31 = .ok (.istore 5, 2) := by decide +kernel
theorem dX6_wrong_33 : decode cX6_wrong 33 = .ok (.iload_n 1, 1) := by decide +kernel
theorem dX6_wrong_34 : decode cX6_wrong 34 = .ok (.iconst 2, 1) := by decide +kernel
theorem dX6_wrong_35 : decode cX6_wrong 35 = .ok (.if_icmp .ne 7, 3) := by decide +kernel
theorem dX6_wrong_38 : decode cX6_wrong 38 = .ok (.iconst 0, 1) := by decide +kernel
theorem dX6_wrong_39 : decode cX6_wrong 39 = .ok (.goto 5, 3) := by decide +kernel
theorem dX6_wrong_42 : decode cX6_wrong 42 = .ok (.bipush 20, 2) := by decide +kernel
theorem dX6_wrong_44 : decode cX6_wrong 44 = .ok (.istore 6, 2) := by decide +kernel
theorem dX6_wrong_46 : decode cX6_wrong 46 = .ok (.iload 6, 2) := by decide +kernel
theorem dX6_wrong_48 : decode cX6_wrong 48 = .ok (.istore 7, 2) := by decide +kernel
theorem dX6_wrong_50 : decode cX6_wrong 50 = .ok (.iload 7, 2) := by decide +kernel
theorem dX6_wrong_52 : decode cX6_wrong 52 = .ok (.iload 6, 2) := by decide +kernel
theorem dX6_wrong_54 : decode cX6_wrong 54 = .ok (.bipush 8, 2) := by decide +kernel
theorem dX6_wrong_56 : decode cX6_wrong 56 = .ok (.iadd, 1) := by decide +kernel
theorem dX6_wrong_57 : decode cX6_wrong 57 = .ok (.if_icmp .ge 39, 3) := by decide +kernel
theorem dX6_wrong_60 : decode cX6_wrong 60 = .ok (.iload 7, 2) := by decide +kernel
theorem dX6_wrong_62 : decode cX6_wrong 62 = .ok (.iload 4, 2) := by decide +kernel
theorem dX6_wrong_64 : decode cX6_wrong 64 = .ok (.if_icmp .eq 26, 3) := by decide +kernel
theorem dX6_wrong_67 : decode cX6_wrong 67 = .ok (.aload_n 0, 1) := by decide +kernel
theorem dX6_wrong_68 : decode cX6_wrong 68 = .ok (.iload 7, 2) := by decide +kernel
theorem dX6_wrong_70 : decode cX6_wrong 70 = .ok (.invokevirtual 121, 3) := by decide +kernel
theorem dX6_wrong_73 : decode cX6_wrong 73 = .ok (.ifCond .ne 6, 3) := by decide +kernel
theorem dX6_wrong_76 : decode cX6_wrong 76 = .ok (.goto 14, 3) := by decide +kernel
theorem dX6_wrong_79 : decode cX6_wrong 79 = .ok (.iload 5, 2) := by decide +kernel
theorem dX6_wrong_81 : decode cX6_wrong 81 = .ok (.ifCond .ne 6, 3) := by decide +kernel
theorem dX6_wrong_84 : decode cX6_wrong 84 = .ok (.iload 7, 2) := by decide +kernel
theorem dX6_wrong_86 : decode cX6_wrong 86 = .ok (.ireturn, 1) := by decide +kernel
theorem dX6_wrong_87 : decode cX6_wrong 87 = .ok (.iinc 5 (-1), 3) := by decide +kernel
theorem dX6_wrong_90 : decode cX6_wrong 90 = .ok (.iinc 7 1, 3) := by decide +kernel
theorem dX6_wrong_93 : decode cX6_wrong 93 = .ok (.goto (-43), 3) := by decide +kernel
theorem dX6_wrong_96 : decode cX6_wrong 96 = .ok (.iconst (-1), 1) := by decide +kernel
theorem dX6_wrong_97 : decode cX6_wrong 97 = .ok (.ireturn, 1) := by decide +kernel
theorem dX6_count_0 : decode cX6_count 0 = .ok (.iload_n 1, 1) := by decide +kernel
theorem dX6_count_1 : decode cX6_count 1 = .ok (.iconst 0, 1) := by decide +kernel
theorem dX6_count_2 : decode cX6_count 2 = .ok (.iconst 4, 1) := by decide +kernel
theorem dX6_count_3 : decode cX6_count 3 = .ok (.invokestatic 31, 3) := by decide +kernel
theorem dX6_count_6 : decode cX6_count 6 = .ok (.ifCond .ne 5, 3) := by decide +kernel
theorem dX6_count_9 : decode cX6_count 9 = .ok (.iconst (-1), 1) := by decide +kernel
theorem dX6_count_10 : decode cX6_count 10 = .ok (.ireturn, 1) := by decide +kernel
theorem dX6_count_11 : decode cX6_count 11 = .ok (.iload_n 1, 1) := by decide +kernel
theorem dX6_count_12 : decode cX6_count 12 = .ok (.ifCond .ne 8, 3) := by decide +kernel
theorem dX6_count_15 : decode cX6_count 15 = .ok (.aload_n 0, 1) := by decide +kernel
theorem dX6_count_16 : decode cX6_count 16 = .ok (.getfield 35, 3) := by decide +kernel
theorem dX6_count_19 : decode cX6_count 19 = .ok (.ireturn, 1) := by decide +kernel
theorem dX6_count_20 : decode cX6_count 20 = .ok (.iload_n 1, 1) := by decide +kernel
theorem dX6_count_21 : decode cX6_count 21 = .ok (.iconst 1, 1) := by decide +kernel
theorem dX6_count_22 : decode cX6_count 22 = .ok (.if_icmp .ne 26, 3) := by decide +kernel
theorem dX6_count_25 : decode cX6_count 25 = .ok (.aload_n 0, 1) := by decide +kernel
theorem dX6_count_26 : decode cX6_count 26 = .ok (.getfield 35, 3) := by decide +kernel
theorem dX6_count_29 : decode cX6_count 29 = .ok (.bipush 14, 2) := by decide +kernel
theorem dX6_count_31 : decode cX6_count 31 = .ok (.if_icmp .ge 15, 3) := by decide +kernel
theorem dX6_count_34 : decode cX6_count 34 = .ok (.aload_n 0, 1) := by decide +kernel
theorem dX6_count_35 : decode cX6_count 35 = .ok (.getfield 13, 3) := by decide +kernel
theorem dX6_count_38 : decode cX6_count 38 = .ok (.aload_n 0, 1) := by decide +kernel
theorem dX6_count_39 : decode cX6_count 39 = .ok (.getfield 35, 3) := by decide +kernel
theorem dX6_count_42 : decode cX6_count 42 = .ok (.iaload, 1) := by decide +kernel
theorem dX6_count_43 : decode cX6_count 43 = .ok (.goto 4, 3) := by decide +kernel
theorem dX6_count_46 : decode cX6_count 46 = .ok (.iconst 0, 1) := by decide +kernel
theorem dX6_count_47 : decode cX6_count 47 = .ok (.ireturn, 1) := by decide +kernel
theorem dX6_count_48 : decode cX6_count 48 = .ok (.aload_n 0, 1) := by decide +kernel
theorem dX6_count_49 : decode cX6_count 49 = .ok (.aload_n 0, 1) := by decide +kernel
theorem dX6_count_50 : decode cX6_count 50 = .ok (.getfield 35, 3) := by decide +kernel
theorem dX6_count_53 : decode cX6_count 53 = .ok (.invokevirtual 50, 3) := by decide +kernel
theorem dX6_count_56 : decode cX6_count 56 = .ok (.iload_n 1, 1) := by decide +kernel
theorem dX6_count_57 : decode cX6_count 57 = .ok (.iconst 2, 1) := by decide +kernel
theorem dX6_count_58 : decode cX6_count 58 = .ok (.if_icmp .ne 8, 3) := by decide +kernel
theorem dX6_count_61 : decode cX6_count 61 = .ok (.aload_n 0, 1) := by decide +kernel
theorem dX6_count_62 : decode cX6_count 62 = .ok (.getfield 54, 3) := by decide +kernel
theorem dX6_count_65 : decode cX6_count 65 = .ok (.ireturn, 1) := by decide +kernel
theorem dX6_count_66 : decode cX6_count 66 = .ok (.iconst 0, 1) := by decide +kernel
theorem dX6_count_67 : decode cX6_count 67 = .ok (.istore_n 2, 1) := by decide +kernel
theorem dX6_count_68 : decode cX6_count 68 = .ok (.iconst 0, 1) := by decide +kernel
theorem dX6_count_69 : decode cX6_count 69 = .ok (.istore_n 3, 1) := by decide +kernel
theorem dX6_count_70 : decode cX6_count 70 = .ok (.iload_n 3, 1) := by decide +kernel
theorem dX6_count_71 : decode cX6_count 71 = .ok (.iconst 4, 1) := by decide +kernel
theorem dX6_count_72 : decode cX6_count 72 = .ok (.if_icmp .ge 69, 3) := by decide +kernel
theorem dX6_count_75 : decode cX6_count 75 = .ok (.iconst 0, 1) := by decide +kernel
theorem dX6_count_76 : decode cX6_count 76 = .ok (.istore 4, 2) := by decide +kernel
theorem dX6_count_78 : decode cX6_count 78 = .ok (.iload_n 3, 1) := by decide +kernel
theorem dX6_count_79 : decode cX6_count 79 = .ok (.iload 4, 2) := by decide +kernel
theorem dX6_count_81 : decode cX6_count 81 = .ok (.invokestatic 95, 3) := by decide +kernel
theorem dX6_count_84 : decode cX6_count 84 = .ok (.ifCond .eq 51, 3) := by decide +kernel
theorem dX6_count_87 : decode cX6_count 87 = .ok (.aload_n 0, 1) := by decide +kernel
theorem dX6_count_88 : decode cX6_count 88 = .ok (.iload_n 3, 1) := by decide +kernel
theorem dX6_count_89 : decode cX6_count 89 = .ok (.iload 4, 2) := by decide +kernel
theorem dX6_count_91 : decode cX6_count 91 = .ok (.invokevirtual 98, 3) := by decide +kernel
theorem dX6_count_94 : decode cX6_count 94 = .ok (.istore 5, 2) := by decide +kernel
theorem dX6_count_96 : decode cX6_count 96 = .ok (.iload_n 2, 1) := by decide +kernel
theorem dX6_count_97 : decode cX6_count 97 = .ok (.iload_n 1, 1) := by decide +kernel
theorem dX6_count_98 : decode cX6_count 98 = .ok (.iconst 3, 1) := by decide +kernel
theorem dX6_count_99 : decode cX6_count 99 = .ok (.if_icmp .ne 16, 3) := by decide +kernel
theorem dX6_count_102 : decode cX6_count 102 = .ok (.iload 5, 2) := by decide +kernel
theorem dX6_count_104 : decode cX6_count 104 = .ok (.ifCond .lt 7, 3) := by decide +kernel
theorem dX6_count_107 : decode cX6_count 107 = .ok (.iconst 1, 1) := by decide +kernel
theorem dX6_count_108 : decode cX6_count 108 = .ok (.goto 19, 3) := by decide +kernel
theorem dX6_count_111 : decode cX6_count 111 = .ok (.iconst 0, 1) := by decide +kernel
theorem dX6_count_112 : decode cX6_count 112 = .ok (.goto 15, 3) := by decide +kernel
theorem dX6_count_115 : decode cX6_count 115 = .ok (.iload 5, 2) := by decide +kernel
theorem dX6_count_117 : decode cX6_count 117 = .ok (.bipush (-3), 2) := by decide +kernel
theorem dX6_count_119 : decode cX6_count 119 = .ok (.if_icmp .ne 7, 3) := by decide +kernel
theorem dX6_count_122 : decode cX6_count 122 = .ok (.iconst 1, 1) := by decide +kernel
theorem dX6_count_123 : decode cX6_count 123 = .ok (.goto 4, 3) := by decide +kernel
theorem dX6_count_126 : decode cX6_count 126 = .ok (.iconst 0, 1) := by decide +kernel
theorem dX6_count_127 : decode cX6_count 127 = .ok (.iadd, 1) := by decide +kernel
theorem dX6_count_128 : decode cX6_count 128 = .ok (.istore_n 2, 1) := by decide +kernel
theorem dX6_count_129 : decode cX6_count 129 = .ok (.iinc 4 1, 3) := by decide +kernel
theorem dX6_count_132 : decode cX6_count 132 = .ok (.goto (-54), 3) := by decide +kernel
theorem dX6_count_135 : decode cX6_count 135 = .ok (.iinc 3 1, 3) := by decide +kernel
theorem dX6_count_138 : decode cX6_count 138 = .ok (.goto (-68), 3) := by decide +kernel
theorem dX6_count_141 : decode cX6_count 141 = .ok (.iload_n 2, 1) := by decide +kernel
theorem dX6_count_142 : decode cX6_count 142 = .ok (.ireturn, 1) := by decide +kernel
end
section
theorem dL_law_0 : decode cL_law 0 = .ok (.new 7, 3) := by decide +kernel
theorem dL_law_3 : decode cL_law 3 = .ok (.dup, 1) := by decide +kernel
theorem dL_law_4 : decode cL_law 4 = .ok (.invokespecial 9, 3) := by decide +kernel
theorem dL_law_7 : decode cL_law 7 = .ok (.astore_n 1, 1) := by decide +kernel
theorem dL_law_8 : decode cL_law 8 = .ok (.new 10, 3) := by decide +kernel
theorem dL_law_11 : decode cL_law 11 = .ok (.dup, 1) := by decide +kernel
theorem dL_law_12 : decode cL_law 12 = .ok (.invokespecial 12, 3) := by decide +kernel
theorem dL_law_15 : decode cL_law 15 = .ok (.astore_n 2, 1) := by decide +kernel
theorem dL_law_16 : decode cL_law 16 = .ok (.iconst 0, 1) := by decide +kernel
theorem dL_law_17 : decode cL_law 17 = .ok (.istore_n 3, 1) := by decide +kernel
theorem dL_law_18 : decode cL_law 18 = .ok (.iload_n 3, 1) := by decide +kernel
theorem dL_law_19 : decode cL_law 19 = .ok (.aload_n 0, 1) := by decide +kernel
theorem dL_law_20 : decode cL_law 20 = .ok (.arraylength, 1) := by decide +kernel
theorem dL_law_21 : decode cL_law 21 = .ok (.iconst 4, 1) := by decide +kernel
theorem dL_law_22 : decode cL_law 22 = .ok (.isub, 1) := by decide +kernel
theorem dL_law_23 : decode cL_law 23 = .ok (.if_icmp .gt 502, 3) := by decide +kernel
theorem dL_law_26 : decode cL_law 26 = .ok (.aload_n 0, 1) := by decide +kernel
theorem dL_law_27 : decode cL_law 27 = .ok (.iload_n 3, 1) := by decide +kernel
theorem dL_law_28 : decode cL_law 28 = .ok (.iaload, 1) := by decide +kernel
theorem dL_law_29 : decode cL_law 29 = .ok (.bipush 15, 2) := by decide +kernel
theorem dL_law_31 : decode cL_law 31 = .ok (.iand, 1) := by decide +kernel
theorem dL_law_32 : decode cL_law 32 = .ok (.tableswitch 487 0 12 #[68, 91, 104, 137, 160, 203, 246, 289, 332, 375, 408, 421, 464], 68) := by decide +kernel
theorem dL_law_100 : decode cL_law 100 = .ok (.aload_n 1, 1) := by decide +kernel
theorem dL_law_101 : decode cL_law 101 = .ok (.aload_n 0, 1) := by decide +kernel
theorem dL_law_102 : decode cL_law 102 = .ok (.iload_n 3, 1) := by decide +kernel
theorem dL_law_103 : decode cL_law 103 = .ok (.iconst 1, 1) := by decide +kernel
theorem dL_law_104 : decode cL_law 104 = .ok (.iadd, 1) := by decide +kernel
theorem dL_law_105 : decode cL_law 105 = .ok (.iaload, 1) := by decide +kernel
theorem dL_law_106 : decode cL_law 106 = .ok (.invokevirtual 13, 3) := by decide +kernel
theorem dL_law_109 : decode cL_law 109 = .ok (.aload_n 2, 1) := by decide +kernel
theorem dL_law_110 : decode cL_law 110 = .ok (.aload_n 0, 1) := by decide +kernel
theorem dL_law_111 : decode cL_law 111 = .ok (.iload_n 3, 1) := by decide +kernel
theorem dL_law_112 : decode cL_law 112 = .ok (.iconst 1, 1) := by decide +kernel
theorem dL_law_113 : decode cL_law 113 = .ok (.iadd, 1) := by decide +kernel
theorem dL_law_114 : decode cL_law 114 = .ok (.iaload, 1) := by decide +kernel
theorem dL_law_115 : decode cL_law 115 = .ok (.invokevirtual 17, 3) := by decide +kernel
theorem dL_law_118 : decode cL_law 118 = .ok (.if_icmp .eq 401, 3) := by decide +kernel
theorem dL_law_121 : decode cL_law 121 = .ok (.iconst 0, 1) := by decide +kernel
theorem dL_law_122 : decode cL_law 122 = .ok (.ireturn, 1) := by decide +kernel
theorem dL_law_123 : decode cL_law 123 = .ok (.aload_n 1, 1) := by decide +kernel
theorem dL_law_124 : decode cL_law 124 = .ok (.invokevirtual 18, 3) := by decide +kernel
theorem dL_law_127 : decode cL_law 127 = .ok (.aload_n 2, 1) := by decide +kernel
theorem dL_law_128 : decode cL_law 128 = .ok (.invokevirtual 22, 3) := by decide +kernel
theorem dL_law_131 : decode cL_law 131 = .ok (.if_icmp .eq 388, 3) := by decide +kernel
theorem dL_law_134 : decode cL_law 134 = .ok (.iconst 0, 1) := by decide +kernel
theorem dL_law_135 : decode cL_law 135 = .ok (.ireturn, 1) := by decide +kernel
theorem dL_law_136 : decode cL_law 136 = .ok (.aload_n 1, 1) := by decide +kernel
theorem dL_law_137 : decode cL_law 137 = .ok (.aload_n 0, 1) := by decide +kernel
theorem dL_law_138 : decode cL_law 138 = .ok (.iload_n 3, 1) := by decide +kernel
theorem dL_law_139 : decode cL_law 139 = .ok (.iconst 1, 1) := by decide +kernel
theorem dL_law_140 : decode cL_law 140 = .ok (.iadd, 1) := by decide +kernel
theorem dL_law_141 : decode cL_law 141 = .ok (.iaload, 1) := by decide +kernel
theorem dL_law_142 : decode cL_law 142 = .ok (.aload_n 0, 1) := by decide +kernel
theorem dL_law_143 : decode cL_law 143 = .ok (.iload_n 3, 1) := by decide +kernel
theorem dL_law_144 : decode cL_law 144 = .ok (.iconst 2, 1) := by decide +kernel
theorem dL_law_145 : decode cL_law 145 = .ok (.iadd, 1) := by decide +kernel
theorem dL_law_146 : decode cL_law 146 = .ok (.iaload, 1) := by decide +kernel
theorem dL_law_147 : decode cL_law 147 = .ok (.invokevirtual 23, 3) := by decide +kernel
theorem dL_law_150 : decode cL_law 150 = .ok (.aload_n 2, 1) := by decide +kernel
theorem dL_law_151 : decode cL_law 151 = .ok (.aload_n 0, 1) := by decide +kernel
theorem dL_law_152 : decode cL_law 152 = .ok (.iload_n 3, 1) := by decide +kernel
theorem dL_law_153 : decode cL_law 153 = .ok (.iconst 1, 1) := by decide +kernel
theorem dL_law_154 : decode cL_law 154 = .ok (.iadd, 1) := by decide +kernel
theorem dL_law_155 : decode cL_law 155 = .ok (.iaload, 1) := by decide +kernel
theorem dL_law_156 : decode cL_law 156 = .ok (.aload_n 0, 1) := by decide +kernel
theorem dL_law_157 : decode cL_law 157 = .ok (.iload_n 3, 1) := by decide +kernel
theorem dL_law_158 : decode cL_law 158 = .ok (.iconst 2, 1) := by decide +kernel
theorem dL_law_159 : decode cL_law 159 = .ok (.iadd, 1) := by decide +kernel
theorem dL_law_160 : decode cL_law 160 = .ok (.iaload, 1) := by decide +kernel
theorem dL_law_161 : decode cL_law 161 = .ok (.invokevirtual 27, 3) := by decide +kernel
theorem dL_law_164 : decode cL_law 164 = .ok (.if_icmp .eq 355, 3) := by decide +kernel
theorem dL_law_167 : decode cL_law 167 = .ok (.iconst 0, 1) := by decide +kernel
theorem dL_law_168 : decode cL_law 168 = .ok (.ireturn, 1) := by decide +kernel
theorem dL_law_169 : decode cL_law 169 = .ok (.aload_n 1, 1) := by decide +kernel
theorem dL_law_170 : decode cL_law 170 = .ok (.aload_n 0, 1) := by decide +kernel
theorem dL_law_171 : decode cL_law 171 = .ok (.iload_n 3, 1) := by decide +kernel
theorem dL_law_172 : decode cL_law 172 = .ok (.iconst 1, 1) := by decide +kernel
theorem dL_law_173 : decode cL_law 173 = .ok (.iadd, 1) := by decide +kernel
theorem dL_law_174 : decode cL_law 174 = .ok (.iaload, 1) := by decide +kernel
theorem dL_law_175 : decode cL_law 175 = .ok (.invokevirtual 28, 3) := by decide +kernel
theorem dL_law_178 : decode cL_law 178 = .ok (.aload_n 2, 1) := by decide +kernel
theorem dL_law_179 : decode cL_law 179 = .ok (.aload_n 0, 1) := by decide +kernel
theorem dL_law_180 : decode cL_law 180 = .ok (.iload_n 3, 1) := by decide +kernel
theorem dL_law_181 : decode cL_law 181 = .ok (.iconst 1, 1) := by decide +kernel
theorem dL_law_182 : decode cL_law 182 = .ok (.iadd, 1) := by decide +kernel
theorem dL_law_183 : decode cL_law 183 = .ok (.iaload, 1) := by decide +kernel
theorem dL_law_184 : decode cL_law 184 = .ok (.invokevirtual 32, 3) := by decide +kernel
theorem dL_law_187 : decode cL_law 187 = .ok (.if_icmp .eq 332, 3) := by decide +kernel
theorem dL_law_190 : decode cL_law 190 = .ok (.iconst 0, 1) := by decide +kernel
theorem dL_law_191 : decode cL_law 191 = .ok (.ireturn, 1) := by decide +kernel
theorem dL_law_192 : decode cL_law 192 = .ok (.aload_n 1, 1) := by decide +kernel
theorem dL_law_193 : decode cL_law 193 = .ok (.aload_n 0, 1) := by decide +kernel
theorem dL_law_194 : decode cL_law 194 = .ok (.iload_n 3, 1) := by decide +kernel
theorem dL_law_195 : decode cL_law 195 = .ok (.iconst 1, 1) := by decide +kernel
theorem dL_law_196 : decode cL_law 196 = .ok (.iadd, 1) := by decide +kernel
theorem dL_law_197 : decode cL_law 197 = .ok (.iaload, 1) := by decide +kernel
theorem dL_law_198 : decode cL_law 198 = .ok (.aload_n 0, 1) := by decide +kernel
theorem dL_law_199 : decode cL_law 199 = .ok (.iload_n 3, 1) := by decide +kernel
theorem dL_law_200 : decode cL_law 200 = .ok (.iconst 2, 1) := by decide +kernel
theorem dL_law_201 : decode cL_law 201 = .ok (.iadd, 1) := by decide +kernel
theorem dL_law_202 : decode cL_law 202 = .ok (.iaload, 1) := by decide +kernel
theorem dL_law_203 : decode cL_law 203 = .ok (.aload_n 0, 1) := by decide +kernel
theorem dL_law_204 : decode cL_law 204 = .ok (.iload_n 3, 1) := by decide +kernel
theorem dL_law_205 : decode cL_law 205 = .ok (.iconst 3, 1) := by decide +kernel
theorem dL_law_206 : decode cL_law 206 = .ok (.iadd, 1) := by decide +kernel
theorem dL_law_207 : decode cL_law 207 = .ok (.iaload, 1) := by decide +kernel
theorem dL_law_208 : decode cL_law 208 = .ok (.invokevirtual 33, 3) := by decide +kernel
theorem dL_law_211 : decode cL_law 211 = .ok (.aload_n 2, 1) := by decide +kernel
theorem dL_law_212 : decode cL_law 212 = .ok (.aload_n 0, 1) := by decide +kernel
theorem dL_law_213 : decode cL_law 213 = .ok (.iload_n 3, 1) := by decide +kernel
theorem dL_law_214 : decode cL_law 214 = .ok (.iconst 1, 1) := by decide +kernel
theorem dL_law_215 : decode cL_law 215 = .ok (.iadd, 1) := by decide +kernel
theorem dL_law_216 : decode cL_law 216 = .ok (.iaload, 1) := by decide +kernel
theorem dL_law_217 : decode cL_law 217 = .ok (.aload_n 0, 1) := by decide +kernel
theorem dL_law_218 : decode cL_law 218 = .ok (.iload_n 3, 1) := by decide +kernel
theorem dL_law_219 : decode cL_law 219 = .ok (.iconst 2, 1) := by decide +kernel
theorem dL_law_220 : decode cL_law 220 = .ok (.iadd, 1) := by decide +kernel
theorem dL_law_221 : decode cL_law 221 = .ok (.iaload, 1) := by decide +kernel
theorem dL_law_222 : decode cL_law 222 = .ok (.aload_n 0, 1) := by decide +kernel
theorem dL_law_223 : decode cL_law 223 = .ok (.iload_n 3, 1) := by decide +kernel
theorem dL_law_224 : decode cL_law 224 = .ok (.iconst 3, 1) := by decide +kernel
theorem dL_law_225 : decode cL_law 225 = .ok (.iadd, 1) := by decide +kernel
theorem dL_law_226 : decode cL_law 226 = .ok (.iaload, 1) := by decide +kernel
theorem dL_law_227 : decode cL_law 227 = .ok (.invokevirtual 37, 3) := by decide +kernel
theorem dL_law_230 : decode cL_law 230 = .ok (.if_icmp .eq 289, 3) := by decide +kernel
theorem dL_law_233 : decode cL_law 233 = .ok (.iconst 0, 1) := by decide +kernel
theorem dL_law_234 : decode cL_law 234 = .ok (.ireturn, 1) := by decide +kernel
theorem dL_law_235 : decode cL_law 235 = .ok (.aload_n 1, 1) := by decide +kernel
theorem dL_law_236 : decode cL_law 236 = .ok (.aload_n 0, 1) := by decide +kernel
theorem dL_law_237 : decode cL_law 237 = .ok (.iload_n 3, 1) := by decide +kernel
theorem dL_law_238 : decode cL_law 238 = .ok (.iconst 1, 1) := by decide +kernel
theorem dL_law_239 : decode cL_law 239 = .ok (.iadd, 1) := by decide +kernel
theorem dL_law_240 : decode cL_law 240 = .ok (.iaload, 1) := by decide +kernel
theorem dL_law_241 : decode cL_law 241 = .ok (.aload_n 0, 1) := by decide +kernel
theorem dL_law_242 : decode cL_law 242 = .ok (.iload_n 3, 1) := by decide +kernel
theorem dL_law_243 : decode cL_law 243 = .ok (.iconst 2, 1) := by decide +kernel
theorem dL_law_244 : decode cL_law 244 = .ok (.iadd, 1) := by decide +kernel
theorem dL_law_245 : decode cL_law 245 = .ok (.iaload, 1) := by decide +kernel
theorem dL_law_246 : decode cL_law 246 = .ok (.aload_n 0, 1) := by decide +kernel
theorem dL_law_247 : decode cL_law 247 = .ok (.iload_n 3, 1) := by decide +kernel
theorem dL_law_248 : decode cL_law 248 = .ok (.iconst 3, 1) := by decide +kernel
theorem dL_law_249 : decode cL_law 249 = .ok (.iadd, 1) := by decide +kernel
theorem dL_law_250 : decode cL_law 250 = .ok (.iaload, 1) := by decide +kernel
theorem dL_law_251 : decode cL_law 251 = .ok (.invokevirtual 38, 3) := by decide +kernel
theorem dL_law_254 : decode cL_law 254 = .ok (.aload_n 2, 1) := by decide +kernel
theorem dL_law_255 : decode cL_law 255 = .ok (.aload_n 0, 1) := by decide +kernel
theorem dL_law_256 : decode cL_law 256 = .ok (.iload_n 3, 1) := by decide +kernel
theorem dL_law_257 : decode cL_law 257 = .ok (.iconst 1, 1) := by decide +kernel
theorem dL_law_258 : decode cL_law 258 = .ok (.iadd, 1) := by decide +kernel
theorem dL_law_259 : decode cL_law 259 = .ok (.iaload, 1) := by decide +kernel
theorem dL_law_260 : decode cL_law 260 = .ok (.aload_n 0, 1) := by decide +kernel
theorem dL_law_261 : decode cL_law 261 = .ok (.iload_n 3, 1) := by decide +kernel
theorem dL_law_262 : decode cL_law 262 = .ok (.iconst 2, 1) := by decide +kernel
theorem dL_law_263 : decode cL_law 263 = .ok (.iadd, 1) := by decide +kernel
theorem dL_law_264 : decode cL_law 264 = .ok (.iaload, 1) := by decide +kernel
theorem dL_law_265 : decode cL_law 265 = .ok (.aload_n 0, 1) := by decide +kernel
theorem dL_law_266 : decode cL_law 266 = .ok (.iload_n 3, 1) := by decide +kernel
theorem dL_law_267 : decode cL_law 267 = .ok (.iconst 3, 1) := by decide +kernel
theorem dL_law_268 : decode cL_law 268 = .ok (.iadd, 1) := by decide +kernel
theorem dL_law_269 : decode cL_law 269 = .ok (.iaload, 1) := by decide +kernel
theorem dL_law_270 : decode cL_law 270 = .ok (.invokevirtual 41, 3) := by decide +kernel
theorem dL_law_273 : decode cL_law 273 = .ok (.if_icmp .eq 246, 3) := by decide +kernel
theorem dL_law_276 : decode cL_law 276 = .ok (.iconst 0, 1) := by decide +kernel
theorem dL_law_277 : decode cL_law 277 = .ok (.ireturn, 1) := by decide +kernel
theorem dL_law_278 : decode cL_law 278 = .ok (.aload_n 1, 1) := by decide +kernel
theorem dL_law_279 : decode cL_law 279 = .ok (.aload_n 0, 1) := by decide +kernel
theorem dL_law_280 : decode cL_law 280 = .ok (.iload_n 3, 1) := by decide +kernel
theorem dL_law_281 : decode cL_law 281 = .ok (.iconst 1, 1) := by decide +kernel
theorem dL_law_282 : decode cL_law 282 = .ok (.iadd, 1) := by decide +kernel
theorem dL_law_283 : decode cL_law 283 = .ok (.iaload, 1) := by decide +kernel
theorem dL_law_284 : decode cL_law 284 = .ok (.aload_n 0, 1) := by decide +kernel
theorem dL_law_285 : decode cL_law 285 = .ok (.iload_n 3, 1) := by decide +kernel
theorem dL_law_286 : decode cL_law 286 = .ok (.iconst 2, 1) := by decide +kernel
theorem dL_law_287 : decode cL_law 287 = .ok (.iadd, 1) := by decide +kernel
theorem dL_law_288 : decode cL_law 288 = .ok (.iaload, 1) := by decide +kernel
theorem dL_law_289 : decode cL_law 289 = .ok (.aload_n 0, 1) := by decide +kernel
theorem dL_law_290 : decode cL_law 290 = .ok (.iload_n 3, 1) := by decide +kernel
theorem dL_law_291 : decode cL_law 291 = .ok (.iconst 3, 1) := by decide +kernel
theorem dL_law_292 : decode cL_law 292 = .ok (.iadd, 1) := by decide +kernel
theorem dL_law_293 : decode cL_law 293 = .ok (.iaload, 1) := by decide +kernel
theorem dL_law_294 : decode cL_law 294 = .ok (.invokevirtual 42, 3) := by decide +kernel
theorem dL_law_297 : decode cL_law 297 = .ok (.aload_n 2, 1) := by decide +kernel
theorem dL_law_298 : decode cL_law 298 = .ok (.aload_n 0, 1) := by decide +kernel
theorem dL_law_299 : decode cL_law 299 = .ok (.iload_n 3, 1) := by decide +kernel
theorem dL_law_300 : decode cL_law 300 = .ok (.iconst 1, 1) := by decide +kernel
theorem dL_law_301 : decode cL_law 301 = .ok (.iadd, 1) := by decide +kernel
theorem dL_law_302 : decode cL_law 302 = .ok (.iaload, 1) := by decide +kernel
theorem dL_law_303 : decode cL_law 303 = .ok (.aload_n 0, 1) := by decide +kernel
theorem dL_law_304 : decode cL_law 304 = .ok (.iload_n 3, 1) := by decide +kernel
theorem dL_law_305 : decode cL_law 305 = .ok (.iconst 2, 1) := by decide +kernel
theorem dL_law_306 : decode cL_law 306 = .ok (.iadd, 1) := by decide +kernel
theorem dL_law_307 : decode cL_law 307 = .ok (.iaload, 1) := by decide +kernel
theorem dL_law_308 : decode cL_law 308 = .ok (.aload_n 0, 1) := by decide +kernel
theorem dL_law_309 : decode cL_law 309 = .ok (.iload_n 3, 1) := by decide +kernel
theorem dL_law_310 : decode cL_law 310 = .ok (.iconst 3, 1) := by decide +kernel
theorem dL_law_311 : decode cL_law 311 = .ok (.iadd, 1) := by decide +kernel
theorem dL_law_312 : decode cL_law 312 = .ok (.iaload, 1) := by decide +kernel
theorem dL_law_313 : decode cL_law 313 = .ok (.invokevirtual 45, 3) := by decide +kernel
theorem dL_law_316 : decode cL_law 316 = .ok (.if_icmp .eq 203, 3) := by decide +kernel
theorem dL_law_319 : decode cL_law 319 = .ok (.iconst 0, 1) := by decide +kernel
theorem dL_law_320 : decode cL_law 320 = .ok (.ireturn, 1) := by decide +kernel
theorem dL_law_321 : decode cL_law 321 = .ok (.aload_n 1, 1) := by decide +kernel
theorem dL_law_322 : decode cL_law 322 = .ok (.aload_n 0, 1) := by decide +kernel
theorem dL_law_323 : decode cL_law 323 = .ok (.iload_n 3, 1) := by decide +kernel
theorem dL_law_324 : decode cL_law 324 = .ok (.iconst 1, 1) := by decide +kernel
theorem dL_law_325 : decode cL_law 325 = .ok (.iadd, 1) := by decide +kernel
theorem dL_law_326 : decode cL_law 326 = .ok (.iaload, 1) := by decide +kernel
theorem dL_law_327 : decode cL_law 327 = .ok (.aload_n 0, 1) := by decide +kernel
theorem dL_law_328 : decode cL_law 328 = .ok (.iload_n 3, 1) := by decide +kernel
theorem dL_law_329 : decode cL_law 329 = .ok (.iconst 2, 1) := by decide +kernel
theorem dL_law_330 : decode cL_law 330 = .ok (.iadd, 1) := by decide +kernel
theorem dL_law_331 : decode cL_law 331 = .ok (.iaload, 1) := by decide +kernel
theorem dL_law_332 : decode cL_law 332 = .ok (.aload_n 0, 1) := by decide +kernel
theorem dL_law_333 : decode cL_law 333 = .ok (.iload_n 3, 1) := by decide +kernel
theorem dL_law_334 : decode cL_law 334 = .ok (.iconst 3, 1) := by decide +kernel
theorem dL_law_335 : decode cL_law 335 = .ok (.iadd, 1) := by decide +kernel
theorem dL_law_336 : decode cL_law 336 = .ok (.iaload, 1) := by decide +kernel
theorem dL_law_337 : decode cL_law 337 = .ok (.invokevirtual 46, 3) := by decide +kernel
theorem dL_law_340 : decode cL_law 340 = .ok (.aload_n 2, 1) := by decide +kernel
theorem dL_law_341 : decode cL_law 341 = .ok (.aload_n 0, 1) := by decide +kernel
theorem dL_law_342 : decode cL_law 342 = .ok (.iload_n 3, 1) := by decide +kernel
theorem dL_law_343 : decode cL_law 343 = .ok (.iconst 1, 1) := by decide +kernel
theorem dL_law_344 : decode cL_law 344 = .ok (.iadd, 1) := by decide +kernel
theorem dL_law_345 : decode cL_law 345 = .ok (.iaload, 1) := by decide +kernel
theorem dL_law_346 : decode cL_law 346 = .ok (.aload_n 0, 1) := by decide +kernel
theorem dL_law_347 : decode cL_law 347 = .ok (.iload_n 3, 1) := by decide +kernel
theorem dL_law_348 : decode cL_law 348 = .ok (.iconst 2, 1) := by decide +kernel
theorem dL_law_349 : decode cL_law 349 = .ok (.iadd, 1) := by decide +kernel
theorem dL_law_350 : decode cL_law 350 = .ok (.iaload, 1) := by decide +kernel
theorem dL_law_351 : decode cL_law 351 = .ok (.aload_n 0, 1) := by decide +kernel
theorem dL_law_352 : decode cL_law 352 = .ok (.iload_n 3, 1) := by decide +kernel
theorem dL_law_353 : decode cL_law 353 = .ok (.iconst 3, 1) := by decide +kernel
theorem dL_law_354 : decode cL_law 354 = .ok (.iadd, 1) := by decide +kernel
theorem dL_law_355 : decode cL_law 355 = .ok (.iaload, 1) := by decide +kernel
theorem dL_law_356 : decode cL_law 356 = .ok (.invokevirtual 49, 3) := by decide +kernel
theorem dL_law_359 : decode cL_law 359 = .ok (.if_icmp .eq 160, 3) := by decide +kernel
theorem dL_law_362 : decode cL_law 362 = .ok (.iconst 0, 1) := by decide +kernel
theorem dL_law_363 : decode cL_law 363 = .ok (.ireturn, 1) := by decide +kernel
theorem dL_law_364 : decode cL_law 364 = .ok (.aload_n 1, 1) := by decide +kernel
theorem dL_law_365 : decode cL_law 365 = .ok (.aload_n 0, 1) := by decide +kernel
theorem dL_law_366 : decode cL_law 366 = .ok (.iload_n 3, 1) := by decide +kernel
theorem dL_law_367 : decode cL_law 367 = .ok (.iconst 1, 1) := by decide +kernel
theorem dL_law_368 : decode cL_law 368 = .ok (.iadd, 1) := by decide +kernel
theorem dL_law_369 : decode cL_law 369 = .ok (.iaload, 1) := by decide +kernel
theorem dL_law_370 : decode cL_law 370 = .ok (.aload_n 0, 1) := by decide +kernel
theorem dL_law_371 : decode cL_law 371 = .ok (.iload_n 3, 1) := by decide +kernel
theorem dL_law_372 : decode cL_law 372 = .ok (.iconst 2, 1) := by decide +kernel
theorem dL_law_373 : decode cL_law 373 = .ok (.iadd, 1) := by decide +kernel
theorem dL_law_374 : decode cL_law 374 = .ok (.iaload, 1) := by decide +kernel
theorem dL_law_375 : decode cL_law 375 = .ok (.aload_n 0, 1) := by decide +kernel
theorem dL_law_376 : decode cL_law 376 = .ok (.iload_n 3, 1) := by decide +kernel
theorem dL_law_377 : decode cL_law 377 = .ok (.iconst 3, 1) := by decide +kernel
theorem dL_law_378 : decode cL_law 378 = .ok (.iadd, 1) := by decide +kernel
theorem dL_law_379 : decode cL_law 379 = .ok (.iaload, 1) := by decide +kernel
theorem dL_law_380 : decode cL_law 380 = .ok (.invokevirtual 50, 3) := by decide +kernel
theorem dL_law_383 : decode cL_law 383 = .ok (.aload_n 2, 1) := by decide +kernel
theorem dL_law_384 : decode cL_law 384 = .ok (.aload_n 0, 1) := by decide +kernel
theorem dL_law_385 : decode cL_law 385 = .ok (.iload_n 3, 1) := by decide +kernel
theorem dL_law_386 : decode cL_law 386 = .ok (.iconst 1, 1) := by decide +kernel
theorem dL_law_387 : decode cL_law 387 = .ok (.iadd, 1) := by decide +kernel
theorem dL_law_388 : decode cL_law 388 = .ok (.iaload, 1) := by decide +kernel
theorem dL_law_389 : decode cL_law 389 = .ok (.aload_n 0, 1) := by decide +kernel
theorem dL_law_390 : decode cL_law 390 = .ok (.iload_n 3, 1) := by decide +kernel
theorem dL_law_391 : decode cL_law 391 = .ok (.iconst 2, 1) := by decide +kernel
theorem dL_law_392 : decode cL_law 392 = .ok (.iadd, 1) := by decide +kernel
theorem dL_law_393 : decode cL_law 393 = .ok (.iaload, 1) := by decide +kernel
theorem dL_law_394 : decode cL_law 394 = .ok (.aload_n 0, 1) := by decide +kernel
theorem dL_law_395 : decode cL_law 395 = .ok (.iload_n 3, 1) := by decide +kernel
theorem dL_law_396 : decode cL_law 396 = .ok (.iconst 3, 1) := by decide +kernel
theorem dL_law_397 : decode cL_law 397 = .ok (.iadd, 1) := by decide +kernel
theorem dL_law_398 : decode cL_law 398 = .ok (.iaload, 1) := by decide +kernel
theorem dL_law_399 : decode cL_law 399 = .ok (.invokevirtual 53, 3) := by decide +kernel
theorem dL_law_402 : decode cL_law 402 = .ok (.if_icmp .eq 117, 3) := by decide +kernel
theorem dL_law_405 : decode cL_law 405 = .ok (.iconst 0, 1) := by decide +kernel
theorem dL_law_406 : decode cL_law 406 = .ok (.ireturn, 1) := by decide +kernel
theorem dL_law_407 : decode cL_law 407 = .ok (.aload_n 1, 1) := by decide +kernel
theorem dL_law_408 : decode cL_law 408 = .ok (.aload_n 0, 1) := by decide +kernel
theorem dL_law_409 : decode cL_law 409 = .ok (.iload_n 3, 1) := by decide +kernel
theorem dL_law_410 : decode cL_law 410 = .ok (.iconst 1, 1) := by decide +kernel
theorem dL_law_411 : decode cL_law 411 = .ok (.iadd, 1) := by decide +kernel
theorem dL_law_412 : decode cL_law 412 = .ok (.iaload, 1) := by decide +kernel
theorem dL_law_413 : decode cL_law 413 = .ok (.aload_n 0, 1) := by decide +kernel
theorem dL_law_414 : decode cL_law 414 = .ok (.iload_n 3, 1) := by decide +kernel
theorem dL_law_415 : decode cL_law 415 = .ok (.iconst 2, 1) := by decide +kernel
theorem dL_law_416 : decode cL_law 416 = .ok (.iadd, 1) := by decide +kernel
theorem dL_law_417 : decode cL_law 417 = .ok (.iaload, 1) := by decide +kernel
theorem dL_law_418 : decode cL_law 418 = .ok (.invokevirtual 54, 3) := by decide +kernel
theorem dL_law_421 : decode cL_law 421 = .ok (.aload_n 2, 1) := by decide +kernel
theorem dL_law_422 : decode cL_law 422 = .ok (.aload_n 0, 1) := by decide +kernel
theorem dL_law_423 : decode cL_law 423 = .ok (.iload_n 3, 1) := by decide +kernel
theorem dL_law_424 : decode cL_law 424 = .ok (.iconst 1, 1) := by decide +kernel
theorem dL_law_425 : decode cL_law 425 = .ok (.iadd, 1) := by decide +kernel
theorem dL_law_426 : decode cL_law 426 = .ok (.iaload, 1) := by decide +kernel
theorem dL_law_427 : decode cL_law 427 = .ok (.aload_n 0, 1) := by decide +kernel
theorem dL_law_428 : decode cL_law 428 = .ok (.iload_n 3, 1) := by decide +kernel
theorem dL_law_429 : decode cL_law 429 = .ok (.iconst 2, 1) := by decide +kernel
theorem dL_law_430 : decode cL_law 430 = .ok (.iadd, 1) := by decide +kernel
theorem dL_law_431 : decode cL_law 431 = .ok (.iaload, 1) := by decide +kernel
theorem dL_law_432 : decode cL_law 432 = .ok (.invokevirtual 57, 3) := by decide +kernel
theorem dL_law_435 : decode cL_law 435 = .ok (.if_icmp .eq 84, 3) := by decide +kernel
theorem dL_law_438 : decode cL_law 438 = .ok (.iconst 0, 1) := by decide +kernel
theorem dL_law_439 : decode cL_law 439 = .ok (.ireturn, 1) := by decide +kernel
theorem dL_law_440 : decode cL_law 440 = .ok (.aload_n 1, 1) := by decide +kernel
theorem dL_law_441 : decode cL_law 441 = .ok (.invokevirtual 58, 3) := by decide +kernel
theorem dL_law_444 : decode cL_law 444 = .ok (.aload_n 2, 1) := by decide +kernel
theorem dL_law_445 : decode cL_law 445 = .ok (.invokevirtual 62, 3) := by decide +kernel
theorem dL_law_448 : decode cL_law 448 = .ok (.if_icmp .eq 71, 3) := by decide +kernel
theorem dL_law_451 : decode cL_law 451 = .ok (.iconst 0, 1) := by decide +kernel
theorem dL_law_452 : decode cL_law 452 = .ok (.ireturn, 1) := by decide +kernel
theorem dL_law_453 : decode cL_law 453 = .ok (.aload_n 1, 1) := by decide +kernel
theorem dL_law_454 : decode cL_law 454 = .ok (.aload_n 0, 1) := by decide +kernel
theorem dL_law_455 : decode cL_law 455 = .ok (.iload_n 3, 1) := by decide +kernel
theorem dL_law_456 : decode cL_law 456 = .ok (.iconst 1, 1) := by decide +kernel
theorem dL_law_457 : decode cL_law 457 = .ok (.iadd, 1) := by decide +kernel
theorem dL_law_458 : decode cL_law 458 = .ok (.iaload, 1) := by decide +kernel
theorem dL_law_459 : decode cL_law 459 = .ok (.aload_n 0, 1) := by decide +kernel
theorem dL_law_460 : decode cL_law 460 = .ok (.iload_n 3, 1) := by decide +kernel
theorem dL_law_461 : decode cL_law 461 = .ok (.iconst 2, 1) := by decide +kernel
theorem dL_law_462 : decode cL_law 462 = .ok (.iadd, 1) := by decide +kernel
theorem dL_law_463 : decode cL_law 463 = .ok (.iaload, 1) := by decide +kernel
theorem dL_law_464 : decode cL_law 464 = .ok (.aload_n 0, 1) := by decide +kernel
theorem dL_law_465 : decode cL_law 465 = .ok (.iload_n 3, 1) := by decide +kernel
theorem dL_law_466 : decode cL_law 466 = .ok (.iconst 3, 1) := by decide +kernel
theorem dL_law_467 : decode cL_law 467 = .ok (.iadd, 1) := by decide +kernel
theorem dL_law_468 : decode cL_law 468 = .ok (.iaload, 1) := by decide +kernel
theorem dL_law_469 : decode cL_law 469 = .ok (.invokevirtual 63, 3) := by decide +kernel
theorem dL_law_472 : decode cL_law 472 = .ok (.aload_n 2, 1) := by decide +kernel
theorem dL_law_473 : decode cL_law 473 = .ok (.aload_n 0, 1) := by decide +kernel
theorem dL_law_474 : decode cL_law 474 = .ok (.iload_n 3, 1) := by decide +kernel
theorem dL_law_475 : decode cL_law 475 = .ok (.iconst 1, 1) := by decide +kernel
theorem dL_law_476 : decode cL_law 476 = .ok (.iadd, 1) := by decide +kernel
theorem dL_law_477 : decode cL_law 477 = .ok (.iaload, 1) := by decide +kernel
theorem dL_law_478 : decode cL_law 478 = .ok (.aload_n 0, 1) := by decide +kernel
theorem dL_law_479 : decode cL_law 479 = .ok (.iload_n 3, 1) := by decide +kernel
theorem dL_law_480 : decode cL_law 480 = .ok (.iconst 2, 1) := by decide +kernel
theorem dL_law_481 : decode cL_law 481 = .ok (.iadd, 1) := by decide +kernel
theorem dL_law_482 : decode cL_law 482 = .ok (.iaload, 1) := by decide +kernel
theorem dL_law_483 : decode cL_law 483 = .ok (.aload_n 0, 1) := by decide +kernel
theorem dL_law_484 : decode cL_law 484 = .ok (.iload_n 3, 1) := by decide +kernel
theorem dL_law_485 : decode cL_law 485 = .ok (.iconst 3, 1) := by decide +kernel
theorem dL_law_486 : decode cL_law 486 = .ok (.iadd, 1) := by decide +kernel
theorem dL_law_487 : decode cL_law 487 = .ok (.iaload, 1) := by decide +kernel
theorem dL_law_488 : decode cL_law 488 = .ok (.invokevirtual 66, 3) := by decide +kernel
theorem dL_law_491 : decode cL_law 491 = .ok (.if_icmp .eq 28, 3) := by decide +kernel
theorem dL_law_494 : decode cL_law 494 = .ok (.iconst 0, 1) := by decide +kernel
theorem dL_law_495 : decode cL_law 495 = .ok (.ireturn, 1) := by decide +kernel
theorem dL_law_496 : decode cL_law 496 = .ok (.aload_n 1, 1) := by decide +kernel
theorem dL_law_497 : decode cL_law 497 = .ok (.aload_n 0, 1) := by decide +kernel
theorem dL_law_498 : decode cL_law 498 = .ok (.iload_n 3, 1) := by decide +kernel
theorem dL_law_499 : decode cL_law 499 = .ok (.iconst 1, 1) := by decide +kernel
theorem dL_law_500 : decode cL_law 500 = .ok (.iadd, 1) := by decide +kernel
theorem dL_law_501 : decode cL_law 501 = .ok (.iaload, 1) := by decide +kernel
theorem dL_law_502 : decode cL_law 502 = .ok (.invokevirtual 67, 3) := by decide +kernel
theorem dL_law_505 : decode cL_law 505 = .ok (.aload_n 2, 1) := by decide +kernel
theorem dL_law_506 : decode cL_law 506 = .ok (.aload_n 0, 1) := by decide +kernel
theorem dL_law_507 : decode cL_law 507 = .ok (.iload_n 3, 1) := by decide +kernel
theorem dL_law_508 : decode cL_law 508 = .ok (.iconst 1, 1) := by decide +kernel
theorem dL_law_509 : decode cL_law 509 = .ok (.iadd, 1) := by decide +kernel
theorem dL_law_510 : decode cL_law 510 = .ok (.iaload, 1) := by decide +kernel
theorem dL_law_511 : decode cL_law 511 = .ok (.invokevirtual 70, 3) := by decide +kernel
theorem dL_law_514 : decode cL_law 514 = .ok (.if_icmp .eq 5, 3) := by decide +kernel
theorem dL_law_517 : decode cL_law 517 = .ok (.iconst 0, 1) := by decide +kernel
theorem dL_law_518 : decode cL_law 518 = .ok (.ireturn, 1) := by decide +kernel
theorem dL_law_519 : decode cL_law 519 = .ok (.iinc 3 4, 3) := by decide +kernel
theorem dL_law_522 : decode cL_law 522 = .ok (.goto (-504), 3) := by decide +kernel
theorem dL_law_525 : decode cL_law 525 = .ok (.iconst 1, 1) := by decide +kernel
theorem dL_law_526 : decode cL_law 526 = .ok (.ireturn, 1) := by decide +kernel
end
section
/-! ===== V: a method's walk over one fixed world of cells, in pure words ===== -/
/-- the tables' words that every method may be given -/
def gw : List Cond := lw_tbl.filter goodWord
theorem gw_mem {w : Cond} (h : w ∈ lw_tbl) (g : goodWord w = true) : w ∈ gw := List.mem_filter.mpr ⟨h, g⟩
theorem gw_in {w : Cond} (h : w ∈ gw) : w ∈ lw_tbl := (List.mem_filter.mp h).1
theorem gw_good {w : Cond} (h : w ∈ gw) : goodWord w = true := (List.mem_filter.mp h).2
def mw (y : MethodName) (cc : ByteArray) (n : Nat) (ret : Option FieldType) : List Cond := .code y cc n ret :: gw
theorem mw_good {y : MethodName} {cc : ByteArray} {n : Nat} {ret : Option FieldType} (h : Cond.code y cc n ret ∈ gw) : GoodIn gw (mw y cc n ret) := by
  intro w hw
  rcases List.mem_cons.mp hw with rfl | hw
  · exact ⟨h, good_of_word (gw_good h)⟩
  · exact ⟨hw, good_of_word (gw_good hw)⟩
/-- the links between nest mates -/
def isNest : Cond → Bool
  | .methodLinkNest _ _ _ _ => true
  | .fieldLinkNest _ _ _ _ _ _ => true
  | _ => false
def nw : List Cond := lw_tbl.filter isNest
theorem nw_mem {w : Cond} (h : w ∈ lw_tbl) (g : isNest w = true) : w ∈ nw := List.mem_filter.mpr ⟨h, g⟩
theorem nw_warm {s U : State} (hW : s.WarmedH U.vm) (h : ∀ w ∈ nw, va_Nw w s) : ∀ w ∈ nw, va_Nw w U := by
  intro w hw
  have h1 := h w hw
  have h2 := (List.mem_filter.mp hw).2
  cases w <;> first | exact va_Nw.warmM hW h1 | exact va_Nw.warmF hW h1 | exact absurd h2 Bool.false_ne_true
theorem nw_same {s U : State} (hv : s.vm = U.vm) (h : ∀ w ∈ nw, va_Nw w s) : ∀ w ∈ nw, va_Nw w U := by
  intro w hw
  have h1 := h w hw
  have h2 := (List.mem_filter.mp hw).2
  cases w <;> first | exact absurd h2 Bool.false_ne_true | exact va_Nw.same rfl hv h1
abbrev Cx : Type := Launch × va_G × (Nat → Nat) × ClassId × ClassId × (Nat → Prop) × Nat
abbrev Sx : Type := Nat → Nat → Int32
def gl (G : Cx) : Launch := G.1
def gD (G : Cx) : va_G := G.2.1
def gad (G : Cx) : Nat → Nat := G.2.2.1
def gI (G : Cx) : ClassId := G.2.2.2.1
def gO (G : Cx) : ClassId := G.2.2.2.2.1
def gA (G : Cx) : Nat → Prop := G.2.2.2.2.2.1
def gN (G : Cx) : Nat := G.2.2.2.2.2.2
def ra (G : Cx) (c : Nat) : Value := .ref (gad G c)
/-- the cells: an int array of a length; an object of a class, its fields (a reference to a cell, or an int); fifteen rows from a cell on -/
abbrev Ds : Type := Nat ⊕ (Nat × List (Option Nat)) ⊕ Nat
def ds (c : Nat) : Ds :=
  if c < 20 then (match c with
    | 0 => .inr (.inl (5, [some 1, some 4, some 7, some 14, some 18]))
    | 1 => .inr (.inl (2, [some 2, some 3, none, none]))
    | 2 => .inl 70
    | 3 => .inl 28
    | 4 => .inr (.inl (3, [some 5, some 6]))
    | 5 => .inr (.inr 20)
    | 6 => .inl 15
    | 7 => .inr (.inl (4, [some 8, some 9, some 10, some 11, some 12, some 13]))
    | 8 => .inl 8
    | 9 => .inl 8
    | 10 => .inl 10
    | 11 => .inl 10
    | 12 => .inl 10
    | 13 => .inl 10
    | 14 => .inr (.inl (1, [some 15, some 16, some 17]))
    | 15 => .inr (.inr 35)
    | 16 => .inr (.inr 50)
    | 17 => .inr (.inr 65)
    | 18 => .inr (.inl (0, [some 19, none, none]))
    | _ => .inl 36)
  else if c < 35 then .inl 64
  else if c < 80 then .inl 36
  else (match c with
    | 80 => .inr (.inl (6, [none, some 81, some 82, some 83, some 84, none, some 85, some 86, some 87]))
    | 81 => .inl 75
    | 82 => .inl 15
    | 83 => .inl 26624
    | 84 => .inl 26624
    | 85 => .inl 36
    | 86 => .inl 15
    | _ => .inl 15)
theorem ds_way {j : Nat} (h : j < 15) : ds (20 + j) = .inl 64 := by
  unfold ds; rw [if_neg (by omega), if_pos (by omega)]
theorem ds_fnd {c : Nat} (h : 35 ≤ c) (h2 : c < 80) : ds c = .inl 36 := by
  unfold ds; rw [if_neg (by omega), if_neg (by omega), if_pos h2]
def fv (G : Cx) (S : Sx) (c k : Nat) (f : Option Nat) : Value := match f with
  | some q => ra G q
  | none => .int (S c k)
def ce (G : Cx) (S : Sx) (c : Nat) : va_E := match ds c with
  | .inl n => .inl (gI G, n, .inl (S c))
  | .inr (.inl o) => .inr (o.1, o.2.mapIdx (fun k f => fv G S c k f))
  | .inr (.inr b) => .inl (gO G, 15, .inr (.inr (.inr (.inr (fun i => some (gad G (b + i)))))))
def cw (G : Cx) (S : Sx) : va_W := (List.range (gN G)).map (fun c => (gad G c, ce G S c))
def st (S : Sx) (c i : Nat) (x : Int32) : Sx := fun q => if q = c then upd (S c) i x else S q
theorem st_ne {S : Sx} {c i q : Nat} {x : Int32} (h : q ≠ c) : st S c i x q = S q := if_neg h
theorem st_eq {S : Sx} {c i : Nat} {x : Int32} : st S c i x c = upd (S c) i x := if_pos rfl
theorem cw_at {G : Cx} {S : Sx} {c : Nat} (h : c < gN G) : (cw G S)[c]? = some (gad G c, ce G S c) := by
  unfold cw; rw [List.getElem?_map, List.getElem?_range h]; rfl
theorem cw_set {G : Cx} {S S' : Sx} {c : Nat} (hc : c < gN G) (h : ∀ q, q ≠ c → S' q = S q) : (cw G S).set c (gad G c, ce G S' c) = cw G S' := by
  apply List.ext_getElem?
  intro k
  by_cases hk : k = c
  · subst hk
    rw [List.getElem?_set_self (by unfold cw; simpa using hc), cw_at hc]
  · rw [List.getElem?_set_ne (Ne.symm hk)]
    by_cases hn : k < gN G
    · rw [cw_at hn, cw_at hn]
      have e : ce G S k = ce G S' k := by
        unfold ce
        rw [h k hk]
        cases ds k with
        | inl n => rfl
        | inr r =>
          cases r with
          | inl o => 
            show Sum.inr (o.1, _) = Sum.inr (o.1, _)
            congr 3
            funext i f
            cases f with
            | none => show Value.int _ = Value.int _; rw [h k hk]
            | some q => rfl
          | inr b => rfl
      rw [e]
    · rw [List.getElem?_eq_none (by unfold cw; simpa using hn), List.getElem?_eq_none (by unfold cw; simpa using hn)]
theorem ce_arr {G : Cx} {S : Sx} {c n : Nat} (h : ds c = .inl n) : ce G S c = .inl (gI G, n, .inl (S c)) := by unfold ce; rw [h]
theorem ce_obj {G : Cx} {S : Sx} {c : Nat} {o : Nat × List (Option Nat)} (h : ds c = .inr (.inl o)) : ce G S c = .inr (o.1, o.2.mapIdx (fun k f => fv G S c k f)) := by unfold ce; rw [h]
theorem ce_row {G : Cx} {S : Sx} {c b : Nat} (h : ds c = .inr (.inr b)) : ce G S c = .inl (gO G, 15, .inr (.inr (.inr (.inr (fun i => some (gad G (b + i))))))) := by unfold ce; rw [h]
theorem cw_st_arr {G : Cx} {S : Sx} {c n i : Nat} {x : Int32} (hc : c < gN G) (h : ds c = .inl n) : (cw G S).set c (gad G c, .inl (gI G, n, .inl (upd (S c) i x))) = cw G (st S c i x) := by
  rw [← cw_set hc (S' := st S c i x) (fun q hq => st_ne hq), ce_arr h, st_eq]
theorem cw_st_fld {G : Cx} {S : Sx} {c k : Nat} {o : Nat × List (Option Nat)} {x : Int32} (hc : c < gN G) (h : ds c = .inr (.inl o)) (hk : o.2[k]? = some none) : (cw G S).set c (gad G c, .inr (o.1, (o.2.mapIdx (fun k f => fv G S c k f)).set k (.int x))) = cw G (st S c k x) := by
  rw [← cw_set hc (S' := st S c k x) (fun q hq => st_ne hq), ce_obj h]
  congr 4
  apply List.ext_getElem?
  intro j
  have hkl : k < o.2.length := (List.getElem?_eq_some_iff.mp hk).1
  by_cases hj : j = k
  · subst hj
    rw [List.getElem?_set_self (by simpa using hkl), List.getElem?_mapIdx, hk]
    simp [fv, st_eq, upd]
  · rw [List.getElem?_set_ne (Ne.symm hj), List.getElem?_mapIdx, List.getElem?_mapIdx]
    cases o.2[j]? with
    | none => rfl
    | some f =>
      cases f with
      | some q => rfl
      | none => simp [fv, st_eq, upd, hj]
/-- the locals, by their places -/
def lh (ls : Array Slot) (nL : Nat) (L : List (Option Value)) : Prop := ls.size = nL ∧ lv_wf ls ∧ ∀ (i : Nat) (v : Value), L[i]? = some (some v) → ls[i]? = some (.val v) ∧ v.category = 1
def al (L : List (Option Value)) : List (Nat × Value) := (List.range L.length).filterMap (fun i => (L[i]?).bind (fun o => o.map (fun v => (i, v))))
theorem al_mem {L : List (Option Value)} {i : Nat} {v : Value} : (i, v) ∈ al L ↔ L[i]? = some (some v) := by
  unfold al
  rw [List.mem_filterMap]
  constructor
  · rintro ⟨j, -, hj⟩
    cases hL : L[j]? with
    | none => rw [hL] at hj; cases hj
    | some o =>
      rw [hL] at hj
      cases o with
      | none => cases hj
      | some w => cases hj; exact hL
  · intro h
    refine ⟨i, List.mem_range.mpr (List.getElem?_eq_some_iff.mp h).1, ?_⟩
    rw [h]; rfl
theorem lh_has {ls : Array Slot} {nL : Nat} {L : List (Option Value)} (h : lh ls nL L) : lv_has ls nL (al L) := ⟨h.1, h.2.1, fun q hq => (h.2.2 q.1 q.2 (al_mem.mp hq)).1⟩
theorem lh_set {ls ls' : Array Slot} {nL i : Nat} {L : List (Option Value)} {v : Value} (h : lh ls nL L) (hv : v.category = 1) (h' : lv_has ls' nL ((i, v) :: (al L).filter (fun q => !(q.1 == i) && !(q.1 + 1 == i && q.2.category == 2)))) : lh ls' nL (L.set i (some v)) := by
  refine ⟨h'.1, h'.2.1, fun j w hj => ?_⟩
  by_cases e : j = i
  · subst e
    have hl : j < L.length := by
      have := (List.getElem?_eq_some_iff.mp hj).1
      simpa using this
    rw [List.getElem?_set_self hl] at hj
    cases hj
    exact ⟨h'.2.2 (j, v) List.mem_cons_self, hv⟩
  · rw [List.getElem?_set_ne (Ne.symm e)] at hj
    have hc := (h.2.2 j w hj).2
    refine ⟨h'.2.2 (j, w) (List.mem_cons_of_mem _ (List.mem_filter.mpr ⟨al_mem.mpr hj, ?_⟩)), hc⟩
    simp [e, hc]
abbrev Fx : Type := Program × Env × Room × State × MethodId × Array Value × List Frame × Method × Code × Nat × Nat × Nat × (State → Prop)
def tyz (G : Cx) : List (ClassId × FieldType) := [(gI G, .int), (gO G, .array .int)]
def V (F : Fx) (G : Cx) (S : Sx) (pc : Nat) (L : List (Option Value)) (sk : List Value) : Prop := match F with
  | (p, e, R, s, m, args, below, meth, c, nL, kc, ks, Q) => ∀ (H : Heap) (locs : List Loc) (ls : Array Slot), va_P (gD G) vwCl (cw G S) H → va_D (gA G) (cw G S) → va_S (gA G) s.heap H locs → lh ls nL L → W p (gl G) e R s m args below meth c H locs kc ks Q (F0 m pc ls sk)
def CX (F : Fx) (G : Cx) (cc : ByteArray) (own : String) : Prop := match F with
  | (p, e, R, s, m, args, below, meth, c, nL, kc, ks, Q) => p.tables.exec = Jvm.exec ∧ c.code = cc ∧ c.maxLocals = nL ∧ s.vm.findClass own = some m.cls ∧ (∀ w ∈ gw, w.before args s = true) ∧ va_K (gD G) vwCl (tyz G) s ∧ (∀ w ∈ nw, va_Nw w s) ∧ meth.locks = false ∧ kc ≤ R.cells ∧ ks ≤ R.slots
def fR (F : Fx) : Room := F.2.2.1
def fnL (F : Fx) : Nat := F.2.2.2.2.2.2.2.2.2.1
def rmD (d : Nat) : Room := { frames := d, cells := 0, slots := 0, locals := 40 * d }
def Wd (G : Cx) (S : Sx) (U : State) : Prop := va_P (gD G) vwCl (cw G S) U.heap ∧ va_K (gD G) vwCl (tyz G) U ∧ va_D (gA G) (cw G S) ∧ ∀ w ∈ nw, va_Nw w U
theorem Wd_blind {G : Cx} {S : Sx} {as : List Value} : FrameBlind (va_Pc as (Wd G S)) := fun a U g mk q => by
  obtain ⟨q0, qP, qK, qD, qN⟩ := q
  exact ⟨q0, qP, va_K.moved (u := U) (U := U.calling g mk a) (Vm.Alike.refl U.vm) qK, qD, nw_same (s := U) (U := U.calling g mk a) rfl qN⟩
/-- a method's contract: from the state S it answers r and leaves S' -/
def CT (G : Cx) (d : Nat) (y : MethodName) (cc : ByteArray) (nL : Nat) (ret : Option FieldType) (as : List Value) (S : Sx) (r : Int32) (S' : Sx) : Prop :=
  Met (gl G) y (mw y cc nL ret) (rmD d) (va_Pc as (Wd G S)) (va_Qi (fun r0 S0 => r0 = r ∧ S0 = S') (fun S0 t => Wd G S0 t) (gA G)) 0 0 (gA G)
def CV (G : Cx) (d : Nat) (y : MethodName) (cc : ByteArray) (nL : Nat) (as : List Value) (S : Sx) (S' : Sx) : Prop :=
  Met (gl G) y (mw y cc nL none) (rmD d) (va_Pc as (Wd G S)) (va_Qv (fun S0 => S0 = S') (fun S0 t => Wd G S0 t) (gA G)) 0 0 (gA G)

theorem lh_entry {as : List Value} {n : Nat} (h1 : as.length ≤ n) (h2 : ∀ v ∈ as, v.category = 1) : lh ((lg_sl as ++ List.replicate (n - (lg_sl as).length) Slot.unset).toArray) n (as.map some ++ List.replicate (n - as.length) none) := by
  have hsl : ∀ (l : List Value), (∀ v ∈ l, v.category = 1) → (lg_sl l).length = l.length := by
    intro l
    induction l with
    | nil => intro _; rfl
    | cons v l ih =>
      intro h
      have hv := h v List.mem_cons_self
      have := ih (fun w hw => h w (List.mem_cons_of_mem _ hw))
      cases v <;> first | (simp [Value.category] at hv; done) | (simpa [lg_sl, Value.category] using this)
  have hla : ∀ (l : List Value) (k : Nat), (∀ v ∈ l, v.category = 1) → ∀ (i : Nat) (v : Value), l[i]? = some v → (k + i, v) ∈ lv_args k l := by
    intro l
    induction l with
    | nil => intro k _ i v h; simp at h
    | cons w l ih =>
      intro k h i v hi
      have hw := h w List.mem_cons_self
      cases i with
      | zero => 
        rw [List.getElem?_cons_zero] at hi
        cases hi
        cases w <;> first | (simp [Value.category] at hw; done) | simp [lv_args]
      | succ i =>
        rw [List.getElem?_cons_succ] at hi
        have := ih (k + 1) (fun w hw => h w (List.mem_cons_of_mem _ hw)) i v hi
        rw [show k + (i + 1) = k + 1 + i by omega]
        cases w <;> first | (simp [Value.category] at hw; done) | (simp only [lv_args, Value.category]; exact List.mem_cons_of_mem _ this) | (simp [lv_args, Value.category]; right; exact this)
  have hl := lv_entry as (n := n) (by rw [hsl as h2]; exact h1)
  refine ⟨hl.1, hl.2.1, fun i v hi => ?_⟩
  by_cases hlt : i < as.length
  · rw [List.getElem?_append_left (by simpa using hlt), List.getElem?_map] at hi
    cases ha : as[i]? with
    | none => rw [ha] at hi; cases hi
    | some w =>
      rw [ha] at hi
      cases hi
      have := hla as 0 h2 i v ha
      rw [Nat.zero_add] at this
      exact ⟨hl.2.2 (i, v) this, h2 v (List.mem_of_getElem? ha)⟩
  · rw [List.getElem?_append_right (by simpa using Nat.le_of_not_lt hlt)] at hi
    rw [List.getElem?_replicate] at hi
    split at hi <;> cases hi
def QI (below : List Frame) (G : Cx) (args : Array Value) (s : State) (r : Int32) (S' : Sx) : State → Prop := MQ below (va_Qi (fun r0 S0 => r0 = r ∧ S0 = S') (fun S0 t => Wd G S0 t) (gA G)) args s 0 0 (gA G)
def QV (below : List Frame) (G : Cx) (args : Array Value) (s : State) (S' : Sx) : State → Prop := MQ below (va_Qv (fun S0 => S0 = S') (fun S0 t => Wd G S0 t) (gA G)) args s 0 0 (gA G)
/-- the frame of a method that answers an int or a boolean: what its end must be -/
def RI (F : Fx) (G : Cx) (d : Nat) (ret : Option FieldType) (nL : Nat) (r : Int32) (S' : Sx) : Prop := match F with
  | (p, e, R, s, m, args, below, meth, c, nL', kc, ks, Q) => meth.sig.returnType = ret ∧ R = rmD d ∧ nL' = nL ∧ kc = 0 ∧ ks = 0 ∧ Q = QI below G args s r S'
def RV (F : Fx) (G : Cx) (d : Nat) (nL : Nat) (S' : Sx) : Prop := match F with
  | (p, e, R, s, m, args, below, meth, c, nL', kc, ks, Q) => meth.sig.returnType = none ∧ R = rmD d ∧ nL' = nL ∧ kc = 0 ∧ ks = 0 ∧ Q = QV below G args s S'
theorem CT_of {G : Cx} {d nL : Nat} {y : MethodName} {cc : ByteArray} {ret : Option FieldType} {as : List Value} {S S' : Sx} {r : Int32} (hy : plainName y.cls = true) (hn : as.length ≤ nL) (hc : ∀ v ∈ as, v.category = 1)
    (h : ∀ F : Fx, CX F G cc y.cls → RI F G d ret nL r S' → V F G S 0 (as.map some ++ List.replicate (nL - as.length) none) []) : CT G d y cc nL ret as S r S' := by
  refine Met.ofW (cc := cc) (maxL := nL) (ret := ret) hy rfl ?_
  intro p e s m args below meth c s₁ B hml hv
  obtain ⟨rfl, hP, hK, hD, hN⟩ := hv
  have hts := atoms_spec (ws := mw y cc nL ret) B.pre
  have hown : s.vm.findClass y.cls = some m.cls := findClass_of_methodNamed B.named
  have X : CX (p, e, rmD d, s, m, as.toArray, below, meth, c, nL, 0, 0, QI below G as.toArray s r S') G cc y.cls :=
    ⟨B.exec, B.bytes, hml, hown, fun w hw => hts w (List.mem_cons_of_mem _ hw), hK, hN, B.notSynchronized, Nat.zero_le _, Nat.zero_le _⟩
  have k := h _ X ⟨B.returns, rfl, rfl, rfl, rfl, rfl⟩
  rw [lg_entry_eq]
  exact k s.heap [] _ hP hD va_S.rf (lh_entry hn hc)
theorem CV_of {G : Cx} {d nL : Nat} {y : MethodName} {cc : ByteArray} {as : List Value} {S S' : Sx} (hy : plainName y.cls = true) (hn : as.length ≤ nL) (hc : ∀ v ∈ as, v.category = 1)
    (h : ∀ F : Fx, CX F G cc y.cls → RV F G d nL S' → V F G S 0 (as.map some ++ List.replicate (nL - as.length) none) []) : CV G d y cc nL as S S' := by
  refine Met.ofW (cc := cc) (maxL := nL) (ret := none) hy rfl ?_
  intro p e s m args below meth c s₁ B hml hv
  obtain ⟨rfl, hP, hK, hD, hN⟩ := hv
  have hts := atoms_spec (ws := mw y cc nL none) B.pre
  have hown : s.vm.findClass y.cls = some m.cls := findClass_of_methodNamed B.named
  have X : CX (p, e, rmD d, s, m, as.toArray, below, meth, c, nL, 0, 0, QV below G as.toArray s S') G cc y.cls :=
    ⟨B.exec, B.bytes, hml, hown, fun w hw => hts w (List.mem_cons_of_mem _ hw), hK, hN, B.notSynchronized, Nat.zero_le _, Nat.zero_le _⟩
  have k := h _ X ⟨B.returns, rfl, rfl, rfl, rfl, rfl⟩
  rw [lg_entry_eq]
  exact k s.heap [] _ hP hD va_S.rf (lh_entry hn hc)

theorem V_iconst {F : Fx} {G : Cx} {cc : ByteArray} {own : String} {S : Sx} {pc : Nat} {L : List (Option Value)} {sk : List Value} (X : CX F G cc own) {n : Int} (v : Int32) (hd : decode cc pc = .ok (.iconst n, 1)) (hv : Int32.ofInt n = v) (k : V F G S (pc + 1) L (.int v :: sk)) : V F G S pc L (sk) := by
  obtain ⟨p, e, R, s, m, args, below, meth, c, nL, kc, ks, Q⟩ := F
  obtain ⟨hx, hb, hml, hown, hts, hK, hN, hlk, hkc, hks⟩ := X
  intro H locs ls hP hD hS hl
  exact lv_iconst hx hb hd hv (k H locs ls hP hD hS hl)
theorem V_bipush {F : Fx} {G : Cx} {cc : ByteArray} {own : String} {S : Sx} {pc : Nat} {L : List (Option Value)} {sk : List Value} (X : CX F G cc own) {n : Int} (v : Int32) (hd : decode cc pc = .ok (.bipush n, 2)) (hv : (Int8.ofInt n).toInt32 = v) (k : V F G S (pc + 2) L (.int v :: sk)) : V F G S pc L (sk) := by
  obtain ⟨p, e, R, s, m, args, below, meth, c, nL, kc, ks, Q⟩ := F
  obtain ⟨hx, hb, hml, hown, hts, hK, hN, hlk, hkc, hks⟩ := X
  intro H locs ls hP hD hS hl
  exact lv_bipush hx hb hd hv (k H locs ls hP hD hS hl)
theorem V_sipush {F : Fx} {G : Cx} {cc : ByteArray} {own : String} {S : Sx} {pc : Nat} {L : List (Option Value)} {sk : List Value} (X : CX F G cc own) {n : Int} (v : Int32) (hd : decode cc pc = .ok (.sipush n, 3)) (hv : (Int16.ofInt n).toInt32 = v) (k : V F G S (pc + 3) L (.int v :: sk)) : V F G S pc L (sk) := by
  obtain ⟨p, e, R, s, m, args, below, meth, c, nL, kc, ks, Q⟩ := F
  obtain ⟨hx, hb, hml, hown, hts, hK, hN, hlk, hkc, hks⟩ := X
  intro H locs ls hP hD hS hl
  exact lv_sipush hx hb hd hv (k H locs ls hP hD hS hl)
theorem V_iload_n {F : Fx} {G : Cx} {cc : ByteArray} {own : String} {S : Sx} {pc : Nat} {L : List (Option Value)} {sk : List Value} (X : CX F G cc own) {n : Fin 4} {x : Int32} (hd : decode cc pc = .ok (.iload_n n, 1)) (hq : L[(n : Nat)]? = some (some (.int x))) (k : V F G S (pc + 1) L (.int x :: sk)) : V F G S pc L (sk) := by
  obtain ⟨p, e, R, s, m, args, below, meth, c, nL, kc, ks, Q⟩ := F
  obtain ⟨hx, hb, hml, hown, hts, hK, hN, hlk, hkc, hks⟩ := X
  intro H locs ls hP hD hS hl
  exact lv_iload_n hx hb hd rfl (hl.2.2 _ _ hq).1 (k H locs ls hP hD hS hl)
theorem V_iload {F : Fx} {G : Cx} {cc : ByteArray} {own : String} {S : Sx} {pc : Nat} {L : List (Option Value)} {sk : List Value} (X : CX F G cc own) {n : Nat} {x : Int32} (hd : decode cc pc = .ok (.iload n, 2)) (hq : L[n]? = some (some (.int x))) (k : V F G S (pc + 2) L (.int x :: sk)) : V F G S pc L (sk) := by
  obtain ⟨p, e, R, s, m, args, below, meth, c, nL, kc, ks, Q⟩ := F
  obtain ⟨hx, hb, hml, hown, hts, hK, hN, hlk, hkc, hks⟩ := X
  intro H locs ls hP hD hS hl
  exact lv_iload hx hb hd (hl.2.2 _ _ hq).1 (k H locs ls hP hD hS hl)
theorem V_aload_n {F : Fx} {G : Cx} {cc : ByteArray} {own : String} {S : Sx} {pc : Nat} {L : List (Option Value)} {sk : List Value} (X : CX F G cc own) {n : Fin 4} {x : Nat} (hd : decode cc pc = .ok (.aload_n n, 1)) (hq : L[(n : Nat)]? = some (some (ra G x))) (k : V F G S (pc + 1) L (ra G x :: sk)) : V F G S pc L (sk) := by
  obtain ⟨p, e, R, s, m, args, below, meth, c, nL, kc, ks, Q⟩ := F
  obtain ⟨hx, hb, hml, hown, hts, hK, hN, hlk, hkc, hks⟩ := X
  intro H locs ls hP hD hS hl
  exact lv_aload_n hx hb hd rfl (hl.2.2 _ _ hq).1 (k H locs ls hP hD hS hl)
theorem V_aload {F : Fx} {G : Cx} {cc : ByteArray} {own : String} {S : Sx} {pc : Nat} {L : List (Option Value)} {sk : List Value} (X : CX F G cc own) {n : Nat} {x : Nat} (hd : decode cc pc = .ok (.aload n, 2)) (hq : L[n]? = some (some (ra G x))) (k : V F G S (pc + 2) L (ra G x :: sk)) : V F G S pc L (sk) := by
  obtain ⟨p, e, R, s, m, args, below, meth, c, nL, kc, ks, Q⟩ := F
  obtain ⟨hx, hb, hml, hown, hts, hK, hN, hlk, hkc, hks⟩ := X
  intro H locs ls hP hD hS hl
  exact lv_aload hx hb hd (hl.2.2 _ _ hq).1 (k H locs ls hP hD hS hl)
theorem V_istore_n {F : Fx} {G : Cx} {cc : ByteArray} {own : String} {S : Sx} {pc : Nat} {L : List (Option Value)} {sk : List Value} (X : CX F G cc own) {n : Fin 4} {x : Int32} (hd : decode cc pc = .ok (.istore_n n, 1)) (hn : (n : Nat) < fnL F) (k : V F G S (pc + 1) (L.set (n : Nat) (some (.int x))) sk) : V F G S pc L (.int x :: sk) := by
  obtain ⟨p, e, R, s, m, args, below, meth, c, nL, kc, ks, Q⟩ := F
  obtain ⟨hx, hb, hml, hown, hts, hK, hN, hlk, hkc, hks⟩ := X
  intro H locs ls hP hD hS hl
  exact lv_istore_n hx hb hd rfl (lh_has hl) hn rfl (fun ls2 h2 => k H locs ls2 hP hD hS (lh_set hl rfl h2))
theorem V_istore {F : Fx} {G : Cx} {cc : ByteArray} {own : String} {S : Sx} {pc : Nat} {L : List (Option Value)} {sk : List Value} (X : CX F G cc own) {n : Nat} {x : Int32} (hd : decode cc pc = .ok (.istore n, 2)) (hn : n < fnL F) (k : V F G S (pc + 2) (L.set n (some (.int x))) sk) : V F G S pc L (.int x :: sk) := by
  obtain ⟨p, e, R, s, m, args, below, meth, c, nL, kc, ks, Q⟩ := F
  obtain ⟨hx, hb, hml, hown, hts, hK, hN, hlk, hkc, hks⟩ := X
  intro H locs ls hP hD hS hl
  exact lv_istore hx hb hd (lh_has hl) hn rfl (fun ls2 h2 => k H locs ls2 hP hD hS (lh_set hl rfl h2))
theorem V_iinc {F : Fx} {G : Cx} {cc : ByteArray} {own : String} {S : Sx} {pc : Nat} {L : List (Option Value)} {sk : List Value} (X : CX F G cc own) {n : Nat} {i : Int} {x : Int32} (v : Int32) (hd : decode cc pc = .ok (.iinc n i, 3)) (hn : n < fnL F) (hq : L[n]? = some (some (.int x))) (hv : x + Int32.ofInt i = v) (k : V F G S (pc + 3) (L.set n (some (.int v))) sk) : V F G S pc L (sk) := by
  obtain ⟨p, e, R, s, m, args, below, meth, c, nL, kc, ks, Q⟩ := F
  obtain ⟨hx, hb, hml, hown, hts, hK, hN, hlk, hkc, hks⟩ := X
  intro H locs ls hP hD hS hl
  obtain ⟨j, hj⟩ := List.getElem?_of_mem (al_mem.mpr hq)
  exact lv_iinc hx hb hd (lh_has hl) hj hv hn rfl (fun ls2 h2 => k H locs ls2 hP hD hS (lh_set hl rfl h2))
theorem V_iadd {F : Fx} {G : Cx} {cc : ByteArray} {own : String} {S : Sx} {pc : Nat} {L : List (Option Value)} {sk : List Value} (X : CX F G cc own) {x y : Int32} (hd : decode cc pc = .ok (.iadd, 1)) (k : V F G S (pc + 1) L (.int (x + y) :: sk)) : V F G S pc L (.int y :: .int x :: sk) := by
  obtain ⟨p, e, R, s, m, args, below, meth, c, nL, kc, ks, Q⟩ := F
  obtain ⟨hx, hb, hml, hown, hts, hK, hN, hlk, hkc, hks⟩ := X
  intro H locs ls hP hD hS hl
  exact lv_iadd hx hb hd (k H locs ls hP hD hS hl)
theorem V_isub {F : Fx} {G : Cx} {cc : ByteArray} {own : String} {S : Sx} {pc : Nat} {L : List (Option Value)} {sk : List Value} (X : CX F G cc own) {x y : Int32} (hd : decode cc pc = .ok (.isub, 1)) (k : V F G S (pc + 1) L (.int (x - y) :: sk)) : V F G S pc L (.int y :: .int x :: sk) := by
  obtain ⟨p, e, R, s, m, args, below, meth, c, nL, kc, ks, Q⟩ := F
  obtain ⟨hx, hb, hml, hown, hts, hK, hN, hlk, hkc, hks⟩ := X
  intro H locs ls hP hD hS hl
  exact lv_isub hx hb hd (k H locs ls hP hD hS hl)
theorem V_imul {F : Fx} {G : Cx} {cc : ByteArray} {own : String} {S : Sx} {pc : Nat} {L : List (Option Value)} {sk : List Value} (X : CX F G cc own) {x y : Int32} (hd : decode cc pc = .ok (.imul, 1)) (k : V F G S (pc + 1) L (.int (x * y) :: sk)) : V F G S pc L (.int y :: .int x :: sk) := by
  obtain ⟨p, e, R, s, m, args, below, meth, c, nL, kc, ks, Q⟩ := F
  obtain ⟨hx, hb, hml, hown, hts, hK, hN, hlk, hkc, hks⟩ := X
  intro H locs ls hP hD hS hl
  exact lv_imul hx hb hd (k H locs ls hP hD hS hl)
theorem V_iand {F : Fx} {G : Cx} {cc : ByteArray} {own : String} {S : Sx} {pc : Nat} {L : List (Option Value)} {sk : List Value} (X : CX F G cc own) {x y : Int32} (hd : decode cc pc = .ok (.iand, 1)) (k : V F G S (pc + 1) L (.int (x &&& y) :: sk)) : V F G S pc L (.int y :: .int x :: sk) := by
  obtain ⟨p, e, R, s, m, args, below, meth, c, nL, kc, ks, Q⟩ := F
  obtain ⟨hx, hb, hml, hown, hts, hK, hN, hlk, hkc, hks⟩ := X
  intro H locs ls hP hD hS hl
  exact lv_iand hx hb hd (k H locs ls hP hD hS hl)
theorem V_ior {F : Fx} {G : Cx} {cc : ByteArray} {own : String} {S : Sx} {pc : Nat} {L : List (Option Value)} {sk : List Value} (X : CX F G cc own) {x y : Int32} (hd : decode cc pc = .ok (.ior, 1)) (k : V F G S (pc + 1) L (.int (x ||| y) :: sk)) : V F G S pc L (.int y :: .int x :: sk) := by
  obtain ⟨p, e, R, s, m, args, below, meth, c, nL, kc, ks, Q⟩ := F
  obtain ⟨hx, hb, hml, hown, hts, hK, hN, hlk, hkc, hks⟩ := X
  intro H locs ls hP hD hS hl
  exact lv_ior hx hb hd (k H locs ls hP hD hS hl)
theorem V_ixor {F : Fx} {G : Cx} {cc : ByteArray} {own : String} {S : Sx} {pc : Nat} {L : List (Option Value)} {sk : List Value} (X : CX F G cc own) {x y : Int32} (hd : decode cc pc = .ok (.ixor, 1)) (k : V F G S (pc + 1) L (.int (x ^^^ y) :: sk)) : V F G S pc L (.int y :: .int x :: sk) := by
  obtain ⟨p, e, R, s, m, args, below, meth, c, nL, kc, ks, Q⟩ := F
  obtain ⟨hx, hb, hml, hown, hts, hK, hN, hlk, hkc, hks⟩ := X
  intro H locs ls hP hD hS hl
  exact lv_ixor hx hb hd (k H locs ls hP hD hS hl)
theorem V_ishl {F : Fx} {G : Cx} {cc : ByteArray} {own : String} {S : Sx} {pc : Nat} {L : List (Option Value)} {sk : List Value} (X : CX F G cc own) {x y : Int32} (hd : decode cc pc = .ok (.ishl, 1)) (k : V F G S (pc + 1) L (.int (x <<< (y &&& 31)) :: sk)) : V F G S pc L (.int y :: .int x :: sk) := by
  obtain ⟨p, e, R, s, m, args, below, meth, c, nL, kc, ks, Q⟩ := F
  obtain ⟨hx, hb, hml, hown, hts, hK, hN, hlk, hkc, hks⟩ := X
  intro H locs ls hP hD hS hl
  exact lv_ishl hx hb hd (k H locs ls hP hD hS hl)
theorem V_ishr {F : Fx} {G : Cx} {cc : ByteArray} {own : String} {S : Sx} {pc : Nat} {L : List (Option Value)} {sk : List Value} (X : CX F G cc own) {x y : Int32} (hd : decode cc pc = .ok (.ishr, 1)) (k : V F G S (pc + 1) L (.int (x >>> (y &&& 31)) :: sk)) : V F G S pc L (.int y :: .int x :: sk) := by
  obtain ⟨p, e, R, s, m, args, below, meth, c, nL, kc, ks, Q⟩ := F
  obtain ⟨hx, hb, hml, hown, hts, hK, hN, hlk, hkc, hks⟩ := X
  intro H locs ls hP hD hS hl
  exact lv_ishr hx hb hd (k H locs ls hP hD hS hl)
theorem V_iushr {F : Fx} {G : Cx} {cc : ByteArray} {own : String} {S : Sx} {pc : Nat} {L : List (Option Value)} {sk : List Value} (X : CX F G cc own) {x y : Int32} (hd : decode cc pc = .ok (.iushr, 1)) (k : V F G S (pc + 1) L (.int ((x.toUInt32 >>> (y.toUInt32 &&& Int32.toUInt32 31)).toInt32) :: sk)) : V F G S pc L (.int y :: .int x :: sk) := by
  obtain ⟨p, e, R, s, m, args, below, meth, c, nL, kc, ks, Q⟩ := F
  obtain ⟨hx, hb, hml, hown, hts, hK, hN, hlk, hkc, hks⟩ := X
  intro H locs ls hP hD hS hl
  exact lv_iushr hx hb hd rfl (k H locs ls hP hD hS hl)
theorem V_irem {F : Fx} {G : Cx} {cc : ByteArray} {own : String} {S : Sx} {pc : Nat} {L : List (Option Value)} {sk : List Value} (X : CX F G cc own) {x y : Int32} (hd : decode cc pc = .ok (.irem, 1)) (hy : ¬ y = 0) (k : V F G S (pc + 1) L (.int (x - x / y * y) :: sk)) : V F G S pc L (.int y :: .int x :: sk) := by
  obtain ⟨p, e, R, s, m, args, below, meth, c, nL, kc, ks, Q⟩ := F
  obtain ⟨hx, hb, hml, hown, hts, hK, hN, hlk, hkc, hks⟩ := X
  intro H locs ls hP hD hS hl
  exact lv_irem hx hb hd hy (k H locs ls hP hD hS hl)
theorem V_ineg {F : Fx} {G : Cx} {cc : ByteArray} {own : String} {S : Sx} {pc : Nat} {L : List (Option Value)} {sk : List Value} (X : CX F G cc own) {x : Int32} (hd : decode cc pc = .ok (.ineg, 1)) (k : V F G S (pc + 1) L (.int (-x) :: sk)) : V F G S pc L (.int x :: sk) := by
  obtain ⟨p, e, R, s, m, args, below, meth, c, nL, kc, ks, Q⟩ := F
  obtain ⟨hx, hb, hml, hown, hts, hK, hN, hlk, hkc, hks⟩ := X
  intro H locs ls hP hD hS hl
  exact lv_ineg hx hb hd (k H locs ls hP hD hS hl)
theorem V_addN {F : Fx} {G : Cx} {cc : ByteArray} {own : String} {S : Sx} {pc : Nat} {L : List (Option Value)} {sk : List Value} (X : CX F G cc own) {a b : Nat} (hd : decode cc pc = .ok (.iadd, 1)) (k : V F G S (pc + 1) L (.int (nI (a + b)) :: sk)) : V F G S pc L (.int (nI b) :: .int (nI a) :: sk) := by
  obtain ⟨p, e, R, s, m, args, below, meth, c, nL, kc, ks, Q⟩ := F
  obtain ⟨hx, hb, hml, hown, hts, hK, hN, hlk, hkc, hks⟩ := X
  intro H locs ls hP hD hS hl
  exact lv_iadd hx hb hd (by rw [nI_add]; exact k H locs ls hP hD hS hl)
theorem V_mulN {F : Fx} {G : Cx} {cc : ByteArray} {own : String} {S : Sx} {pc : Nat} {L : List (Option Value)} {sk : List Value} (X : CX F G cc own) {a b : Nat} (hd : decode cc pc = .ok (.imul, 1)) (k : V F G S (pc + 1) L (.int (nI (a * b)) :: sk)) : V F G S pc L (.int (nI b) :: .int (nI a) :: sk) := by
  obtain ⟨p, e, R, s, m, args, below, meth, c, nL, kc, ks, Q⟩ := F
  obtain ⟨hx, hb, hml, hown, hts, hK, hN, hlk, hkc, hks⟩ := X
  intro H locs ls hP hD hS hl
  exact lv_imul hx hb hd (by rw [pk_mul]; exact k H locs ls hP hD hS hl)
theorem V_subN {F : Fx} {G : Cx} {cc : ByteArray} {own : String} {S : Sx} {pc : Nat} {L : List (Option Value)} {sk : List Value} (X : CX F G cc own) {a b : Nat} (hd : decode cc pc = .ok (.isub, 1)) (hab : b ≤ a) (k : V F G S (pc + 1) L (.int (nI (a - b)) :: sk)) : V F G S pc L (.int (nI b) :: .int (nI a) :: sk) := by
  obtain ⟨p, e, R, s, m, args, below, meth, c, nL, kc, ks, Q⟩ := F
  obtain ⟨hx, hb, hml, hown, hts, hK, hN, hlk, hkc, hks⟩ := X
  intro H locs ls hP hD hS hl
  exact lv_isub hx hb hd (by rw [pk_sub hab]; exact k H locs ls hP hD hS hl)
theorem V_dupi {F : Fx} {G : Cx} {cc : ByteArray} {own : String} {S : Sx} {pc : Nat} {L : List (Option Value)} {sk : List Value} (X : CX F G cc own) {x : Int32} (hd : decode cc pc = .ok (.dup, 1)) (k : V F G S (pc + 1) L (.int x :: .int x :: sk)) : V F G S pc L (.int x :: sk) := by
  obtain ⟨p, e, R, s, m, args, below, meth, c, nL, kc, ks, Q⟩ := F
  obtain ⟨hx, hb, hml, hown, hts, hK, hN, hlk, hkc, hks⟩ := X
  intro H locs ls hP hD hS hl
  exact lv_dup hx hb hd rfl (k H locs ls hP hD hS hl)
theorem V_dupr {F : Fx} {G : Cx} {cc : ByteArray} {own : String} {S : Sx} {pc : Nat} {L : List (Option Value)} {sk : List Value} (X : CX F G cc own) {x : Nat} (hd : decode cc pc = .ok (.dup, 1)) (k : V F G S (pc + 1) L (ra G x :: ra G x :: sk)) : V F G S pc L (ra G x :: sk) := by
  obtain ⟨p, e, R, s, m, args, below, meth, c, nL, kc, ks, Q⟩ := F
  obtain ⟨hx, hb, hml, hown, hts, hK, hN, hlk, hkc, hks⟩ := X
  intro H locs ls hP hD hS hl
  exact lv_dup hx hb hd rfl (k H locs ls hP hD hS hl)
theorem V_dup2 {F : Fx} {G : Cx} {cc : ByteArray} {own : String} {S : Sx} {pc : Nat} {L : List (Option Value)} {sk : List Value} (X : CX F G cc own) {i : Int32} {x : Nat} (hd : decode cc pc = .ok (.dup2, 1)) (k : V F G S (pc + 1) L (.int i :: ra G x :: .int i :: ra G x :: sk)) : V F G S pc L (.int i :: ra G x :: sk) := by
  obtain ⟨p, e, R, s, m, args, below, meth, c, nL, kc, ks, Q⟩ := F
  obtain ⟨hx, hb, hml, hown, hts, hK, hN, hlk, hkc, hks⟩ := X
  intro H locs ls hP hD hS hl
  exact lv_dup2_11 hx hb hd rfl rfl (k H locs ls hP hD hS hl)
theorem V_top {F : Fx} {G : Cx} {S : Sx} {pc : Nat} {L : List (Option Value)} {sk : List Value} {x : Int32} (y : Int32) (hy : x = y) (k : V F G S pc L (.int y :: sk)) : V F G S pc L (.int x :: sk) := hy ▸ k
theorem V_sx {F : Fx} {G : Cx} {S : Sx} {pc : Nat} {L : List (Option Value)} {sk : List Value} (S2 : Sx) (hy : S = S2) (k : V F G S2 pc L sk) : V F G S pc L sk := hy ▸ k
theorem V_icmp_eq {F : Fx} {G : Cx} {cc : ByteArray} {own : String} {S : Sx} {pc : Nat} {L : List (Option Value)} {sk : List Value} (X : CX F G cc own) {x y : Int32} {off : Int} (tgt : Nat) (hd : decode cc pc = .ok (.if_icmp .eq off, 3)) (ht : (pc : Int) + off = (tgt : Int)) (kt : x = y → V F G S tgt L sk) (kf : ¬ (x = y) → V F G S (pc + 3) L sk) : V F G S pc L (.int y :: .int x :: sk) := by
  obtain ⟨p, e, R, s, m, args, below, meth, c, nL, kc, ks, Q⟩ := F
  obtain ⟨hx, hb, hml, hown, hts, hK, hN, hlk, hkc, hks⟩ := X
  intro H locs ls hP hD hS hl
  exact lv_icmp_eq hx hb hd ht (fun q => kt (by first | exact q | (simpa using q)) H locs ls hP hD hS hl) (fun q => kf (by first | exact q | (simpa using q)) H locs ls hP hD hS hl)
theorem V_if_eq {F : Fx} {G : Cx} {cc : ByteArray} {own : String} {S : Sx} {pc : Nat} {L : List (Option Value)} {sk : List Value} (X : CX F G cc own) {x : Int32} {off : Int} (tgt : Nat) (hd : decode cc pc = .ok (.ifCond .eq off, 3)) (ht : (pc : Int) + off = (tgt : Int)) (kt : x = 0 → V F G S tgt L sk) (kf : ¬ (x = 0) → V F G S (pc + 3) L sk) : V F G S pc L (.int x :: sk) := by
  obtain ⟨p, e, R, s, m, args, below, meth, c, nL, kc, ks, Q⟩ := F
  obtain ⟨hx, hb, hml, hown, hts, hK, hN, hlk, hkc, hks⟩ := X
  intro H locs ls hP hD hS hl
  exact lv_if_eq hx hb hd ht (fun q => kt (by first | exact q | (simpa using q)) H locs ls hP hD hS hl) (fun q => kf (by first | exact q | (simpa using q)) H locs ls hP hD hS hl)
theorem V_icmp_ne {F : Fx} {G : Cx} {cc : ByteArray} {own : String} {S : Sx} {pc : Nat} {L : List (Option Value)} {sk : List Value} (X : CX F G cc own) {x y : Int32} {off : Int} (tgt : Nat) (hd : decode cc pc = .ok (.if_icmp .ne off, 3)) (ht : (pc : Int) + off = (tgt : Int)) (kt : x ≠ y → V F G S tgt L sk) (kf : ¬ (x ≠ y) → V F G S (pc + 3) L sk) : V F G S pc L (.int y :: .int x :: sk) := by
  obtain ⟨p, e, R, s, m, args, below, meth, c, nL, kc, ks, Q⟩ := F
  obtain ⟨hx, hb, hml, hown, hts, hK, hN, hlk, hkc, hks⟩ := X
  intro H locs ls hP hD hS hl
  exact lv_icmp_ne hx hb hd ht (fun q => kt (by first | exact q | (simpa using q)) H locs ls hP hD hS hl) (fun q => kf (by first | exact q | (simpa using q)) H locs ls hP hD hS hl)
theorem V_if_ne {F : Fx} {G : Cx} {cc : ByteArray} {own : String} {S : Sx} {pc : Nat} {L : List (Option Value)} {sk : List Value} (X : CX F G cc own) {x : Int32} {off : Int} (tgt : Nat) (hd : decode cc pc = .ok (.ifCond .ne off, 3)) (ht : (pc : Int) + off = (tgt : Int)) (kt : x ≠ 0 → V F G S tgt L sk) (kf : ¬ (x ≠ 0) → V F G S (pc + 3) L sk) : V F G S pc L (.int x :: sk) := by
  obtain ⟨p, e, R, s, m, args, below, meth, c, nL, kc, ks, Q⟩ := F
  obtain ⟨hx, hb, hml, hown, hts, hK, hN, hlk, hkc, hks⟩ := X
  intro H locs ls hP hD hS hl
  exact lv_if_ne hx hb hd ht (fun q => kt (by first | exact q | (simpa using q)) H locs ls hP hD hS hl) (fun q => kf (by first | exact q | (simpa using q)) H locs ls hP hD hS hl)
theorem V_icmp_lt {F : Fx} {G : Cx} {cc : ByteArray} {own : String} {S : Sx} {pc : Nat} {L : List (Option Value)} {sk : List Value} (X : CX F G cc own) {x y : Int32} {off : Int} (tgt : Nat) (hd : decode cc pc = .ok (.if_icmp .lt off, 3)) (ht : (pc : Int) + off = (tgt : Int)) (kt : x < y → V F G S tgt L sk) (kf : ¬ (x < y) → V F G S (pc + 3) L sk) : V F G S pc L (.int y :: .int x :: sk) := by
  obtain ⟨p, e, R, s, m, args, below, meth, c, nL, kc, ks, Q⟩ := F
  obtain ⟨hx, hb, hml, hown, hts, hK, hN, hlk, hkc, hks⟩ := X
  intro H locs ls hP hD hS hl
  exact lv_icmp_lt hx hb hd ht (fun q => kt (by first | exact q | (simpa using q)) H locs ls hP hD hS hl) (fun q => kf (by first | exact q | (simpa using q)) H locs ls hP hD hS hl)
theorem V_if_lt {F : Fx} {G : Cx} {cc : ByteArray} {own : String} {S : Sx} {pc : Nat} {L : List (Option Value)} {sk : List Value} (X : CX F G cc own) {x : Int32} {off : Int} (tgt : Nat) (hd : decode cc pc = .ok (.ifCond .lt off, 3)) (ht : (pc : Int) + off = (tgt : Int)) (kt : x < 0 → V F G S tgt L sk) (kf : ¬ (x < 0) → V F G S (pc + 3) L sk) : V F G S pc L (.int x :: sk) := by
  obtain ⟨p, e, R, s, m, args, below, meth, c, nL, kc, ks, Q⟩ := F
  obtain ⟨hx, hb, hml, hown, hts, hK, hN, hlk, hkc, hks⟩ := X
  intro H locs ls hP hD hS hl
  exact lv_if_lt hx hb hd ht (fun q => kt (by first | exact q | (simpa using q)) H locs ls hP hD hS hl) (fun q => kf (by first | exact q | (simpa using q)) H locs ls hP hD hS hl)
theorem V_icmp_ge {F : Fx} {G : Cx} {cc : ByteArray} {own : String} {S : Sx} {pc : Nat} {L : List (Option Value)} {sk : List Value} (X : CX F G cc own) {x y : Int32} {off : Int} (tgt : Nat) (hd : decode cc pc = .ok (.if_icmp .ge off, 3)) (ht : (pc : Int) + off = (tgt : Int)) (kt : y ≤ x → V F G S tgt L sk) (kf : ¬ (y ≤ x) → V F G S (pc + 3) L sk) : V F G S pc L (.int y :: .int x :: sk) := by
  obtain ⟨p, e, R, s, m, args, below, meth, c, nL, kc, ks, Q⟩ := F
  obtain ⟨hx, hb, hml, hown, hts, hK, hN, hlk, hkc, hks⟩ := X
  intro H locs ls hP hD hS hl
  exact lv_icmp_ge hx hb hd ht (fun q => kt (by first | exact q | (simpa using q)) H locs ls hP hD hS hl) (fun q => kf (by first | exact q | (simpa using q)) H locs ls hP hD hS hl)
theorem V_if_ge {F : Fx} {G : Cx} {cc : ByteArray} {own : String} {S : Sx} {pc : Nat} {L : List (Option Value)} {sk : List Value} (X : CX F G cc own) {x : Int32} {off : Int} (tgt : Nat) (hd : decode cc pc = .ok (.ifCond .ge off, 3)) (ht : (pc : Int) + off = (tgt : Int)) (kt : 0 ≤ x → V F G S tgt L sk) (kf : ¬ (0 ≤ x) → V F G S (pc + 3) L sk) : V F G S pc L (.int x :: sk) := by
  obtain ⟨p, e, R, s, m, args, below, meth, c, nL, kc, ks, Q⟩ := F
  obtain ⟨hx, hb, hml, hown, hts, hK, hN, hlk, hkc, hks⟩ := X
  intro H locs ls hP hD hS hl
  exact lv_if_ge hx hb hd ht (fun q => kt (by first | exact q | (simpa using q)) H locs ls hP hD hS hl) (fun q => kf (by first | exact q | (simpa using q)) H locs ls hP hD hS hl)
theorem V_icmp_gt {F : Fx} {G : Cx} {cc : ByteArray} {own : String} {S : Sx} {pc : Nat} {L : List (Option Value)} {sk : List Value} (X : CX F G cc own) {x y : Int32} {off : Int} (tgt : Nat) (hd : decode cc pc = .ok (.if_icmp .gt off, 3)) (ht : (pc : Int) + off = (tgt : Int)) (kt : y < x → V F G S tgt L sk) (kf : ¬ (y < x) → V F G S (pc + 3) L sk) : V F G S pc L (.int y :: .int x :: sk) := by
  obtain ⟨p, e, R, s, m, args, below, meth, c, nL, kc, ks, Q⟩ := F
  obtain ⟨hx, hb, hml, hown, hts, hK, hN, hlk, hkc, hks⟩ := X
  intro H locs ls hP hD hS hl
  exact lv_icmp_gt hx hb hd ht (fun q => kt (by first | exact q | (simpa using q)) H locs ls hP hD hS hl) (fun q => kf (by first | exact q | (simpa using q)) H locs ls hP hD hS hl)
theorem V_if_gt {F : Fx} {G : Cx} {cc : ByteArray} {own : String} {S : Sx} {pc : Nat} {L : List (Option Value)} {sk : List Value} (X : CX F G cc own) {x : Int32} {off : Int} (tgt : Nat) (hd : decode cc pc = .ok (.ifCond .gt off, 3)) (ht : (pc : Int) + off = (tgt : Int)) (kt : 0 < x → V F G S tgt L sk) (kf : ¬ (0 < x) → V F G S (pc + 3) L sk) : V F G S pc L (.int x :: sk) := by
  obtain ⟨p, e, R, s, m, args, below, meth, c, nL, kc, ks, Q⟩ := F
  obtain ⟨hx, hb, hml, hown, hts, hK, hN, hlk, hkc, hks⟩ := X
  intro H locs ls hP hD hS hl
  exact lv_if_gt hx hb hd ht (fun q => kt (by first | exact q | (simpa using q)) H locs ls hP hD hS hl) (fun q => kf (by first | exact q | (simpa using q)) H locs ls hP hD hS hl)
theorem V_icmp_le {F : Fx} {G : Cx} {cc : ByteArray} {own : String} {S : Sx} {pc : Nat} {L : List (Option Value)} {sk : List Value} (X : CX F G cc own) {x y : Int32} {off : Int} (tgt : Nat) (hd : decode cc pc = .ok (.if_icmp .le off, 3)) (ht : (pc : Int) + off = (tgt : Int)) (kt : x ≤ y → V F G S tgt L sk) (kf : ¬ (x ≤ y) → V F G S (pc + 3) L sk) : V F G S pc L (.int y :: .int x :: sk) := by
  obtain ⟨p, e, R, s, m, args, below, meth, c, nL, kc, ks, Q⟩ := F
  obtain ⟨hx, hb, hml, hown, hts, hK, hN, hlk, hkc, hks⟩ := X
  intro H locs ls hP hD hS hl
  exact lv_icmp_le hx hb hd ht (fun q => kt (by first | exact q | (simpa using q)) H locs ls hP hD hS hl) (fun q => kf (by first | exact q | (simpa using q)) H locs ls hP hD hS hl)
theorem V_if_le {F : Fx} {G : Cx} {cc : ByteArray} {own : String} {S : Sx} {pc : Nat} {L : List (Option Value)} {sk : List Value} (X : CX F G cc own) {x : Int32} {off : Int} (tgt : Nat) (hd : decode cc pc = .ok (.ifCond .le off, 3)) (ht : (pc : Int) + off = (tgt : Int)) (kt : x ≤ 0 → V F G S tgt L sk) (kf : ¬ (x ≤ 0) → V F G S (pc + 3) L sk) : V F G S pc L (.int x :: sk) := by
  obtain ⟨p, e, R, s, m, args, below, meth, c, nL, kc, ks, Q⟩ := F
  obtain ⟨hx, hb, hml, hown, hts, hK, hN, hlk, hkc, hks⟩ := X
  intro H locs ls hP hD hS hl
  exact lv_if_le hx hb hd ht (fun q => kt (by first | exact q | (simpa using q)) H locs ls hP hD hS hl) (fun q => kf (by first | exact q | (simpa using q)) H locs ls hP hD hS hl)
theorem V_cN_eq {F : Fx} {G : Cx} {cc : ByteArray} {own : String} {S : Sx} {pc : Nat} {L : List (Option Value)} {sk : List Value} (X : CX F G cc own) {a b : Nat} {off : Int} (tgt : Nat) (ha : a < 2147483648) (hb2 : b < 2147483648) (hd : decode cc pc = .ok (.if_icmp .eq off, 3)) (ht : (pc : Int) + off = (tgt : Int)) (kt : a = b → V F G S tgt L sk) (kf : a ≠ b → V F G S (pc + 3) L sk) : V F G S pc L (.int (nI b) :: .int (nI a) :: sk) := by
  refine V_icmp_eq X tgt hd ht (fun q => kt ?_) (fun q => kf ?_)
  · have e1 := @nI_eq a b ha hb2
    have e2 := @nI_ltI a b ha hb2
    have e3 := @nI_leI a b ha hb2
    have e4 := @nI_ltI b a hb2 ha
    have e5 := @nI_leI b a hb2 ha
    first | exact e1.mp q | exact fun z => q (e1.mpr z) | exact e2.mp q | exact e3.mp q | exact e4.mp q | exact e5.mp q
  · have e1 := @nI_eq a b ha hb2
    have e2 := @nI_ltI a b ha hb2
    have e3 := @nI_leI a b ha hb2
    have e4 := @nI_ltI b a hb2 ha
    have e5 := @nI_leI b a hb2 ha
    first | exact fun z => q (e1.mpr z) | exact Classical.byContradiction (fun z => q (fun y => z (e1.mp y))) | exact Nat.le_of_not_lt (fun z => q (e2.mpr z)) | exact Nat.lt_of_not_le (fun z => q (e3.mpr z)) | exact Nat.le_of_not_lt (fun z => q (e4.mpr z)) | exact Nat.lt_of_not_le (fun z => q (e5.mpr z))
theorem V_cN_ne {F : Fx} {G : Cx} {cc : ByteArray} {own : String} {S : Sx} {pc : Nat} {L : List (Option Value)} {sk : List Value} (X : CX F G cc own) {a b : Nat} {off : Int} (tgt : Nat) (ha : a < 2147483648) (hb2 : b < 2147483648) (hd : decode cc pc = .ok (.if_icmp .ne off, 3)) (ht : (pc : Int) + off = (tgt : Int)) (kt : a ≠ b → V F G S tgt L sk) (kf : a = b → V F G S (pc + 3) L sk) : V F G S pc L (.int (nI b) :: .int (nI a) :: sk) := by
  refine V_icmp_ne X tgt hd ht (fun q => kt ?_) (fun q => kf ?_)
  · have e1 := @nI_eq a b ha hb2
    have e2 := @nI_ltI a b ha hb2
    have e3 := @nI_leI a b ha hb2
    have e4 := @nI_ltI b a hb2 ha
    have e5 := @nI_leI b a hb2 ha
    first | exact e1.mp q | exact fun z => q (e1.mpr z) | exact e2.mp q | exact e3.mp q | exact e4.mp q | exact e5.mp q
  · have e1 := @nI_eq a b ha hb2
    have e2 := @nI_ltI a b ha hb2
    have e3 := @nI_leI a b ha hb2
    have e4 := @nI_ltI b a hb2 ha
    have e5 := @nI_leI b a hb2 ha
    first | exact fun z => q (e1.mpr z) | exact Classical.byContradiction (fun z => q (fun y => z (e1.mp y))) | exact Nat.le_of_not_lt (fun z => q (e2.mpr z)) | exact Nat.lt_of_not_le (fun z => q (e3.mpr z)) | exact Nat.le_of_not_lt (fun z => q (e4.mpr z)) | exact Nat.lt_of_not_le (fun z => q (e5.mpr z))
theorem V_cN_lt {F : Fx} {G : Cx} {cc : ByteArray} {own : String} {S : Sx} {pc : Nat} {L : List (Option Value)} {sk : List Value} (X : CX F G cc own) {a b : Nat} {off : Int} (tgt : Nat) (ha : a < 2147483648) (hb2 : b < 2147483648) (hd : decode cc pc = .ok (.if_icmp .lt off, 3)) (ht : (pc : Int) + off = (tgt : Int)) (kt : a < b → V F G S tgt L sk) (kf : b ≤ a → V F G S (pc + 3) L sk) : V F G S pc L (.int (nI b) :: .int (nI a) :: sk) := by
  refine V_icmp_lt X tgt hd ht (fun q => kt ?_) (fun q => kf ?_)
  · have e1 := @nI_eq a b ha hb2
    have e2 := @nI_ltI a b ha hb2
    have e3 := @nI_leI a b ha hb2
    have e4 := @nI_ltI b a hb2 ha
    have e5 := @nI_leI b a hb2 ha
    first | exact e1.mp q | exact fun z => q (e1.mpr z) | exact e2.mp q | exact e3.mp q | exact e4.mp q | exact e5.mp q
  · have e1 := @nI_eq a b ha hb2
    have e2 := @nI_ltI a b ha hb2
    have e3 := @nI_leI a b ha hb2
    have e4 := @nI_ltI b a hb2 ha
    have e5 := @nI_leI b a hb2 ha
    first | exact fun z => q (e1.mpr z) | exact Classical.byContradiction (fun z => q (fun y => z (e1.mp y))) | exact Nat.le_of_not_lt (fun z => q (e2.mpr z)) | exact Nat.lt_of_not_le (fun z => q (e3.mpr z)) | exact Nat.le_of_not_lt (fun z => q (e4.mpr z)) | exact Nat.lt_of_not_le (fun z => q (e5.mpr z))
theorem V_cN_ge {F : Fx} {G : Cx} {cc : ByteArray} {own : String} {S : Sx} {pc : Nat} {L : List (Option Value)} {sk : List Value} (X : CX F G cc own) {a b : Nat} {off : Int} (tgt : Nat) (ha : a < 2147483648) (hb2 : b < 2147483648) (hd : decode cc pc = .ok (.if_icmp .ge off, 3)) (ht : (pc : Int) + off = (tgt : Int)) (kt : b ≤ a → V F G S tgt L sk) (kf : a < b → V F G S (pc + 3) L sk) : V F G S pc L (.int (nI b) :: .int (nI a) :: sk) := by
  refine V_icmp_ge X tgt hd ht (fun q => kt ?_) (fun q => kf ?_)
  · have e1 := @nI_eq a b ha hb2
    have e2 := @nI_ltI a b ha hb2
    have e3 := @nI_leI a b ha hb2
    have e4 := @nI_ltI b a hb2 ha
    have e5 := @nI_leI b a hb2 ha
    first | exact e1.mp q | exact fun z => q (e1.mpr z) | exact e2.mp q | exact e3.mp q | exact e4.mp q | exact e5.mp q
  · have e1 := @nI_eq a b ha hb2
    have e2 := @nI_ltI a b ha hb2
    have e3 := @nI_leI a b ha hb2
    have e4 := @nI_ltI b a hb2 ha
    have e5 := @nI_leI b a hb2 ha
    first | exact fun z => q (e1.mpr z) | exact Classical.byContradiction (fun z => q (fun y => z (e1.mp y))) | exact Nat.le_of_not_lt (fun z => q (e2.mpr z)) | exact Nat.lt_of_not_le (fun z => q (e3.mpr z)) | exact Nat.le_of_not_lt (fun z => q (e4.mpr z)) | exact Nat.lt_of_not_le (fun z => q (e5.mpr z))
theorem V_cN_gt {F : Fx} {G : Cx} {cc : ByteArray} {own : String} {S : Sx} {pc : Nat} {L : List (Option Value)} {sk : List Value} (X : CX F G cc own) {a b : Nat} {off : Int} (tgt : Nat) (ha : a < 2147483648) (hb2 : b < 2147483648) (hd : decode cc pc = .ok (.if_icmp .gt off, 3)) (ht : (pc : Int) + off = (tgt : Int)) (kt : b < a → V F G S tgt L sk) (kf : a ≤ b → V F G S (pc + 3) L sk) : V F G S pc L (.int (nI b) :: .int (nI a) :: sk) := by
  refine V_icmp_gt X tgt hd ht (fun q => kt ?_) (fun q => kf ?_)
  · have e1 := @nI_eq a b ha hb2
    have e2 := @nI_ltI a b ha hb2
    have e3 := @nI_leI a b ha hb2
    have e4 := @nI_ltI b a hb2 ha
    have e5 := @nI_leI b a hb2 ha
    first | exact e1.mp q | exact fun z => q (e1.mpr z) | exact e2.mp q | exact e3.mp q | exact e4.mp q | exact e5.mp q
  · have e1 := @nI_eq a b ha hb2
    have e2 := @nI_ltI a b ha hb2
    have e3 := @nI_leI a b ha hb2
    have e4 := @nI_ltI b a hb2 ha
    have e5 := @nI_leI b a hb2 ha
    first | exact fun z => q (e1.mpr z) | exact Classical.byContradiction (fun z => q (fun y => z (e1.mp y))) | exact Nat.le_of_not_lt (fun z => q (e2.mpr z)) | exact Nat.lt_of_not_le (fun z => q (e3.mpr z)) | exact Nat.le_of_not_lt (fun z => q (e4.mpr z)) | exact Nat.lt_of_not_le (fun z => q (e5.mpr z))
theorem V_cN_le {F : Fx} {G : Cx} {cc : ByteArray} {own : String} {S : Sx} {pc : Nat} {L : List (Option Value)} {sk : List Value} (X : CX F G cc own) {a b : Nat} {off : Int} (tgt : Nat) (ha : a < 2147483648) (hb2 : b < 2147483648) (hd : decode cc pc = .ok (.if_icmp .le off, 3)) (ht : (pc : Int) + off = (tgt : Int)) (kt : a ≤ b → V F G S tgt L sk) (kf : b < a → V F G S (pc + 3) L sk) : V F G S pc L (.int (nI b) :: .int (nI a) :: sk) := by
  refine V_icmp_le X tgt hd ht (fun q => kt ?_) (fun q => kf ?_)
  · have e1 := @nI_eq a b ha hb2
    have e2 := @nI_ltI a b ha hb2
    have e3 := @nI_leI a b ha hb2
    have e4 := @nI_ltI b a hb2 ha
    have e5 := @nI_leI b a hb2 ha
    first | exact e1.mp q | exact fun z => q (e1.mpr z) | exact e2.mp q | exact e3.mp q | exact e4.mp q | exact e5.mp q
  · have e1 := @nI_eq a b ha hb2
    have e2 := @nI_ltI a b ha hb2
    have e3 := @nI_leI a b ha hb2
    have e4 := @nI_ltI b a hb2 ha
    have e5 := @nI_leI b a hb2 ha
    first | exact fun z => q (e1.mpr z) | exact Classical.byContradiction (fun z => q (fun y => z (e1.mp y))) | exact Nat.le_of_not_lt (fun z => q (e2.mpr z)) | exact Nat.lt_of_not_le (fun z => q (e3.mpr z)) | exact Nat.le_of_not_lt (fun z => q (e4.mpr z)) | exact Nat.lt_of_not_le (fun z => q (e5.mpr z))
theorem V_goto {F : Fx} {G : Cx} {cc : ByteArray} {own : String} {S : Sx} {pc : Nat} {L : List (Option Value)} {sk : List Value} (X : CX F G cc own) {off : Int} (tgt : Nat) (hd : decode cc pc = .ok (.goto off, 3)) (ht : (pc : Int) + off = (tgt : Int)) (k : V F G S tgt L sk) : V F G S pc L sk := by
  obtain ⟨p, e, R, s, m, args, below, meth, c, nL, kc, ks, Q⟩ := F
  obtain ⟨hx, hb, hml, hown, hts, hK, hN, hlk, hkc, hks⟩ := X
  intro H locs ls hP hD hS hl
  exact lv_goto hx hb hd ht (k H locs ls hP hD hS hl)
theorem V_tabOut {F : Fx} {G : Cx} {cc : ByteArray} {own : String} {S : Sx} {pc : Nat} {L : List (Option Value)} {sk : List Value} (X : CX F G cc own) {dflt lo hi : Int} {offs : Array Int} {len : Nat} {x : Int32} (tgt : Nat) (hd : decode cc pc = .ok (.tableswitch dflt lo hi offs, len)) (h : x.toInt < lo ∨ hi < x.toInt) (ht : (pc : Int) + dflt = (tgt : Int)) (k : V F G S tgt L sk) : V F G S pc L (.int x :: sk) := by
  obtain ⟨p, e, R, s, m, args, below, meth, c, nL, kc, ks, Q⟩ := F
  obtain ⟨hx, hb, hml, hown, hts, hK, hN, hlk, hkc, hks⟩ := X
  intro H locs ls hP hD hS hl
  exact lv_tableOut hx hb hd h ht (k H locs ls hP hD hS hl)
theorem V_tabIn {F : Fx} {G : Cx} {cc : ByteArray} {own : String} {S : Sx} {pc : Nat} {L : List (Option Value)} {sk : List Value} (X : CX F G cc own) {dflt lo hi : Int} {offs : Array Int} {len : Nat} {x : Int32} (off : Int) (tgt : Nat) (hd : decode cc pc = .ok (.tableswitch dflt lo hi offs, len)) (h1 : ¬ x.toInt < lo) (h2 : ¬ hi < x.toInt) (ho : offs[(x.toInt - lo).toNat]? = some off) (ht : (pc : Int) + off = (tgt : Int)) (k : V F G S tgt L sk) : V F G S pc L (.int x :: sk) := by
  obtain ⟨p, e, R, s, m, args, below, meth, c, nL, kc, ks, Q⟩ := F
  obtain ⟨hx, hb, hml, hown, hts, hK, hN, hlk, hkc, hks⟩ := X
  intro H locs ls hP hD hS hl
  exact lv_tableIn hx hb hd h1 h2 ho ht (k H locs ls hP hD hS hl)
theorem V_look {F : Fx} {G : Cx} {cc : ByteArray} {own : String} {S : Sx} {pc : Nat} {L : List (Option Value)} {sk : List Value} (X : CX F G cc own) {dflt : Int} {ps : Array (Int × Int)} {len : Nat} {x : Int32} (off : Int) (tgt : Nat) (hd : decode cc pc = .ok (.lookupswitch dflt ps, len)) (hp : (ps.toList.zip (ps.toList.drop 1)).all (fun (a, next) => a.1 < next.1) = true) (ho : Op.lookupswitch.offset ps.toList dflt x.toInt = off) (ht : (pc : Int) + off = (tgt : Int)) (k : V F G S tgt L sk) : V F G S pc L (.int x :: sk) := by
  obtain ⟨p, e, R, s, m, args, below, meth, c, nL, kc, ks, Q⟩ := F
  obtain ⟨hx, hb, hml, hown, hts, hK, hN, hlk, hkc, hks⟩ := X
  intro H locs ls hP hD hS hl
  exact lv_lookup hx hb hd hp ho ht (k H locs ls hP hD hS hl)
theorem V_iald {F : Fx} {G : Cx} {cc : ByteArray} {own : String} {S : Sx} {pc : Nat} {L : List (Option Value)} {sk : List Value} (X : CX F G cc own) {q n : Nat} {i : Int32} (hN9 : q < gN G) (hs : ds q = .inl n) (hi : vp_in i n) (hd : decode cc pc = .ok (.iaload, 1)) (k : V F G S (pc + 1) L (.int (S q i.toNatClampNeg) :: sk)) : V F G S pc L (.int i :: ra G q :: sk) := by
  obtain ⟨p, e, R, s, m, args, below, meth, c, nL, kc, ks, Q⟩ := F
  obtain ⟨hx, hb, hml, hown, hts, hK, hN, hlk, hkc, hks⟩ := X
  intro H locs ls hP hD hS hl
  exact va_iald hx hb hK hP q 0 ((cw_at hN9).trans (by rw [ce_arr hs])) rfl hi hd (k H locs ls hP hD hS hl)
theorem V_ialdN {F : Fx} {G : Cx} {cc : ByteArray} {own : String} {S : Sx} {pc : Nat} {L : List (Option Value)} {sk : List Value} (X : CX F G cc own) {q n j : Nat} (hN : q < gN G) (hs : ds q = .inl n) (hi : j < n) (hn : n < 2147483648) (hd : decode cc pc = .ok (.iaload, 1)) (k : V F G S (pc + 1) L (.int (S q j) :: sk)) : V F G S pc L (.int (nI j) :: ra G q :: sk) := by
  refine V_iald X hN hs (vp_in_nI hi hn) hd ?_
  rw [nI_clamp (Nat.lt_trans hi hn)]
  exact k
theorem V_iast {F : Fx} {G : Cx} {cc : ByteArray} {own : String} {S : Sx} {pc : Nat} {L : List (Option Value)} {sk : List Value} (X : CX F G cc own) {q n : Nat} {i x : Int32} (hN9 : q < gN G) (hs : ds q = .inl n) (hi : vp_in i n) (hd : decode cc pc = .ok (.iastore, 1)) (k : V F G (st S q i.toNatClampNeg x) (pc + 1) L sk) : V F G S pc L (.int x :: .int i :: ra G q :: sk) := by
  obtain ⟨p, e, R, s, m, args, below, meth, c, nL, kc, ks, Q⟩ := F
  obtain ⟨hx, hb, hml, hown, hts, hK, hN, hlk, hkc, hks⟩ := X
  intro H locs ls hP hD hS hl
  refine va_iast hx hb hK hP hD hS q 0 ((cw_at hN9).trans (by rw [ce_arr hs])) rfl hi hd (fun H1 locs1 hP1 hD1 hS1 => ?_)
  rw [cw_st_arr hN9 hs] at hP1 hD1
  exact k H1 locs1 ls hP1 hD1 hS1 hl
theorem V_iastN {F : Fx} {G : Cx} {cc : ByteArray} {own : String} {S : Sx} {pc : Nat} {L : List (Option Value)} {sk : List Value} (X : CX F G cc own) {q n j : Nat} {x : Int32} (hN : q < gN G) (hs : ds q = .inl n) (hi : j < n) (hn : n < 2147483648) (hd : decode cc pc = .ok (.iastore, 1)) (k : V F G (st S q j x) (pc + 1) L sk) : V F G S pc L (.int x :: .int (nI j) :: ra G q :: sk) := by
  refine V_iast X hN hs (vp_in_nI hi hn) hd ?_
  rw [nI_clamp (Nat.lt_trans hi hn)]
  exact k
theorem V_aald {F : Fx} {G : Cx} {cc : ByteArray} {own : String} {S : Sx} {pc : Nat} {L : List (Option Value)} {sk : List Value} (X : CX F G cc own) {q b : Nat} {i : Int32} (hN9 : q < gN G) (hs : ds q = .inr (.inr b)) (hi : vp_in i 15) (hd : decode cc pc = .ok (.aaload, 1)) (k : V F G S (pc + 1) L (ra G (b + i.toNatClampNeg) :: sk)) : V F G S pc L (.int i :: ra G q :: sk) := by
  obtain ⟨p, e, R, s, m, args, below, meth, c, nL, kc, ks, Q⟩ := F
  obtain ⟨hx, hb, hml, hown, hts, hK, hN, hlk, hkc, hks⟩ := X
  intro H locs ls hP hD hS hl
  have hlt : i.toNatClampNeg < 15 := Nat.not_le.mp fun q => hi (Or.inr q)
  have hc : H[gad G q]? = some (vp_cell (gO G) (15, .inr (.inr (.inr (.inr (fun i => some (gad G (b + i)))))))) := hP q (gad G q, .inl (gO G, 15, .inr (.inr (.inr (.inr (fun i => some (gad G (b + i)))))))) ((cw_at hN9).trans (by rw [ce_row hs]))
  exact W.aald (v := .ref (gad G (b + i.toNatClampNeg))) (ty := .array .int) hx hb hc ((hK.2 1 (gO G, .array .int) rfl).1 15 (fun j => va_rf (some (gad G (b + j))))) rfl (fun q => by cases q) (by show ¬ (i < 0 ∨ (arrV _ _ _).slots.size ≤ _); rw [arrV_size]; exact hi) (by show (arrV _ _ _).slots[_]? = _; rw [arrV_read _ _ hlt]; rfl) rfl rfl hd (k H locs ls hP hD hS hl)
theorem V_aaldN {F : Fx} {G : Cx} {cc : ByteArray} {own : String} {S : Sx} {pc : Nat} {L : List (Option Value)} {sk : List Value} (X : CX F G cc own) {q b j : Nat} (hN : q < gN G) (hs : ds q = .inr (.inr b)) (hi : j < 15) (hd : decode cc pc = .ok (.aaload, 1)) (k : V F G S (pc + 1) L (ra G (b + j) :: sk)) : V F G S pc L (.int (nI j) :: ra G q :: sk) := by
  refine V_aald X hN hs (vp_in_nI hi (by decide)) hd ?_
  rw [nI_clamp (Nat.lt_trans hi (by decide))]
  exact k
/-- a link to a field of a class of the world -/
def FL (own : String) (idx ci k : Nat) : Prop := ∃ (C : String) (T : u_T) (N : Nat), vwCl[ci]? = some (C, T, N) ∧ k < N ∧ (∀ w ∈ u_ws C T N, w ∈ gw) ∧ Cond.fieldLink own idx (T k).1 (T k).2.1 (T k).2.2.1 ∈ gw
def FN (own : String) (idx ci k : Nat) : Prop := ∃ (C : String) (T : u_T) (N : Nat) (host : String), vwCl[ci]? = some (C, T, N) ∧ k < N ∧ (∀ w ∈ u_ws C T N, w ∈ gw) ∧ Cond.fieldLinkNest own idx (T k).1 (T k).2.1 (T k).2.2.1 host ∈ nw
def FP (own : String) (idx ci k : Nat) : Prop := ∃ (C : String) (T : u_T) (N : Nat) (ty : Nat → FieldType), vwCl[ci]? = some (C, T, N) ∧ k < N ∧ (∀ w ∈ u_ws C T N, w ∈ gw) ∧ Cond.fieldLink own idx (T k).1 (T k).2.1 (T k).2.2.1 ∈ gw ∧ (∀ k, k < N → parseFieldDescriptor (T k).2.2.1 = some (ty k)) ∧ (∀ a, a < N → ∀ b, b < N → a ≠ b → (T a).2.1 ≠ (T b).2.1) ∧ (T k).2.2.2 = false ∧ parseFieldDescriptor (T k).2.2.1 = some .int

theorem V_geti {F : Fx} {G : Cx} {cc : ByteArray} {own : String} {S : Sx} {pc : Nat} {L : List (Option Value)} {sk : List Value} (X : CX F G cc own) {q ci k idx : Nat} {fl : List (Option Nat)} (hf : FL own idx ci k) (hN9 : q < gN G) (hs : ds q = .inr (.inl (ci, fl))) (hk : fl[k]? = some none) (hd : decode cc pc = .ok (.getfield idx, 3)) (kk : V F G S (pc + 3) L (.int (S q k) :: sk)) : V F G S pc L (ra G q :: sk) := by
  obtain ⟨p, e, R, s, m, args, below, meth, c, nL, kc, ks, Q⟩ := F
  obtain ⟨hx, hb, hml, hown, hts, hK, hN, hlk, hkc, hks⟩ := X
  intro H locs ls hP hD hS hl
  obtain ⟨C, T, N, f1, f2, f3, f4⟩ := hf
  exact va_get (v := .int (S q k)) hx hb hts f3 hown hK hP q ((cw_at hN9).trans (by rw [ce_obj hs])) f1 k f2 (hts _ f4) (fun _ h9 => h9) (by show (List.mapIdx _ _)[k]? = _; rw [List.getElem?_mapIdx, hk]; rfl) hd (kk H locs ls hP hD hS hl)
theorem V_getr {F : Fx} {G : Cx} {cc : ByteArray} {own : String} {S : Sx} {pc : Nat} {L : List (Option Value)} {sk : List Value} (X : CX F G cc own) {q ci k idx : Nat} {fl : List (Option Nat)} (hf : FL own idx ci k) (hN9 : q < gN G) (hs : ds q = .inr (.inl (ci, fl))) {q2 : Nat} (hk : fl[k]? = some (some q2)) (hd : decode cc pc = .ok (.getfield idx, 3)) (kk : V F G S (pc + 3) L (ra G q2 :: sk)) : V F G S pc L (ra G q :: sk) := by
  obtain ⟨p, e, R, s, m, args, below, meth, c, nL, kc, ks, Q⟩ := F
  obtain ⟨hx, hb, hml, hown, hts, hK, hN, hlk, hkc, hks⟩ := X
  intro H locs ls hP hD hS hl
  obtain ⟨C, T, N, f1, f2, f3, f4⟩ := hf
  exact va_get (v := ra G q2) hx hb hts f3 hown hK hP q ((cw_at hN9).trans (by rw [ce_obj hs])) f1 k f2 (hts _ f4) (fun _ h9 => h9) (by show (List.mapIdx _ _)[k]? = _; rw [List.getElem?_mapIdx, hk]; rfl) hd (kk H locs ls hP hD hS hl)
theorem V_getNi {F : Fx} {G : Cx} {cc : ByteArray} {own : String} {S : Sx} {pc : Nat} {L : List (Option Value)} {sk : List Value} (X : CX F G cc own) {q ci k idx : Nat} {fl : List (Option Nat)} (hf : FN own idx ci k) (hN9 : q < gN G) (hs : ds q = .inr (.inl (ci, fl))) (hk : fl[k]? = some none) (hd : decode cc pc = .ok (.getfield idx, 3)) (kk : V F G S (pc + 3) L (.int (S q k) :: sk)) : V F G S pc L (ra G q :: sk) := by
  obtain ⟨p, e, R, s, m, args, below, meth, c, nL, kc, ks, Q⟩ := F
  obtain ⟨hx, hb, hml, hown, hts, hK, hN, hlk, hkc, hks⟩ := X
  intro H locs ls hP hD hS hl
  obtain ⟨C, T, N, host, f1, f2, f3, f4⟩ := hf
  exact va_getN (v := .int (S q k)) hx hb hts f3 hown hK hP q ((cw_at hN9).trans (by rw [ce_obj hs])) f1 k f2 (va_Nw.use rfl (hN _ f4)) (fun _ h9 => h9) (by show (List.mapIdx _ _)[k]? = _; rw [List.getElem?_mapIdx, hk]; rfl) hd (kk H locs ls hP hD hS hl)
theorem V_getNr {F : Fx} {G : Cx} {cc : ByteArray} {own : String} {S : Sx} {pc : Nat} {L : List (Option Value)} {sk : List Value} (X : CX F G cc own) {q ci k idx : Nat} {fl : List (Option Nat)} (hf : FN own idx ci k) (hN9 : q < gN G) (hs : ds q = .inr (.inl (ci, fl))) {q2 : Nat} (hk : fl[k]? = some (some q2)) (hd : decode cc pc = .ok (.getfield idx, 3)) (kk : V F G S (pc + 3) L (ra G q2 :: sk)) : V F G S pc L (ra G q :: sk) := by
  obtain ⟨p, e, R, s, m, args, below, meth, c, nL, kc, ks, Q⟩ := F
  obtain ⟨hx, hb, hml, hown, hts, hK, hN, hlk, hkc, hks⟩ := X
  intro H locs ls hP hD hS hl
  obtain ⟨C, T, N, host, f1, f2, f3, f4⟩ := hf
  exact va_getN (v := ra G q2) hx hb hts f3 hown hK hP q ((cw_at hN9).trans (by rw [ce_obj hs])) f1 k f2 (va_Nw.use rfl (hN _ f4)) (fun _ h9 => h9) (by show (List.mapIdx _ _)[k]? = _; rw [List.getElem?_mapIdx, hk]; rfl) hd (kk H locs ls hP hD hS hl)
theorem V_puti {F : Fx} {G : Cx} {cc : ByteArray} {own : String} {S : Sx} {pc : Nat} {L : List (Option Value)} {sk : List Value} (X : CX F G cc own) {q ci k idx : Nat} {x : Int32} {fl : List (Option Nat)} (hf : FP own idx ci k) (hN9 : q < gN G) (hs : ds q = .inr (.inl (ci, fl))) (hk : fl[k]? = some none) (hd : decode cc pc = .ok (.putfield idx, 3)) (kk : V F G (st S q k x) (pc + 3) L sk) : V F G S pc L (.int x :: ra G q :: sk) := by
  obtain ⟨p, e, R, s, m, args, below, meth, c, nL, kc, ks, Q⟩ := F
  obtain ⟨hx, hb, hml, hown, hts, hK, hN, hlk, hkc, hks⟩ := X
  intro H locs ls hP hD hS hl
  obtain ⟨C, T, N, ty, f1, f2, f3, f4, f5, f6, f7, f8⟩ := hf
  refine va_put hx hb hts f3 ty f5 f6 hown hK hP hD hS q ((cw_at hN9).trans (by rw [ce_obj hs])) f1 k f2 (hts _ f4) (fun _ h9 => h9) f7 f8 rfl rfl (by have := (List.getElem?_eq_some_iff.mp hk).1; simpa using this) hd (fun H1 locs1 hP1 hD1 hS1 => ?_)
  rw [cw_st_fld (o := (ci, fl)) hN9 hs hk] at hP1 hD1
  exact kk H1 locs1 ls hP1 hD1 hS1 hl
/-- the words of a call: virtual, static, of a nest mate -/
def CWv (own : String) (idx : Nat) (y : MethodName) (cc : ByteArray) (nL : Nat) (ret : Option FieldType) (n : Nat) : Prop := Cond.methodLink own idx y ∈ gw ∧ Cond.instanceMethod y ∈ gw ∧ Cond.selects y.cls y y ∈ gw ∧ Cond.initialized y.cls ∈ gw ∧ Cond.code y cc nL ret ∈ gw ∧ (y.cls ≠ "java/lang/invoke/MethodHandle" ∧ y.cls ≠ "java/lang/invoke/VarHandle" ∧ (parseMethodDescriptor y.desc).map (fun d => d.parameters.length) = some n)
def CWs (own : String) (idx : Nat) (y : MethodName) (cc : ByteArray) (nL : Nat) (ret : Option FieldType) (n : Nat) : Prop := Cond.methodLink own idx y ∈ gw ∧ Cond.static y ∈ gw ∧ Cond.initialized y.cls ∈ gw ∧ Cond.code y cc nL ret ∈ gw ∧ (y.cls ≠ "java/lang/invoke/MethodHandle" ∧ y.cls ≠ "java/lang/invoke/VarHandle" ∧ (parseMethodDescriptor y.desc).map (fun d => d.parameters.length) = some n)
def CWt (own : String) (idx : Nat) (y : MethodName) (cc : ByteArray) (nL : Nat) (ret : Option FieldType) (n : Nat) : Prop := (∃ host : String, Cond.methodLinkNest own idx y host ∈ nw) ∧ Cond.static y ∈ gw ∧ Cond.initialized y.cls ∈ gw ∧ Cond.code y cc nL ret ∈ gw ∧ (y.cls ≠ "java/lang/invoke/MethodHandle" ∧ y.cls ≠ "java/lang/invoke/VarHandle" ∧ (parseMethodDescriptor y.desc).map (fun d => d.parameters.length) = some n)
def csum (l : List Value) : Nat := (l.map fun v => v.category).sum
def rmOk (R : Room) (d nL : Nat) : Prop := d + 1 ≤ R.frames ∧ 8 + (nL + 11) + 40 * d ≤ R.locals
theorem Wd_pre {F : Fx} {G : Cx} {S : Sx} {as : List Value} {s : State} {H : Heap} (hP : va_P (gD G) vwCl (cw G S) H) (hD : va_D (gA G) (cw G S)) (hK : va_K (gD G) vwCl (tyz G) s) (hN : ∀ w ∈ nw, va_Nw w s) : ∀ U : State, U.heap = H → s.WarmedH U.vm → va_Pc as (Wd G S) as.toArray U :=
  fun U hU hW => ⟨rfl, by rw [hU]; exact hP, va_K.moved hW.alike hK, hD, nw_warm hW hN⟩

theorem V_cvi {F : Fx} {G : Cx} {cc : ByteArray} {own : String} {S : Sx} {pc : Nat} {L : List (Option Value)} {sk : List Value} (X : CX F G cc own) {d mL idx : Nat} {y : MethodName} {bytes : ByteArray} {ret : Option FieldType} {As rest : List Value} {r : Int32} {S2 : Sx} {b ci : Nat} {fl : List (Option Nat)} {cq : vw_C} (hN9 : b < gN G) (hs : ds b = .inr (.inl (ci, fl))) (hcq : vwCl[ci]? = some cq) (hcn : cq.1 = y.cls) (hc : CT G d y bytes mL ret (ra G b :: As) S r S2) (hw : CWv own idx y bytes mL ret As.length) (hst : sk = As.reverse ++ ra G b :: rest) (hrm : rmOk (fR F) d mL) (hr8 : csum rest ≤ 8) (hd : decode cc pc = .ok (.invokevirtual idx, 3)) (k : V F G S2 (pc + 3) L (.int r :: rest)) : V F G S pc L sk := by
  obtain ⟨p, e, R, s, m, args, below, meth, c, nL, kc, ks, Q⟩ := F
  obtain ⟨hx, hb, hml, hown, hts, hK, hN, hlk, hkc, hks⟩ := X
  intro H locs ls hP hD hS hl
  obtain ⟨w1, w2, w3, w4, w5, w6⟩ := hw
  subst hst
  refine va_calli (va_runV (As := As) (rest := rest) ⟨hx, hb, hml, hown, hts⟩ hc ⟨callB_of As.length hts (mw_good w5) rfl rfl rfl (hts _ w4) (hts _ w1) w6 hrm, hts _ w2, hts _ w3⟩ ⟨Wd_blind, by have := va_recv hK hP hcq ((cw_at hN9).trans (by rw [ce_obj hs])); rw [hcn] at this; exact this, Wd_pre (F := (p, e, R, s, m, args, below, meth, c, nL, kc, ks, Q)) hP hD hK hN⟩ rfl rfl (hl.1) rfl (lv_room hr8) hd ⟨hkc, hks⟩) hS (fun q _ h => h) (fun q h => h) (fun r1 u t H1 locs1 ht hvm hw1 hB hz1 hk1 hS1 => ?_)
  obtain ⟨rfl, rfl⟩ := hw1
  obtain ⟨hP1, -, hD1, -⟩ := hB
  rw [ht] at hP1
  exact k H1 locs1 ls hP1 hD1 hS1 hl
theorem V_cvv {F : Fx} {G : Cx} {cc : ByteArray} {own : String} {S : Sx} {pc : Nat} {L : List (Option Value)} {sk : List Value} (X : CX F G cc own) {d mL idx : Nat} {y : MethodName} {bytes : ByteArray} {As rest : List Value} {S2 : Sx} {b ci : Nat} {fl : List (Option Nat)} {cq : vw_C} (hN9 : b < gN G) (hs : ds b = .inr (.inl (ci, fl))) (hcq : vwCl[ci]? = some cq) (hcn : cq.1 = y.cls) (hc : CV G d y bytes mL (ra G b :: As) S S2) (hw : CWv own idx y bytes mL none As.length) (hst : sk = As.reverse ++ ra G b :: rest) (hrm : rmOk (fR F) d mL) (hr8 : csum rest ≤ 8) (hd : decode cc pc = .ok (.invokevirtual idx, 3)) (k : V F G S2 (pc + 3) L (rest)) : V F G S pc L sk := by
  obtain ⟨p, e, R, s, m, args, below, meth, c, nL, kc, ks, Q⟩ := F
  obtain ⟨hx, hb, hml, hown, hts, hK, hN, hlk, hkc, hks⟩ := X
  intro H locs ls hP hD hS hl
  obtain ⟨w1, w2, w3, w4, w5, w6⟩ := hw
  subst hst
  refine va_callv (va_runV (As := As) (rest := rest) ⟨hx, hb, hml, hown, hts⟩ hc ⟨callB_of As.length hts (mw_good w5) rfl rfl rfl (hts _ w4) (hts _ w1) w6 hrm, hts _ w2, hts _ w3⟩ ⟨Wd_blind, by have := va_recv hK hP hcq ((cw_at hN9).trans (by rw [ce_obj hs])); rw [hcn] at this; exact this, Wd_pre (F := (p, e, R, s, m, args, below, meth, c, nL, kc, ks, Q)) hP hD hK hN⟩ rfl rfl (hl.1) rfl (lv_room hr8) hd ⟨hkc, hks⟩) hS (fun q _ h => h) (fun q h => h) (fun u t H1 locs1 ht hvm hw1 hB hz1 hk1 hS1 => ?_)
  subst hw1
  obtain ⟨hP1, -, hD1, -⟩ := hB
  rw [ht] at hP1
  exact k H1 locs1 ls hP1 hD1 hS1 hl
theorem V_csi {F : Fx} {G : Cx} {cc : ByteArray} {own : String} {S : Sx} {pc : Nat} {L : List (Option Value)} {sk : List Value} (X : CX F G cc own) {d mL idx : Nat} {y : MethodName} {bytes : ByteArray} {ret : Option FieldType} {As rest : List Value} {r : Int32} {S2 : Sx} (hc : CT G d y bytes mL ret (As) S r S2) (hw : CWs own idx y bytes mL ret As.length) (hst : sk = As.reverse ++ rest) (hrm : rmOk (fR F) d mL) (hr8 : csum rest ≤ 8) (hd : decode cc pc = .ok (.invokestatic idx, 3)) (k : V F G S2 (pc + 3) L (.int r :: rest)) : V F G S pc L sk := by
  obtain ⟨p, e, R, s, m, args, below, meth, c, nL, kc, ks, Q⟩ := F
  obtain ⟨hx, hb, hml, hown, hts, hK, hN, hlk, hkc, hks⟩ := X
  intro H locs ls hP hD hS hl
  obtain ⟨w1, w2, w4, w5, w6⟩ := hw
  subst hst
  refine va_calli (va_runS (As := As) (rest := rest) ⟨hx, hb, hml, hown, hts⟩ hc ⟨callB_of As.length hts (mw_good w5) rfl rfl rfl (hts _ w4) (hts _ w1) w6 hrm, hts _ w2⟩ ⟨Wd_blind, Wd_pre (F := (p, e, R, s, m, args, below, meth, c, nL, kc, ks, Q)) hP hD hK hN⟩ rfl rfl (hl.1) rfl (lv_room hr8) hd ⟨hkc, hks⟩) hS (fun q _ h => h) (fun q h => h) (fun r1 u t H1 locs1 ht hvm hw1 hB hz1 hk1 hS1 => ?_)
  obtain ⟨rfl, rfl⟩ := hw1
  obtain ⟨hP1, -, hD1, -⟩ := hB
  rw [ht] at hP1
  exact k H1 locs1 ls hP1 hD1 hS1 hl
theorem V_csv {F : Fx} {G : Cx} {cc : ByteArray} {own : String} {S : Sx} {pc : Nat} {L : List (Option Value)} {sk : List Value} (X : CX F G cc own) {d mL idx : Nat} {y : MethodName} {bytes : ByteArray} {As rest : List Value} {S2 : Sx} (hc : CV G d y bytes mL (As) S S2) (hw : CWs own idx y bytes mL none As.length) (hst : sk = As.reverse ++ rest) (hrm : rmOk (fR F) d mL) (hr8 : csum rest ≤ 8) (hd : decode cc pc = .ok (.invokestatic idx, 3)) (k : V F G S2 (pc + 3) L (rest)) : V F G S pc L sk := by
  obtain ⟨p, e, R, s, m, args, below, meth, c, nL, kc, ks, Q⟩ := F
  obtain ⟨hx, hb, hml, hown, hts, hK, hN, hlk, hkc, hks⟩ := X
  intro H locs ls hP hD hS hl
  obtain ⟨w1, w2, w4, w5, w6⟩ := hw
  subst hst
  refine va_callv (va_runS (As := As) (rest := rest) ⟨hx, hb, hml, hown, hts⟩ hc ⟨callB_of As.length hts (mw_good w5) rfl rfl rfl (hts _ w4) (hts _ w1) w6 hrm, hts _ w2⟩ ⟨Wd_blind, Wd_pre (F := (p, e, R, s, m, args, below, meth, c, nL, kc, ks, Q)) hP hD hK hN⟩ rfl rfl (hl.1) rfl (lv_room hr8) hd ⟨hkc, hks⟩) hS (fun q _ h => h) (fun q h => h) (fun u t H1 locs1 ht hvm hw1 hB hz1 hk1 hS1 => ?_)
  subst hw1
  obtain ⟨hP1, -, hD1, -⟩ := hB
  rw [ht] at hP1
  exact k H1 locs1 ls hP1 hD1 hS1 hl
theorem V_cti {F : Fx} {G : Cx} {cc : ByteArray} {own : String} {S : Sx} {pc : Nat} {L : List (Option Value)} {sk : List Value} (X : CX F G cc own) {d mL idx : Nat} {y : MethodName} {bytes : ByteArray} {ret : Option FieldType} {As rest : List Value} {r : Int32} {S2 : Sx} (hc : CT G d y bytes mL ret (As) S r S2) (hw : CWt own idx y bytes mL ret As.length) (hst : sk = As.reverse ++ rest) (hrm : rmOk (fR F) d mL) (hr8 : csum rest ≤ 8) (hd : decode cc pc = .ok (.invokestatic idx, 3)) (k : V F G S2 (pc + 3) L (.int r :: rest)) : V F G S pc L sk := by
  obtain ⟨p, e, R, s, m, args, below, meth, c, nL, kc, ks, Q⟩ := F
  obtain ⟨hx, hb, hml, hown, hts, hK, hN, hlk, hkc, hks⟩ := X
  intro H locs ls hP hD hS hl
  obtain ⟨⟨host, w1⟩, w2, w4, w5, w6⟩ := hw
  subst hst
  refine va_calli (va_runSN (As := As) (rest := rest) ⟨hx, hb, hml, hown, hts⟩ hc ⟨va_cnB As.length hts (mw_good w5) rfl rfl rfl (hN _ w1) (hts _ w4) w6 hrm, hts _ w2, trivial⟩ ⟨Wd_blind, Wd_pre (F := (p, e, R, s, m, args, below, meth, c, nL, kc, ks, Q)) hP hD hK hN⟩ rfl rfl (hl.1) rfl (lv_room hr8) hd ⟨hkc, hks⟩) hS (fun q _ h => h) (fun q h => h) (fun r1 u t H1 locs1 ht hvm hw1 hB hz1 hk1 hS1 => ?_)
  obtain ⟨rfl, rfl⟩ := hw1
  obtain ⟨hP1, -, hD1, -⟩ := hB
  rw [ht] at hP1
  exact k H1 locs1 ls hP1 hD1 hS1 hl
theorem V_ctv {F : Fx} {G : Cx} {cc : ByteArray} {own : String} {S : Sx} {pc : Nat} {L : List (Option Value)} {sk : List Value} (X : CX F G cc own) {d mL idx : Nat} {y : MethodName} {bytes : ByteArray} {As rest : List Value} {S2 : Sx} (hc : CV G d y bytes mL (As) S S2) (hw : CWt own idx y bytes mL none As.length) (hst : sk = As.reverse ++ rest) (hrm : rmOk (fR F) d mL) (hr8 : csum rest ≤ 8) (hd : decode cc pc = .ok (.invokestatic idx, 3)) (k : V F G S2 (pc + 3) L (rest)) : V F G S pc L sk := by
  obtain ⟨p, e, R, s, m, args, below, meth, c, nL, kc, ks, Q⟩ := F
  obtain ⟨hx, hb, hml, hown, hts, hK, hN, hlk, hkc, hks⟩ := X
  intro H locs ls hP hD hS hl
  obtain ⟨⟨host, w1⟩, w2, w4, w5, w6⟩ := hw
  subst hst
  refine va_callv (va_runSN (As := As) (rest := rest) ⟨hx, hb, hml, hown, hts⟩ hc ⟨va_cnB As.length hts (mw_good w5) rfl rfl rfl (hN _ w1) (hts _ w4) w6 hrm, hts _ w2, trivial⟩ ⟨Wd_blind, Wd_pre (F := (p, e, R, s, m, args, below, meth, c, nL, kc, ks, Q)) hP hD hK hN⟩ rfl rfl (hl.1) rfl (lv_room hr8) hd ⟨hkc, hks⟩) hS (fun q _ h => h) (fun q h => h) (fun u t H1 locs1 ht hvm hw1 hB hz1 hk1 hS1 => ?_)
  subst hw1
  obtain ⟨hP1, -, hD1, -⟩ := hB
  rw [ht] at hP1
  exact k H1 locs1 ls hP1 hD1 hS1 hl
theorem V_iret {F : Fx} {G : Cx} {cc : ByteArray} {own : String} {S S' : Sx} {pc d nL0 : Nat} {L : List (Option Value)} {v r : Int32} (X : CX F G cc own) (E : RI F G d (some .int) nL0 r S') (hd : decode cc pc = .ok (.ireturn, 1)) (hv : v = r) (hS' : S = S') : V F G S pc L [.int v] := by
  obtain ⟨p, e, R, s, m, args, below, meth, c, nL, kc, ks, Q⟩ := F
  obtain ⟨hx, hb, hml, hown, hts, hK, hN, hlk, hkc, hks⟩ := X
  intro H locs ls hP hD hS hl
  obtain ⟨hr, -, -, rfl, rfl, rfl⟩ := E
  exact W.iret (v := v) hx hb hr (fun t ht hW => ⟨⟨v, S, rfl, ⟨hv, hS'⟩, by rw [ht]; exact hP, va_K.moved hW.alike hK, hD, nw_warm hW hN⟩, hS.F ht⟩) hS.2.2 hd
theorem V_zret {F : Fx} {G : Cx} {cc : ByteArray} {own : String} {S S' : Sx} {pc d nL0 : Nat} {L : List (Option Value)} {v r : Int32} (X : CX F G cc own) (E : RI F G d (some .boolean) nL0 r S') (hd : decode cc pc = .ok (.ireturn, 1)) (h01 : v = 0 ∨ v = 1) (hv : v = r) (hS' : S = S') : V F G S pc L [.int v] := by
  obtain ⟨p, e, R, s, m, args, below, meth, c, nL, kc, ks, Q⟩ := F
  obtain ⟨hx, hb, hml, hown, hts, hK, hN, hlk, hkc, hks⟩ := X
  intro H locs ls hP hD hS hl
  obtain ⟨hr, -, -, rfl, rfl, rfl⟩ := E
  exact W.zret (v := v) hx hb hr (by rcases h01 with rfl | rfl <;> decide) (fun t ht hW => ⟨⟨v, S, rfl, ⟨hv, hS'⟩, by rw [ht]; exact hP, va_K.moved hW.alike hK, hD, nw_warm hW hN⟩, hS.F ht⟩) hS.2.2 hd
theorem V_vret {F : Fx} {G : Cx} {cc : ByteArray} {own : String} {S S' : Sx} {pc d nL0 : Nat} {L : List (Option Value)} (X : CX F G cc own) (E : RV F G d nL0 S') (hd : decode cc pc = .ok (.return_, 1)) (hS' : S = S') : V F G S pc L [] := by
  obtain ⟨p, e, R, s, m, args, below, meth, c, nL, kc, ks, Q⟩ := F
  obtain ⟨hx, hb, hml, hown, hts, hK, hN, hlk, hkc, hks⟩ := X
  intro H locs ls hP hD hS hl
  obtain ⟨hr, -, -, rfl, rfl, rfl⟩ := E
  exact W.vret hx hb hr (fun t ht hW => ⟨⟨S, rfl, hS', by rw [ht]; exact hP, va_K.moved hW.alike hK, hD, nw_warm hW hN⟩, hS.F ht⟩) hS.2.2 hd
theorem RI_R {F : Fx} {G : Cx} {d nL : Nat} {ret : Option FieldType} {r : Int32} {S' : Sx} (h : RI F G d ret nL r S') : fR F = rmD d ∧ fnL F = nL := by
  obtain ⟨p, e, R, s, m, args, below, meth, c, nL2, kc, ks, Q⟩ := F
  exact ⟨h.2.1, h.2.2.1⟩
theorem RV_R {F : Fx} {G : Cx} {d nL : Nat} {S' : Sx} (h : RV F G d nL S') : fR F = rmD d ∧ fnL F = nL := by
  obtain ⟨p, e, R, s, m, args, below, meth, c, nL2, kc, ks, Q⟩ := F
  exact ⟨h.2.1, h.2.2.1⟩
theorem rm_ok {F : Fx} {d d' nL mL : Nat} (h : fR F = rmD d ∧ fnL F = nL) (h1 : d' < d) (h2 : mL ≤ 21) : rmOk (fR F) d' mL := by
  rw [h.1]; exact ⟨h1, by show _ ≤ 40 * d; omega⟩
theorem V_imax {F : Fx} {G : Cx} {cc : ByteArray} {own : String} {S : Sx} {pc d nL0 : Nat} {L : List (Option Value)} {rest : List Value} {x y : Int32} {index : Nat} (X : CX F G cc own) (hRd : fR F = rmD d ∧ fnL F = nL0) (hd1 : 1 ≤ d) (hr8 : csum rest ≤ 8) (hw : Cond.methodLink own index Lib.Math.max.name ∈ gw ∧ Cond.static Lib.Math.max.name ∈ gw ∧ Cond.initialized "java/lang/Math" ∈ gw ∧ Cond.code Lib.Math.max.name Lib.Math.max.code 2 (some .int) ∈ gw) (hd : decode cc pc = .ok (.invokestatic index, 3)) (k : V F G S (pc + 3) L (.int (if x < y then y else x) :: rest)) : V F G S pc L (.int y :: .int x :: rest) := by
  obtain ⟨p, e, R, s, m, args, below, meth, c, nL, kc, ks, Q⟩ := F
  obtain ⟨hx, hb, hml, hown, hts, hK, hN, hlk, hkc, hks⟩ := X
  intro H locs ls hP hD hS hl
  obtain ⟨hR, hn⟩ := hRd
  have hR : R = rmD d := hR
  exact va_mmax hx hb (by rw [hml, hl.1]) hown (hts _ hw.1) (hts _ hw.2.1) (hts _ hw.2.2.1) (hts _ hw.2.2.2) (by rw [hR]; exact hd1) (by rw [hR]; have : (rest.map fun v => v.category).sum ≤ 8 := hr8; show _ ≤ 40 * d; omega) hkc hks hd (k H locs ls hP hD hS hl)

theorem V_ldcw {F : Fx} {G : Cx} {cc : ByteArray} {own : String} {S : Sx} {pc : Nat} {L : List (Option Value)} {sk : List Value} (X : CX F G cc own) {idx : Nat} {v : Int32} (hw : Cond.constant own idx v ∈ gw) (hd : decode cc pc = .ok (.ldc_w idx, 3)) (k : V F G S (pc + 3) L (.int v :: sk)) : V F G S pc L sk := by
  obtain ⟨p, e, R, s, m, args, below, meth, c, nL, kc, ks, Q⟩ := F
  obtain ⟨hx, hb, hml, hown, hts, hK, hN, hlk, hkc, hks⟩ := X
  intro H locs ls hP hD hS hl
  exact lv_ldcw hx hb hown (hts _ hw) hd (k H locs ls hP hD hS hl)
end
section
theorem uX0 : ∀ w ∈ u_ws RX0 TX0 3, w ∈ gw := fun w h => gw_mem (by revert w h; decide +kernel) (by revert w h; decide +kernel)
theorem uX1 : ∀ w ∈ u_ws RX1 TX1 3, w ∈ gw := fun w h => gw_mem (by revert w h; decide +kernel) (by revert w h; decide +kernel)
theorem uX2 : ∀ w ∈ u_ws RX2 TX2 4, w ∈ gw := fun w h => gw_mem (by revert w h; decide +kernel) (by revert w h; decide +kernel)
theorem uX3 : ∀ w ∈ u_ws RX3 TX3 2, w ∈ gw := fun w h => gw_mem (by revert w h; decide +kernel) (by revert w h; decide +kernel)
theorem uX4 : ∀ w ∈ u_ws RX4 TX4 6, w ∈ gw := fun w h => gw_mem (by revert w h; decide +kernel) (by revert w h; decide +kernel)
theorem uX5 : ∀ w ∈ u_ws RX5 TX5 5, w ∈ gw := fun w h => gw_mem (by revert w h; decide +kernel) (by revert w h; decide +kernel)
theorem uX6 : ∀ w ∈ u_ws RX6 TX6 9, w ∈ gw := fun w h => gw_mem (by revert w h; decide +kernel) (by revert w h; decide +kernel)
theorem flX2_9 : FL RX2 9 2 0 := ⟨RX2, TX2, 4, rfl, by decide, uX2, gw_mem (by decide +kernel) rfl⟩
theorem flX2_15 : FL RX2 15 2 1 := ⟨RX2, TX2, 4, rfl, by decide, uX2, gw_mem (by decide +kernel) rfl⟩
theorem flX2_18 : FL RX2 18 2 2 := ⟨RX2, TX2, 4, rfl, by decide, uX2, gw_mem (by decide +kernel) rfl⟩
theorem fpX2_18 : FP RX2 18 2 2 := ⟨RX2, TX2, 4, tyX2, rfl, by decide, uX2, gw_mem (by decide +kernel) rfl, tyX2_ok, nmX2, rfl, by decide +kernel⟩
theorem flX2_22 : FL RX2 22 2 3 := ⟨RX2, TX2, 4, rfl, by decide, uX2, gw_mem (by decide +kernel) rfl⟩
theorem fpX2_22 : FP RX2 22 2 3 := ⟨RX2, TX2, 4, tyX2, rfl, by decide, uX2, gw_mem (by decide +kernel) rfl, tyX2_ok, nmX2, rfl, by decide +kernel⟩
theorem flX3_11 : FL RX3 11 3 0 := ⟨RX3, TX3, 2, rfl, by decide, uX3, gw_mem (by decide +kernel) rfl⟩
theorem flX3_16 : FL RX3 16 3 1 := ⟨RX3, TX3, 2, rfl, by decide, uX3, gw_mem (by decide +kernel) rfl⟩
theorem flX4_9 : FL RX4 9 4 0 := ⟨RX4, TX4, 6, rfl, by decide, uX4, gw_mem (by decide +kernel) rfl⟩
theorem flX4_15 : FL RX4 15 4 1 := ⟨RX4, TX4, 6, rfl, by decide, uX4, gw_mem (by decide +kernel) rfl⟩
theorem flX4_18 : FL RX4 18 4 2 := ⟨RX4, TX4, 6, rfl, by decide, uX4, gw_mem (by decide +kernel) rfl⟩
theorem flX4_21 : FL RX4 21 4 3 := ⟨RX4, TX4, 6, rfl, by decide, uX4, gw_mem (by decide +kernel) rfl⟩
theorem flX4_24 : FL RX4 24 4 4 := ⟨RX4, TX4, 6, rfl, by decide, uX4, gw_mem (by decide +kernel) rfl⟩
theorem flX4_27 : FL RX4 27 4 5 := ⟨RX4, TX4, 6, rfl, by decide, uX4, gw_mem (by decide +kernel) rfl⟩
theorem flX1_11 : FL RX1 11 1 0 := ⟨RX1, TX1, 3, rfl, by decide, uX1, gw_mem (by decide +kernel) rfl⟩
theorem flX1_16 : FL RX1 16 1 1 := ⟨RX1, TX1, 3, rfl, by decide, uX1, gw_mem (by decide +kernel) rfl⟩
theorem flX1_19 : FL RX1 19 1 2 := ⟨RX1, TX1, 3, rfl, by decide, uX1, gw_mem (by decide +kernel) rfl⟩
theorem flX0_9 : FL RX0 9 0 0 := ⟨RX0, TX0, 3, rfl, by decide, uX0, gw_mem (by decide +kernel) rfl⟩
theorem flX0_15 : FL RX0 15 0 1 := ⟨RX0, TX0, 3, rfl, by decide, uX0, gw_mem (by decide +kernel) rfl⟩
theorem fpX0_15 : FP RX0 15 0 1 := ⟨RX0, TX0, 3, tyX0, rfl, by decide, uX0, gw_mem (by decide +kernel) rfl, tyX0_ok, nmX0, rfl, by decide +kernel⟩
theorem flX0_19 : FL RX0 19 0 2 := ⟨RX0, TX0, 3, rfl, by decide, uX0, gw_mem (by decide +kernel) rfl⟩
theorem fpX0_19 : FP RX0 19 0 2 := ⟨RX0, TX0, 3, tyX0, rfl, by decide, uX0, gw_mem (by decide +kernel) rfl, tyX0_ok, nmX0, rfl, by decide +kernel⟩
theorem flX5_12 : FL RX5 12 5 0 := ⟨RX5, TX5, 5, rfl, by decide, uX5, gw_mem (by decide +kernel) rfl⟩
theorem flX5_19 : FL RX5 19 5 1 := ⟨RX5, TX5, 5, rfl, by decide, uX5, gw_mem (by decide +kernel) rfl⟩
theorem flX5_26 : FL RX5 26 5 2 := ⟨RX5, TX5, 5, rfl, by decide, uX5, gw_mem (by decide +kernel) rfl⟩
theorem flX5_33 : FL RX5 33 5 3 := ⟨RX5, TX5, 5, rfl, by decide, uX5, gw_mem (by decide +kernel) rfl⟩
theorem flX5_40 : FL RX5 40 5 4 := ⟨RX5, TX5, 5, rfl, by decide, uX5, gw_mem (by decide +kernel) rfl⟩
theorem flX6_35 : FL RX6 35 6 0 := ⟨RX6, TX6, 9, rfl, by decide, uX6, gw_mem (by decide +kernel) rfl⟩
theorem fpX6_35 : FP RX6 35 6 0 := ⟨RX6, TX6, 9, tyX6, rfl, by decide, uX6, gw_mem (by decide +kernel) rfl, tyX6_ok, nmX6, rfl, by decide +kernel⟩
theorem flX6_9 : FL RX6 9 6 1 := ⟨RX6, TX6, 9, rfl, by decide, uX6, gw_mem (by decide +kernel) rfl⟩
theorem flX6_13 : FL RX6 13 6 2 := ⟨RX6, TX6, 9, rfl, by decide, uX6, gw_mem (by decide +kernel) rfl⟩
theorem flX6_16 : FL RX6 16 6 3 := ⟨RX6, TX6, 9, rfl, by decide, uX6, gw_mem (by decide +kernel) rfl⟩
theorem flX6_19 : FL RX6 19 6 4 := ⟨RX6, TX6, 9, rfl, by decide, uX6, gw_mem (by decide +kernel) rfl⟩
theorem flX6_54 : FL RX6 54 6 5 := ⟨RX6, TX6, 9, rfl, by decide, uX6, gw_mem (by decide +kernel) rfl⟩
theorem fpX6_54 : FP RX6 54 6 5 := ⟨RX6, TX6, 9, tyX6, rfl, by decide, uX6, gw_mem (by decide +kernel) rfl, tyX6_ok, nmX6, rfl, by decide +kernel⟩
theorem flX6_22 : FL RX6 22 6 6 := ⟨RX6, TX6, 9, rfl, by decide, uX6, gw_mem (by decide +kernel) rfl⟩
theorem flX6_25 : FL RX6 25 6 7 := ⟨RX6, TX6, 9, rfl, by decide, uX6, gw_mem (by decide +kernel) rfl⟩
theorem flX6_28 : FL RX6 28 6 8 := ⟨RX6, TX6, 9, rfl, by decide, uX6, gw_mem (by decide +kernel) rfl⟩
theorem fnX5_73 : FN RX5 73 2 2 := ⟨RX2, TX2, 4, "TextAsker", rfl, by decide, uX2, nw_mem (by decide +kernel) rfl⟩
theorem fnX5_137 : FN RX5 137 2 3 := ⟨RX2, TX2, 4, "TextAsker", rfl, by decide, uX2, nw_mem (by decide +kernel) rfl⟩
theorem fnX5_90 : FN RX5 90 1 0 := ⟨RX1, TX1, 3, "TextAsker", rfl, by decide, uX1, nw_mem (by decide +kernel) rfl⟩
theorem fnX5_94 : FN RX5 94 1 1 := ⟨RX1, TX1, 3, "TextAsker", rfl, by decide, uX1, nw_mem (by decide +kernel) rfl⟩
theorem fnX5_114 : FN RX5 114 1 2 := ⟨RX1, TX1, 3, "TextAsker", rfl, by decide, uX1, nw_mem (by decide +kernel) rfl⟩
theorem cwX5_44 : CWv RX5 44 yX5_findAnswers cX5_findAnswers 3 none 1 := ⟨gw_mem (by decide +kernel) rfl, gw_mem (by decide +kernel) rfl, gw_mem (by decide +kernel) rfl, gw_mem (by decide +kernel) rfl, gw_mem (by decide +kernel) rfl, ⟨by decide, by decide, by decide +kernel⟩⟩
theorem cwX5_69 : CWv RX5 69 yX3_size cX3_size 2 (some .int) 1 := ⟨gw_mem (by decide +kernel) rfl, gw_mem (by decide +kernel) rfl, gw_mem (by decide +kernel) rfl, gw_mem (by decide +kernel) rfl, gw_mem (by decide +kernel) rfl, ⟨by decide, by decide, by decide +kernel⟩⟩
theorem cwX5_80 : CWv RX5 80 yX3_choices cX3_choices 3 (some .int) 2 := ⟨gw_mem (by decide +kernel) rfl, gw_mem (by decide +kernel) rfl, gw_mem (by decide +kernel) rfl, gw_mem (by decide +kernel) rfl, gw_mem (by decide +kernel) rfl, ⟨by decide, by decide, by decide +kernel⟩⟩
theorem cwX5_97 : CWv RX5 97 yX4_goThrough cX4_goThrough 5 none 3 := ⟨gw_mem (by decide +kernel) rfl, gw_mem (by decide +kernel) rfl, gw_mem (by decide +kernel) rfl, gw_mem (by decide +kernel) rfl, gw_mem (by decide +kernel) rfl, ⟨by decide, by decide, by decide +kernel⟩⟩
theorem cwX4_30 : CWv RX4 30 yX4_forgetAll cX4_forgetAll 2 none 0 := ⟨gw_mem (by decide +kernel) rfl, gw_mem (by decide +kernel) rfl, gw_mem (by decide +kernel) rfl, gw_mem (by decide +kernel) rfl, gw_mem (by decide +kernel) rfl, ⟨by decide, by decide, by decide +kernel⟩⟩
theorem cwX4_33 : CWv RX4 33 yX4_tell cX4_tell 7 none 3 := ⟨gw_mem (by decide +kernel) rfl, gw_mem (by decide +kernel) rfl, gw_mem (by decide +kernel) rfl, gw_mem (by decide +kernel) rfl, gw_mem (by decide +kernel) rfl, ⟨by decide, by decide, by decide +kernel⟩⟩
theorem cwX4_37 : CWv RX4 37 yX2_person cX2_person 5 (some .int) 3 := ⟨gw_mem (by decide +kernel) rfl, gw_mem (by decide +kernel) rfl, gw_mem (by decide +kernel) rfl, gw_mem (by decide +kernel) rfl, gw_mem (by decide +kernel) rfl, ⟨by decide, by decide, by decide +kernel⟩⟩
theorem cwX2_57 : CWv RX2 57 yX2_mayMean cX2_mayMean 3 (some .int) 2 := ⟨gw_mem (by decide +kernel) rfl, gw_mem (by decide +kernel) rfl, gw_mem (by decide +kernel) rfl, gw_mem (by decide +kernel) rfl, gw_mem (by decide +kernel) rfl, ⟨by decide, by decide, by decide +kernel⟩⟩
theorem cwX2_61 : CWs RX2 61 yJ6_bitCount_0f7a4 cJ6_bitCount_0f7a4 1 (some .int) 1 := ⟨gw_mem (by decide +kernel) rfl, gw_mem (by decide +kernel) rfl, gw_mem (by decide +kernel) rfl, gw_mem (by decide +kernel) rfl, ⟨by decide, by decide, by decide +kernel⟩⟩
theorem cwX4_43 : CWv RX4 43 yX2_object cX2_object 2 (some .int) 1 := ⟨gw_mem (by decide +kernel) rfl, gw_mem (by decide +kernel) rfl, gw_mem (by decide +kernel) rfl, gw_mem (by decide +kernel) rfl, gw_mem (by decide +kernel) rfl, ⟨by decide, by decide, by decide +kernel⟩⟩
theorem cwX4_47 : CWv RX4 47 yX2_verb cX2_verb 2 (some .int) 1 := ⟨gw_mem (by decide +kernel) rfl, gw_mem (by decide +kernel) rfl, gw_mem (by decide +kernel) rfl, gw_mem (by decide +kernel) rfl, gw_mem (by decide +kernel) rfl, ⟨by decide, by decide, by decide +kernel⟩⟩
theorem cwX4_64 : CWv RX4 64 yX4_tellTaking cX4_tellTaking 4 none 3 := ⟨gw_mem (by decide +kernel) rfl, gw_mem (by decide +kernel) rfl, gw_mem (by decide +kernel) rfl, gw_mem (by decide +kernel) rfl, gw_mem (by decide +kernel) rfl, ⟨by decide, by decide, by decide +kernel⟩⟩
theorem cwX4_75 : CWv RX4 75 yX4_inferPlace cX4_inferPlace 4 none 3 := ⟨gw_mem (by decide +kernel) rfl, gw_mem (by decide +kernel) rfl, gw_mem (by decide +kernel) rfl, gw_mem (by decide +kernel) rfl, gw_mem (by decide +kernel) rfl, ⟨by decide, by decide, by decide +kernel⟩⟩
theorem cwX4_78 : CWv RX4 78 yX4_handTo cX4_handTo 4 none 3 := ⟨gw_mem (by decide +kernel) rfl, gw_mem (by decide +kernel) rfl, gw_mem (by decide +kernel) rfl, gw_mem (by decide +kernel) rfl, gw_mem (by decide +kernel) rfl, ⟨by decide, by decide, by decide +kernel⟩⟩
theorem cwX4_68 : CWv RX4 68 yX4_tellDropping cX4_tellDropping 4 none 3 := ⟨gw_mem (by decide +kernel) rfl, gw_mem (by decide +kernel) rfl, gw_mem (by decide +kernel) rfl, gw_mem (by decide +kernel) rfl, gw_mem (by decide +kernel) rfl, ⟨by decide, by decide, by decide +kernel⟩⟩
theorem cwX4_71 : CWv RX4 71 yX4_tellGiving cX4_tellGiving 5 none 4 := ⟨gw_mem (by decide +kernel) rfl, gw_mem (by decide +kernel) rfl, gw_mem (by decide +kernel) rfl, gw_mem (by decide +kernel) rfl, gw_mem (by decide +kernel) rfl, ⟨by decide, by decide, by decide +kernel⟩⟩
theorem cwX5_183 : CWv RX5 183 yX1_hear cX1_hear 7 none 3 := ⟨gw_mem (by decide +kernel) rfl, gw_mem (by decide +kernel) rfl, gw_mem (by decide +kernel) rfl, gw_mem (by decide +kernel) rfl, gw_mem (by decide +kernel) rfl, ⟨by decide, by decide, by decide +kernel⟩⟩
theorem cwX5_190 : CWs RX5 190 yX5_aboutCount cX5_aboutCount 1 (some .int) 1 := ⟨gw_mem (by decide +kernel) rfl, gw_mem (by decide +kernel) rfl, gw_mem (by decide +kernel) rfl, gw_mem (by decide +kernel) rfl, ⟨by decide, by decide, by decide +kernel⟩⟩
theorem cwX1_30 : CWv RX1 30 yX4_value cX4_value 3 (some .int) 2 := ⟨gw_mem (by decide +kernel) rfl, gw_mem (by decide +kernel) rfl, gw_mem (by decide +kernel) rfl, gw_mem (by decide +kernel) rfl, gw_mem (by decide +kernel) rfl, ⟨by decide, by decide, by decide +kernel⟩⟩
theorem cwX4_81 : CWv RX4 81 yX4_thingPlace cX4_thingPlace 3 (some .int) 1 := ⟨gw_mem (by decide +kernel) rfl, gw_mem (by decide +kernel) rfl, gw_mem (by decide +kernel) rfl, gw_mem (by decide +kernel) rfl, gw_mem (by decide +kernel) rfl, ⟨by decide, by decide, by decide +kernel⟩⟩
theorem cwX4_84 : CWv RX4 84 yX4_hadThings cX4_hadThings 4 (some .int) 1 := ⟨gw_mem (by decide +kernel) rfl, gw_mem (by decide +kernel) rfl, gw_mem (by decide +kernel) rfl, gw_mem (by decide +kernel) rfl, gw_mem (by decide +kernel) rfl, ⟨by decide, by decide, by decide +kernel⟩⟩
theorem cwX1_35 : CWv RX1 35 yX4_basis cX4_basis 3 (some .int) 2 := ⟨gw_mem (by decide +kernel) rfl, gw_mem (by decide +kernel) rfl, gw_mem (by decide +kernel) rfl, gw_mem (by decide +kernel) rfl, gw_mem (by decide +kernel) rfl, ⟨by decide, by decide, by decide +kernel⟩⟩
theorem cwX4_91 : CWv RX4 91 yX4_thingPlaceBasis cX4_thingPlaceBasis 3 (some .int) 1 := ⟨gw_mem (by decide +kernel) rfl, gw_mem (by decide +kernel) rfl, gw_mem (by decide +kernel) rfl, gw_mem (by decide +kernel) rfl, gw_mem (by decide +kernel) rfl, ⟨by decide, by decide, by decide +kernel⟩⟩
theorem cwX4_94 : CWv RX4 94 yX4_hadThingsBasis cX4_hadThingsBasis 4 (some .int) 1 := ⟨gw_mem (by decide +kernel) rfl, gw_mem (by decide +kernel) rfl, gw_mem (by decide +kernel) rfl, gw_mem (by decide +kernel) rfl, gw_mem (by decide +kernel) rfl, ⟨by decide, by decide, by decide +kernel⟩⟩
theorem cwX1_38 : CWv RX1 38 yX1_begin cX1_begin 5 none 4 := ⟨gw_mem (by decide +kernel) rfl, gw_mem (by decide +kernel) rfl, gw_mem (by decide +kernel) rfl, gw_mem (by decide +kernel) rfl, gw_mem (by decide +kernel) rfl, ⟨by decide, by decide, by decide +kernel⟩⟩
theorem cwX1_45 : CWs RX1 45 yJ6_bitCount_0f7a4 cJ6_bitCount_0f7a4 1 (some .int) 1 := ⟨gw_mem (by decide +kernel) rfl, gw_mem (by decide +kernel) rfl, gw_mem (by decide +kernel) rfl, gw_mem (by decide +kernel) rfl, ⟨by decide, by decide, by decide +kernel⟩⟩
theorem cwX1_42 : CWv RX1 42 yX1_join cX1_join 5 none 4 := ⟨gw_mem (by decide +kernel) rfl, gw_mem (by decide +kernel) rfl, gw_mem (by decide +kernel) rfl, gw_mem (by decide +kernel) rfl, gw_mem (by decide +kernel) rfl, ⟨by decide, by decide, by decide +kernel⟩⟩
theorem cwX1_50 : Cond.methodLink RX1 50 Lib.Math.max.name ∈ gw ∧ Cond.static Lib.Math.max.name ∈ gw ∧ Cond.initialized "java/lang/Math" ∈ gw ∧ Cond.code Lib.Math.max.name Lib.Math.max.code 2 (some .int) ∈ gw := ⟨gw_mem (by decide +kernel) rfl, gw_mem (by decide +kernel) rfl, gw_mem (by decide +kernel) rfl, gw_mem (by decide +kernel) rfl⟩
theorem cwX5_187 : CWv RX5 187 yX1_close cX1_close 3 none 1 := ⟨gw_mem (by decide +kernel) rfl, gw_mem (by decide +kernel) rfl, gw_mem (by decide +kernel) rfl, gw_mem (by decide +kernel) rfl, gw_mem (by decide +kernel) rfl, ⟨by decide, by decide, by decide +kernel⟩⟩
theorem cwL_13 : CWv RL 13 yX5_sign cX5_sign 2 (some .boolean) 1 := ⟨gw_mem (by decide +kernel) rfl, gw_mem (by decide +kernel) rfl, gw_mem (by decide +kernel) rfl, gw_mem (by decide +kernel) rfl, gw_mem (by decide +kernel) rfl, ⟨by decide, by decide, by decide +kernel⟩⟩
theorem cwX5_48 : CWv RX5 48 yX2_fits cX2_fits 2 (some .boolean) 1 := ⟨gw_mem (by decide +kernel) rfl, gw_mem (by decide +kernel) rfl, gw_mem (by decide +kernel) rfl, gw_mem (by decide +kernel) rfl, gw_mem (by decide +kernel) rfl, ⟨by decide, by decide, by decide +kernel⟩⟩
theorem cwX5_193 : CWs RX5 193 yX5_isPerson cX5_isPerson 1 (some .boolean) 1 := ⟨gw_mem (by decide +kernel) rfl, gw_mem (by decide +kernel) rfl, gw_mem (by decide +kernel) rfl, gw_mem (by decide +kernel) rfl, ⟨by decide, by decide, by decide +kernel⟩⟩
theorem cwX2_29 : CWv RX2 29 yX2_verb cX2_verb 2 (some .int) 1 := ⟨gw_mem (by decide +kernel) rfl, gw_mem (by decide +kernel) rfl, gw_mem (by decide +kernel) rfl, gw_mem (by decide +kernel) rfl, gw_mem (by decide +kernel) rfl, ⟨by decide, by decide, by decide +kernel⟩⟩
theorem cwX5_52 : CWv RX5 52 yX2_add cX2_add 2 none 1 := ⟨gw_mem (by decide +kernel) rfl, gw_mem (by decide +kernel) rfl, gw_mem (by decide +kernel) rfl, gw_mem (by decide +kernel) rfl, gw_mem (by decide +kernel) rfl, ⟨by decide, by decide, by decide +kernel⟩⟩
theorem cwX5_55 : CWv RX5 55 yX5_finishSentence cX5_finishSentence 1 (some .boolean) 0 := ⟨gw_mem (by decide +kernel) rfl, gw_mem (by decide +kernel) rfl, gw_mem (by decide +kernel) rfl, gw_mem (by decide +kernel) rfl, gw_mem (by decide +kernel) rfl, ⟨by decide, by decide, by decide +kernel⟩⟩
theorem cwX5_146 : CWv RX5 146 yX2_cast cX2_cast 3 none 0 := ⟨gw_mem (by decide +kernel) rfl, gw_mem (by decide +kernel) rfl, gw_mem (by decide +kernel) rfl, gw_mem (by decide +kernel) rfl, gw_mem (by decide +kernel) rfl, ⟨by decide, by decide, by decide +kernel⟩⟩
theorem cwX2_42 : CWv RX2 42 yX2_candidates cX2_candidates 4 (some .int) 1 := ⟨gw_mem (by decide +kernel) rfl, gw_mem (by decide +kernel) rfl, gw_mem (by decide +kernel) rfl, gw_mem (by decide +kernel) rfl, gw_mem (by decide +kernel) rfl, ⟨by decide, by decide, by decide +kernel⟩⟩
theorem cwX2_48 : CWv RX2 48 yX2_named cX2_named 4 (some .int) 1 := ⟨gw_mem (by decide +kernel) rfl, gw_mem (by decide +kernel) rfl, gw_mem (by decide +kernel) rfl, gw_mem (by decide +kernel) rfl, gw_mem (by decide +kernel) rfl, ⟨by decide, by decide, by decide +kernel⟩⟩
theorem cwX2_51 : CWs RX2 51 yX2_personBit cX2_personBit 1 (some .int) 1 := ⟨gw_mem (by decide +kernel) rfl, gw_mem (by decide +kernel) rfl, gw_mem (by decide +kernel) rfl, gw_mem (by decide +kernel) rfl, ⟨by decide, by decide, by decide +kernel⟩⟩
theorem cwX5_149 : CWv RX5 149 yX5_extendWays cX5_extendWays 4 (some .boolean) 1 := ⟨gw_mem (by decide +kernel) rfl, gw_mem (by decide +kernel) rfl, gw_mem (by decide +kernel) rfl, gw_mem (by decide +kernel) rfl, gw_mem (by decide +kernel) rfl, ⟨by decide, by decide, by decide +kernel⟩⟩
theorem cwX5_158 : CWv RX5 158 yX3_clear cX3_clear 2 none 1 := ⟨gw_mem (by decide +kernel) rfl, gw_mem (by decide +kernel) rfl, gw_mem (by decide +kernel) rfl, gw_mem (by decide +kernel) rfl, gw_mem (by decide +kernel) rfl, ⟨by decide, by decide, by decide +kernel⟩⟩
theorem cwX5_160 : CWv RX5 160 yX5_extendWay cX5_extendWay 8 (some .boolean) 2 := ⟨gw_mem (by decide +kernel) rfl, gw_mem (by decide +kernel) rfl, gw_mem (by decide +kernel) rfl, gw_mem (by decide +kernel) rfl, gw_mem (by decide +kernel) rfl, ⟨by decide, by decide, by decide +kernel⟩⟩
theorem cwX5_163 : CWv RX5 163 yX2_mayMean cX2_mayMean 3 (some .int) 2 := ⟨gw_mem (by decide +kernel) rfl, gw_mem (by decide +kernel) rfl, gw_mem (by decide +kernel) rfl, gw_mem (by decide +kernel) rfl, gw_mem (by decide +kernel) rfl, ⟨by decide, by decide, by decide +kernel⟩⟩
theorem cwX5_166 : CWs RX5 166 yJ6_bitCount_0f7a4 cJ6_bitCount_0f7a4 1 (some .int) 1 := ⟨gw_mem (by decide +kernel) rfl, gw_mem (by decide +kernel) rfl, gw_mem (by decide +kernel) rfl, gw_mem (by decide +kernel) rfl, ⟨by decide, by decide, by decide +kernel⟩⟩
theorem cwX5_171 : CWv RX5 171 yX2_verb cX2_verb 2 (some .int) 1 := ⟨gw_mem (by decide +kernel) rfl, gw_mem (by decide +kernel) rfl, gw_mem (by decide +kernel) rfl, gw_mem (by decide +kernel) rfl, gw_mem (by decide +kernel) rfl, ⟨by decide, by decide, by decide +kernel⟩⟩
theorem cwX5_174 : CWs RX5 174 yX5_choiceBit cX5_choiceBit 3 (some .int) 3 := ⟨gw_mem (by decide +kernel) rfl, gw_mem (by decide +kernel) rfl, gw_mem (by decide +kernel) rfl, gw_mem (by decide +kernel) rfl, ⟨by decide, by decide, by decide +kernel⟩⟩
theorem cwX5_177 : CWv RX5 177 yX4_allows cX4_allows 6 (some .boolean) 3 := ⟨gw_mem (by decide +kernel) rfl, gw_mem (by decide +kernel) rfl, gw_mem (by decide +kernel) rfl, gw_mem (by decide +kernel) rfl, gw_mem (by decide +kernel) rfl, ⟨by decide, by decide, by decide +kernel⟩⟩
theorem cwX4_50 : CWv RX4 50 yX4_allowsTaking cX4_allowsTaking 3 (some .boolean) 2 := ⟨gw_mem (by decide +kernel) rfl, gw_mem (by decide +kernel) rfl, gw_mem (by decide +kernel) rfl, gw_mem (by decide +kernel) rfl, gw_mem (by decide +kernel) rfl, ⟨by decide, by decide, by decide +kernel⟩⟩
theorem cwX4_61 : CWs RX4 61 yX4_mayBeOnePlace cX4_mayBeOnePlace 2 (some .boolean) 2 := ⟨gw_mem (by decide +kernel) rfl, gw_mem (by decide +kernel) rfl, gw_mem (by decide +kernel) rfl, gw_mem (by decide +kernel) rfl, ⟨by decide, by decide, by decide +kernel⟩⟩
theorem cwX4_54 : CWv RX4 54 yX4_mayHave cX4_mayHave 3 (some .boolean) 2 := ⟨gw_mem (by decide +kernel) rfl, gw_mem (by decide +kernel) rfl, gw_mem (by decide +kernel) rfl, gw_mem (by decide +kernel) rfl, gw_mem (by decide +kernel) rfl, ⟨by decide, by decide, by decide +kernel⟩⟩
theorem cwX4_57 : CWv RX4 57 yX4_allowsGiving cX4_allowsGiving 4 (some .boolean) 3 := ⟨gw_mem (by decide +kernel) rfl, gw_mem (by decide +kernel) rfl, gw_mem (by decide +kernel) rfl, gw_mem (by decide +kernel) rfl, gw_mem (by decide +kernel) rfl, ⟨by decide, by decide, by decide +kernel⟩⟩
theorem cwX5_181 : CWv RX5 181 yX3_add cX3_add 3 (some .boolean) 2 := ⟨gw_mem (by decide +kernel) rfl, gw_mem (by decide +kernel) rfl, gw_mem (by decide +kernel) rfl, gw_mem (by decide +kernel) rfl, gw_mem (by decide +kernel) rfl, ⟨by decide, by decide, by decide +kernel⟩⟩
theorem cwX5_152 : CWv RX5 152 yX2_forgetBegun cX2_forgetBegun 1 none 0 := ⟨gw_mem (by decide +kernel) rfl, gw_mem (by decide +kernel) rfl, gw_mem (by decide +kernel) rfl, gw_mem (by decide +kernel) rfl, gw_mem (by decide +kernel) rfl, ⟨by decide, by decide, by decide +kernel⟩⟩
theorem cwX5_155 : CWv RX5 155 yX2_closeBegun cX2_closeBegun 1 none 0 := ⟨gw_mem (by decide +kernel) rfl, gw_mem (by decide +kernel) rfl, gw_mem (by decide +kernel) rfl, gw_mem (by decide +kernel) rfl, gw_mem (by decide +kernel) rfl, ⟨by decide, by decide, by decide +kernel⟩⟩
theorem cwL_18 : CWv RL 18 yX5_back cX5_back 1 (some .boolean) 0 := ⟨gw_mem (by decide +kernel) rfl, gw_mem (by decide +kernel) rfl, gw_mem (by decide +kernel) rfl, gw_mem (by decide +kernel) rfl, gw_mem (by decide +kernel) rfl, ⟨by decide, by decide, by decide +kernel⟩⟩
theorem cwX5_59 : CWv RX5 59 yX2_forgetLatest cX2_forgetLatest 1 (some .boolean) 0 := ⟨gw_mem (by decide +kernel) rfl, gw_mem (by decide +kernel) rfl, gw_mem (by decide +kernel) rfl, gw_mem (by decide +kernel) rfl, gw_mem (by decide +kernel) rfl, ⟨by decide, by decide, by decide +kernel⟩⟩
theorem cwL_23 : CWv RL 23 yX5_told cX5_told 3 (some .int) 2 := ⟨gw_mem (by decide +kernel) rfl, gw_mem (by decide +kernel) rfl, gw_mem (by decide +kernel) rfl, gw_mem (by decide +kernel) rfl, gw_mem (by decide +kernel) rfl, ⟨by decide, by decide, by decide +kernel⟩⟩
theorem cwX5_62 : CWv RX5 62 yX2_signAt cX2_signAt 4 (some .int) 2 := ⟨gw_mem (by decide +kernel) rfl, gw_mem (by decide +kernel) rfl, gw_mem (by decide +kernel) rfl, gw_mem (by decide +kernel) rfl, gw_mem (by decide +kernel) rfl, ⟨by decide, by decide, by decide +kernel⟩⟩
theorem cwX2_39 : CWv RX2 39 yX2_wholeLength cX2_wholeLength 2 (some .int) 1 := ⟨gw_mem (by decide +kernel) rfl, gw_mem (by decide +kernel) rfl, gw_mem (by decide +kernel) rfl, gw_mem (by decide +kernel) rfl, gw_mem (by decide +kernel) rfl, ⟨by decide, by decide, by decide +kernel⟩⟩
theorem cwL_28 : CWv RL 28 yX5_readings cX5_readings 2 (some .int) 1 := ⟨gw_mem (by decide +kernel) rfl, gw_mem (by decide +kernel) rfl, gw_mem (by decide +kernel) rfl, gw_mem (by decide +kernel) rfl, gw_mem (by decide +kernel) rfl, ⟨by decide, by decide, by decide +kernel⟩⟩
theorem cwX5_66 : CWv RX5 66 yX5_hasPrefix cX5_hasPrefix 2 (some .boolean) 1 := ⟨gw_mem (by decide +kernel) rfl, gw_mem (by decide +kernel) rfl, gw_mem (by decide +kernel) rfl, gw_mem (by decide +kernel) rfl, gw_mem (by decide +kernel) rfl, ⟨by decide, by decide, by decide +kernel⟩⟩
theorem cwL_33 : CWv RL 33 yX5_means cX5_means 4 (some .int) 3 := ⟨gw_mem (by decide +kernel) rfl, gw_mem (by decide +kernel) rfl, gw_mem (by decide +kernel) rfl, gw_mem (by decide +kernel) rfl, gw_mem (by decide +kernel) rfl, ⟨by decide, by decide, by decide +kernel⟩⟩
theorem cwX5_77 : CWv RX5 77 yX5_hasReading cX5_hasReading 2 (some .boolean) 1 := ⟨gw_mem (by decide +kernel) rfl, gw_mem (by decide +kernel) rfl, gw_mem (by decide +kernel) rfl, gw_mem (by decide +kernel) rfl, gw_mem (by decide +kernel) rfl, ⟨by decide, by decide, by decide +kernel⟩⟩
theorem cwX5_83 : CWv RX5 83 yX2_person cX2_person 5 (some .int) 3 := ⟨gw_mem (by decide +kernel) rfl, gw_mem (by decide +kernel) rfl, gw_mem (by decide +kernel) rfl, gw_mem (by decide +kernel) rfl, gw_mem (by decide +kernel) rfl, ⟨by decide, by decide, by decide +kernel⟩⟩
theorem cwL_38 : CWv RL 38 yX5_answer cX5_answer 5 (some .int) 3 := ⟨gw_mem (by decide +kernel) rfl, gw_mem (by decide +kernel) rfl, gw_mem (by decide +kernel) rfl, gw_mem (by decide +kernel) rfl, gw_mem (by decide +kernel) rfl, ⟨by decide, by decide, by decide +kernel⟩⟩
theorem cwX5_87 : CWs RX5 87 yX5_questionNumber cX5_questionNumber 2 (some .int) 2 := ⟨gw_mem (by decide +kernel) rfl, gw_mem (by decide +kernel) rfl, gw_mem (by decide +kernel) rfl, gw_mem (by decide +kernel) rfl, ⟨by decide, by decide, by decide +kernel⟩⟩
theorem cwL_42 : CWv RL 42 yX5_level cX5_level 5 (some .int) 3 := ⟨gw_mem (by decide +kernel) rfl, gw_mem (by decide +kernel) rfl, gw_mem (by decide +kernel) rfl, gw_mem (by decide +kernel) rfl, gw_mem (by decide +kernel) rfl, ⟨by decide, by decide, by decide +kernel⟩⟩
theorem cwL_46 : CWv RL 46 yX5_grounds cX5_grounds 4 (some .int) 3 := ⟨gw_mem (by decide +kernel) rfl, gw_mem (by decide +kernel) rfl, gw_mem (by decide +kernel) rfl, gw_mem (by decide +kernel) rfl, gw_mem (by decide +kernel) rfl, ⟨by decide, by decide, by decide +kernel⟩⟩
theorem cwX5_101 : CWv RX5 101 yX4_basis cX4_basis 3 (some .int) 2 := ⟨gw_mem (by decide +kernel) rfl, gw_mem (by decide +kernel) rfl, gw_mem (by decide +kernel) rfl, gw_mem (by decide +kernel) rfl, gw_mem (by decide +kernel) rfl, ⟨by decide, by decide, by decide +kernel⟩⟩
theorem cwL_50 : CWv RL 50 yX5_judge cX5_judge 5 (some .int) 3 := ⟨gw_mem (by decide +kernel) rfl, gw_mem (by decide +kernel) rfl, gw_mem (by decide +kernel) rfl, gw_mem (by decide +kernel) rfl, gw_mem (by decide +kernel) rfl, ⟨by decide, by decide, by decide +kernel⟩⟩
theorem cwX5_104 : CWv RX5 104 yX5_rightAnswer cX5_rightAnswer 2 (some .int) 1 := ⟨gw_mem (by decide +kernel) rfl, gw_mem (by decide +kernel) rfl, gw_mem (by decide +kernel) rfl, gw_mem (by decide +kernel) rfl, gw_mem (by decide +kernel) rfl, ⟨by decide, by decide, by decide +kernel⟩⟩
theorem cwX5_107 : CWs RX5 107 yX5_isOfKind cX5_isOfKind 2 (some .boolean) 2 := ⟨gw_mem (by decide +kernel) rfl, gw_mem (by decide +kernel) rfl, gw_mem (by decide +kernel) rfl, gw_mem (by decide +kernel) rfl, ⟨by decide, by decide, by decide +kernel⟩⟩
theorem cwX5_196 : CWs RX5 196 yX5_isPlace cX5_isPlace 1 (some .boolean) 1 := ⟨gw_mem (by decide +kernel) rfl, gw_mem (by decide +kernel) rfl, gw_mem (by decide +kernel) rfl, gw_mem (by decide +kernel) rfl, ⟨by decide, by decide, by decide +kernel⟩⟩
theorem cwX5_111 : CWv RX5 111 yX5_wasAnswer cX5_wasAnswer 4 (some .boolean) 2 := ⟨gw_mem (by decide +kernel) rfl, gw_mem (by decide +kernel) rfl, gw_mem (by decide +kernel) rfl, gw_mem (by decide +kernel) rfl, gw_mem (by decide +kernel) rfl, ⟨by decide, by decide, by decide +kernel⟩⟩
theorem cwL_54 : CWv RL 54 yX5_asks cX5_asks 4 (some .int) 2 := ⟨gw_mem (by decide +kernel) rfl, gw_mem (by decide +kernel) rfl, gw_mem (by decide +kernel) rfl, gw_mem (by decide +kernel) rfl, gw_mem (by decide +kernel) rfl, ⟨by decide, by decide, by decide +kernel⟩⟩
theorem cwL_58 : CWv RL 58 yX5_fewest cX5_fewest 2 (some .int) 0 := ⟨gw_mem (by decide +kernel) rfl, gw_mem (by decide +kernel) rfl, gw_mem (by decide +kernel) rfl, gw_mem (by decide +kernel) rfl, gw_mem (by decide +kernel) rfl, ⟨by decide, by decide, by decide +kernel⟩⟩
theorem cwX5_117 : CWv RX5 117 yX0_clear cX0_clear 1 none 0 := ⟨gw_mem (by decide +kernel) rfl, gw_mem (by decide +kernel) rfl, gw_mem (by decide +kernel) rfl, gw_mem (by decide +kernel) rfl, gw_mem (by decide +kernel) rfl, ⟨by decide, by decide, by decide +kernel⟩⟩
theorem cwX5_120 : CWv RX5 120 yX0_offer cX0_offer 4 none 1 := ⟨gw_mem (by decide +kernel) rfl, gw_mem (by decide +kernel) rfl, gw_mem (by decide +kernel) rfl, gw_mem (by decide +kernel) rfl, gw_mem (by decide +kernel) rfl, ⟨by decide, by decide, by decide +kernel⟩⟩
theorem cwX5_123 : CWv RX5 123 yX0_least cX0_least 2 (some .int) 0 := ⟨gw_mem (by decide +kernel) rfl, gw_mem (by decide +kernel) rfl, gw_mem (by decide +kernel) rfl, gw_mem (by decide +kernel) rfl, gw_mem (by decide +kernel) rfl, ⟨by decide, by decide, by decide +kernel⟩⟩
theorem cwX0_22 : CWs RX0 22 yX0_suffice cX0_suffice 6 (some .boolean) 4 := ⟨gw_mem (by decide +kernel) rfl, gw_mem (by decide +kernel) rfl, gw_mem (by decide +kernel) rfl, gw_mem (by decide +kernel) rfl, ⟨by decide, by decide, by decide +kernel⟩⟩
theorem cwX0_26 : CWs RX0 26 yX0_widest cX0_widest 5 (some .int) 3 := ⟨gw_mem (by decide +kernel) rfl, gw_mem (by decide +kernel) rfl, gw_mem (by decide +kernel) rfl, gw_mem (by decide +kernel) rfl, ⟨by decide, by decide, by decide +kernel⟩⟩
theorem cwX0_30 : CWs RX0 30 yJ6_bitCount_0f7a4 cJ6_bitCount_0f7a4 1 (some .int) 1 := ⟨gw_mem (by decide +kernel) rfl, gw_mem (by decide +kernel) rfl, gw_mem (by decide +kernel) rfl, gw_mem (by decide +kernel) rfl, ⟨by decide, by decide, by decide +kernel⟩⟩
theorem cwX0_39 : Cond.methodLink RX0 39 Lib.Math.max.name ∈ gw ∧ Cond.static Lib.Math.max.name ∈ gw ∧ Cond.initialized "java/lang/Math" ∈ gw ∧ Cond.code Lib.Math.max.name Lib.Math.max.code 2 (some .int) ∈ gw := ⟨gw_mem (by decide +kernel) rfl, gw_mem (by decide +kernel) rfl, gw_mem (by decide +kernel) rfl, gw_mem (by decide +kernel) rfl⟩
theorem cwX0_36 : CWs RX0 36 yX0_rarest cX0_rarest 7 (some .int) 3 := ⟨gw_mem (by decide +kernel) rfl, gw_mem (by decide +kernel) rfl, gw_mem (by decide +kernel) rfl, gw_mem (by decide +kernel) rfl, ⟨by decide, by decide, by decide +kernel⟩⟩
theorem cwX0_45 : CWs RX0 45 yX0_holdersOf cX0_holdersOf 5 (some .int) 3 := ⟨gw_mem (by decide +kernel) rfl, gw_mem (by decide +kernel) rfl, gw_mem (by decide +kernel) rfl, gw_mem (by decide +kernel) rfl, ⟨by decide, by decide, by decide +kernel⟩⟩
theorem cwL_63 : CWv RL 63 yX5_wrong cX5_wrong 5 (some .int) 3 := ⟨gw_mem (by decide +kernel) rfl, gw_mem (by decide +kernel) rfl, gw_mem (by decide +kernel) rfl, gw_mem (by decide +kernel) rfl, gw_mem (by decide +kernel) rfl, ⟨by decide, by decide, by decide +kernel⟩⟩
theorem cwX5_127 : CWv RX5 127 yX2_allNamed cX2_allNamed 3 (some .int) 0 := ⟨gw_mem (by decide +kernel) rfl, gw_mem (by decide +kernel) rfl, gw_mem (by decide +kernel) rfl, gw_mem (by decide +kernel) rfl, gw_mem (by decide +kernel) rfl, ⟨by decide, by decide, by decide +kernel⟩⟩
theorem cwX5_130 : CWs RX5 130 yX5_choiceBut cX5_choiceBut 6 (some .int) 4 := ⟨gw_mem (by decide +kernel) rfl, gw_mem (by decide +kernel) rfl, gw_mem (by decide +kernel) rfl, gw_mem (by decide +kernel) rfl, ⟨by decide, by decide, by decide +kernel⟩⟩
theorem cwX5_134 : CWv RX5 134 yX2_allPlaces cX2_allPlaces 3 (some .int) 0 := ⟨gw_mem (by decide +kernel) rfl, gw_mem (by decide +kernel) rfl, gw_mem (by decide +kernel) rfl, gw_mem (by decide +kernel) rfl, gw_mem (by decide +kernel) rfl, ⟨by decide, by decide, by decide +kernel⟩⟩
theorem cwX2_54 : CWv RX2 54 yX2_object cX2_object 2 (some .int) 1 := ⟨gw_mem (by decide +kernel) rfl, gw_mem (by decide +kernel) rfl, gw_mem (by decide +kernel) rfl, gw_mem (by decide +kernel) rfl, gw_mem (by decide +kernel) rfl, ⟨by decide, by decide, by decide +kernel⟩⟩
theorem cwL_67 : CWv RL 67 yX5_count cX5_count 2 (some .int) 1 := ⟨gw_mem (by decide +kernel) rfl, gw_mem (by decide +kernel) rfl, gw_mem (by decide +kernel) rfl, gw_mem (by decide +kernel) rfl, gw_mem (by decide +kernel) rfl, ⟨by decide, by decide, by decide +kernel⟩⟩
theorem cwX5_140 : CWv RX5 140 yX1_answered cX1_answered 4 (some .int) 1 := ⟨gw_mem (by decide +kernel) rfl, gw_mem (by decide +kernel) rfl, gw_mem (by decide +kernel) rfl, gw_mem (by decide +kernel) rfl, gw_mem (by decide +kernel) rfl, ⟨by decide, by decide, by decide +kernel⟩⟩
theorem cwX5_143 : CWv RX5 143 yX1_doubted cX1_doubted 4 (some .int) 1 := ⟨gw_mem (by decide +kernel) rfl, gw_mem (by decide +kernel) rfl, gw_mem (by decide +kernel) rfl, gw_mem (by decide +kernel) rfl, gw_mem (by decide +kernel) rfl, ⟨by decide, by decide, by decide +kernel⟩⟩
theorem cwL_17 : CWv RL 17 yX6_sign cX6_sign 2 (some .boolean) 1 := ⟨gw_mem (by decide +kernel) rfl, gw_mem (by decide +kernel) rfl, gw_mem (by decide +kernel) rfl, gw_mem (by decide +kernel) rfl, gw_mem (by decide +kernel) rfl, ⟨by decide, by decide, by decide +kernel⟩⟩
theorem cwX6_47 : CWv RX6 47 yX6_canStand cX6_canStand 4 (some .boolean) 1 := ⟨gw_mem (by decide +kernel) rfl, gw_mem (by decide +kernel) rfl, gw_mem (by decide +kernel) rfl, gw_mem (by decide +kernel) rfl, gw_mem (by decide +kernel) rfl, ⟨by decide, by decide, by decide +kernel⟩⟩
theorem cwX6_39 : CWv RX6 39 yX6_signAt cX6_signAt 3 (some .int) 2 := ⟨gw_mem (by decide +kernel) rfl, gw_mem (by decide +kernel) rfl, gw_mem (by decide +kernel) rfl, gw_mem (by decide +kernel) rfl, gw_mem (by decide +kernel) rfl, ⟨by decide, by decide, by decide +kernel⟩⟩
theorem cwX6_43 : CWs RX6 43 yX6_isWho cX6_isWho 1 (some .boolean) 1 := ⟨gw_mem (by decide +kernel) rfl, gw_mem (by decide +kernel) rfl, gw_mem (by decide +kernel) rfl, gw_mem (by decide +kernel) rfl, ⟨by decide, by decide, by decide +kernel⟩⟩
theorem cwX6_31 : CWs RX6 31 yX6_in cX6_in 3 (some .boolean) 3 := ⟨gw_mem (by decide +kernel) rfl, gw_mem (by decide +kernel) rfl, gw_mem (by decide +kernel) rfl, gw_mem (by decide +kernel) rfl, ⟨by decide, by decide, by decide +kernel⟩⟩
theorem cwX6_50 : CWv RX6 50 yX6_reads cX6_reads 3 none 1 := ⟨gw_mem (by decide +kernel) rfl, gw_mem (by decide +kernel) rfl, gw_mem (by decide +kernel) rfl, gw_mem (by decide +kernel) rfl, gw_mem (by decide +kernel) rfl, ⟨by decide, by decide, by decide +kernel⟩⟩
theorem cwX6_61 : CWv RX6 61 yX6_goes cX6_goes 6 none 1 := ⟨gw_mem (by decide +kernel) rfl, gw_mem (by decide +kernel) rfl, gw_mem (by decide +kernel) rfl, gw_mem (by decide +kernel) rfl, gw_mem (by decide +kernel) rfl, ⟨by decide, by decide, by decide +kernel⟩⟩
theorem cwX6_64 : CWv RX6 64 yX6_mayMean cX6_mayMean 7 (some .boolean) 3 := ⟨gw_mem (by decide +kernel) rfl, gw_mem (by decide +kernel) rfl, gw_mem (by decide +kernel) rfl, gw_mem (by decide +kernel) rfl, gw_mem (by decide +kernel) rfl, ⟨by decide, by decide, by decide +kernel⟩⟩
theorem cwX6_57 : CWv RX6 57 yX6_names cX6_names 3 (some .boolean) 2 := ⟨gw_mem (by decide +kernel) rfl, gw_mem (by decide +kernel) rfl, gw_mem (by decide +kernel) rfl, gw_mem (by decide +kernel) rfl, gw_mem (by decide +kernel) rfl, ⟨by decide, by decide, by decide +kernel⟩⟩
theorem cwX6_67 : CWv RX6 67 yX6_tries cX6_tries 9 none 4 := ⟨gw_mem (by decide +kernel) rfl, gw_mem (by decide +kernel) rfl, gw_mem (by decide +kernel) rfl, gw_mem (by decide +kernel) rfl, gw_mem (by decide +kernel) rfl, ⟨by decide, by decide, by decide +kernel⟩⟩
theorem cwX6_71 : CWv RX6 71 yX6_walks cX6_walks 5 (some .boolean) 4 := ⟨gw_mem (by decide +kernel) rfl, gw_mem (by decide +kernel) rfl, gw_mem (by decide +kernel) rfl, gw_mem (by decide +kernel) rfl, gw_mem (by decide +kernel) rfl, ⟨by decide, by decide, by decide +kernel⟩⟩
theorem cwX6_75 : CWv RX6 75 yX6_takes cX6_takes 6 (some .boolean) 4 := ⟨gw_mem (by decide +kernel) rfl, gw_mem (by decide +kernel) rfl, gw_mem (by decide +kernel) rfl, gw_mem (by decide +kernel) rfl, gw_mem (by decide +kernel) rfl, ⟨by decide, by decide, by decide +kernel⟩⟩
theorem cwX6_85 : CWv RX6 85 yX6_isOthers cX6_isOthers 4 (some .boolean) 3 := ⟨gw_mem (by decide +kernel) rfl, gw_mem (by decide +kernel) rfl, gw_mem (by decide +kernel) rfl, gw_mem (by decide +kernel) rfl, gw_mem (by decide +kernel) rfl, ⟨by decide, by decide, by decide +kernel⟩⟩
theorem cwX6_88 : CWv RX6 88 yX6_has cX6_has 5 none 4 := ⟨gw_mem (by decide +kernel) rfl, gw_mem (by decide +kernel) rfl, gw_mem (by decide +kernel) rfl, gw_mem (by decide +kernel) rfl, gw_mem (by decide +kernel) rfl, ⟨by decide, by decide, by decide +kernel⟩⟩
theorem cwX6_78 : CWv RX6 78 yX6_drops cX6_drops 5 (some .boolean) 4 := ⟨gw_mem (by decide +kernel) rfl, gw_mem (by decide +kernel) rfl, gw_mem (by decide +kernel) rfl, gw_mem (by decide +kernel) rfl, gw_mem (by decide +kernel) rfl, ⟨by decide, by decide, by decide +kernel⟩⟩
theorem cwX6_81 : CWv RX6 81 yX6_gives cX6_gives 8 (some .boolean) 5 := ⟨gw_mem (by decide +kernel) rfl, gw_mem (by decide +kernel) rfl, gw_mem (by decide +kernel) rfl, gw_mem (by decide +kernel) rfl, gw_mem (by decide +kernel) rfl, ⟨by decide, by decide, by decide +kernel⟩⟩
theorem cwL_22 : CWv RL 22 yX6_back cX6_back 1 (some .boolean) 0 := ⟨gw_mem (by decide +kernel) rfl, gw_mem (by decide +kernel) rfl, gw_mem (by decide +kernel) rfl, gw_mem (by decide +kernel) rfl, gw_mem (by decide +kernel) rfl, ⟨by decide, by decide, by decide +kernel⟩⟩
theorem cwL_27 : CWv RL 27 yX6_told cX6_told 3 (some .int) 2 := ⟨gw_mem (by decide +kernel) rfl, gw_mem (by decide +kernel) rfl, gw_mem (by decide +kernel) rfl, gw_mem (by decide +kernel) rfl, gw_mem (by decide +kernel) rfl, ⟨by decide, by decide, by decide +kernel⟩⟩
theorem cwL_32 : CWv RL 32 yX6_readings cX6_readings 2 (some .int) 1 := ⟨gw_mem (by decide +kernel) rfl, gw_mem (by decide +kernel) rfl, gw_mem (by decide +kernel) rfl, gw_mem (by decide +kernel) rfl, gw_mem (by decide +kernel) rfl, ⟨by decide, by decide, by decide +kernel⟩⟩
theorem cwL_37 : CWv RL 37 yX6_means cX6_means 4 (some .int) 3 := ⟨gw_mem (by decide +kernel) rfl, gw_mem (by decide +kernel) rfl, gw_mem (by decide +kernel) rfl, gw_mem (by decide +kernel) rfl, gw_mem (by decide +kernel) rfl, ⟨by decide, by decide, by decide +kernel⟩⟩
theorem cwL_41 : CWv RL 41 yX6_answer cX6_answer 4 (some .int) 3 := ⟨gw_mem (by decide +kernel) rfl, gw_mem (by decide +kernel) rfl, gw_mem (by decide +kernel) rfl, gw_mem (by decide +kernel) rfl, gw_mem (by decide +kernel) rfl, ⟨by decide, by decide, by decide +kernel⟩⟩
theorem cwX6_95 : CWs RX6 95 yX6_isQuestion cX6_isQuestion 2 (some .boolean) 2 := ⟨gw_mem (by decide +kernel) rfl, gw_mem (by decide +kernel) rfl, gw_mem (by decide +kernel) rfl, gw_mem (by decide +kernel) rfl, ⟨by decide, by decide, by decide +kernel⟩⟩
theorem cwX6_98 : CWv RX6 98 yX6_answers cX6_answers 5 (some .int) 2 := ⟨gw_mem (by decide +kernel) rfl, gw_mem (by decide +kernel) rfl, gw_mem (by decide +kernel) rfl, gw_mem (by decide +kernel) rfl, gw_mem (by decide +kernel) rfl, ⟨by decide, by decide, by decide +kernel⟩⟩
theorem cwX6_91 : CWv RX6 91 yX6_tells cX6_tells 8 (some .int) 3 := ⟨gw_mem (by decide +kernel) rfl, gw_mem (by decide +kernel) rfl, gw_mem (by decide +kernel) rfl, gw_mem (by decide +kernel) rfl, gw_mem (by decide +kernel) rfl, ⟨by decide, by decide, by decide +kernel⟩⟩
theorem cwL_45 : CWv RL 45 yX6_level cX6_level 7 (some .int) 3 := ⟨gw_mem (by decide +kernel) rfl, gw_mem (by decide +kernel) rfl, gw_mem (by decide +kernel) rfl, gw_mem (by decide +kernel) rfl, gw_mem (by decide +kernel) rfl, ⟨by decide, by decide, by decide +kernel⟩⟩
theorem cwX6_101 : CWv RX6 101 yX6_by cX6_by 7 (some .int) 3 := ⟨gw_mem (by decide +kernel) rfl, gw_mem (by decide +kernel) rfl, gw_mem (by decide +kernel) rfl, gw_mem (by decide +kernel) rfl, gw_mem (by decide +kernel) rfl, ⟨by decide, by decide, by decide +kernel⟩⟩
theorem cwX6_104 : CWs RX6 104 yX6_bits cX6_bits 3 (some .int) 1 := ⟨gw_mem (by decide +kernel) rfl, gw_mem (by decide +kernel) rfl, gw_mem (by decide +kernel) rfl, gw_mem (by decide +kernel) rfl, ⟨by decide, by decide, by decide +kernel⟩⟩
theorem cwL_49 : CWv RL 49 yX6_grounds cX6_grounds 4 (some .int) 3 := ⟨gw_mem (by decide +kernel) rfl, gw_mem (by decide +kernel) rfl, gw_mem (by decide +kernel) rfl, gw_mem (by decide +kernel) rfl, gw_mem (by decide +kernel) rfl, ⟨by decide, by decide, by decide +kernel⟩⟩
theorem cwL_53 : CWv RL 53 yX6_judge cX6_judge 6 (some .int) 3 := ⟨gw_mem (by decide +kernel) rfl, gw_mem (by decide +kernel) rfl, gw_mem (by decide +kernel) rfl, gw_mem (by decide +kernel) rfl, gw_mem (by decide +kernel) rfl, ⟨by decide, by decide, by decide +kernel⟩⟩
theorem cwX6_108 : CWv RX6 108 yX6_answer cX6_answer 4 (some .int) 3 := ⟨gw_mem (by decide +kernel) rfl, gw_mem (by decide +kernel) rfl, gw_mem (by decide +kernel) rfl, gw_mem (by decide +kernel) rfl, gw_mem (by decide +kernel) rfl, ⟨by decide, by decide, by decide +kernel⟩⟩
theorem cwX6_111 : CWs RX6 111 yX6_isOfKind cX6_isOfKind 2 (some .boolean) 2 := ⟨gw_mem (by decide +kernel) rfl, gw_mem (by decide +kernel) rfl, gw_mem (by decide +kernel) rfl, gw_mem (by decide +kernel) rfl, ⟨by decide, by decide, by decide +kernel⟩⟩
theorem cwL_57 : CWv RL 57 yX6_asks cX6_asks 3 (some .int) 2 := ⟨gw_mem (by decide +kernel) rfl, gw_mem (by decide +kernel) rfl, gw_mem (by decide +kernel) rfl, gw_mem (by decide +kernel) rfl, gw_mem (by decide +kernel) rfl, ⟨by decide, by decide, by decide +kernel⟩⟩
theorem cwX6_114 : CWv RX6 114 yX6_asked cX6_asked 5 (some .int) 2 := ⟨gw_mem (by decide +kernel) rfl, gw_mem (by decide +kernel) rfl, gw_mem (by decide +kernel) rfl, gw_mem (by decide +kernel) rfl, gw_mem (by decide +kernel) rfl, ⟨by decide, by decide, by decide +kernel⟩⟩
theorem cwL_62 : CWv RL 62 yX6_fewest cX6_fewest 6 (some .int) 0 := ⟨gw_mem (by decide +kernel) rfl, gw_mem (by decide +kernel) rfl, gw_mem (by decide +kernel) rfl, gw_mem (by decide +kernel) rfl, gw_mem (by decide +kernel) rfl, ⟨by decide, by decide, by decide +kernel⟩⟩
theorem cwX6_117 : CWv RX6 117 yX6_gathers cX6_gathers 8 (some .int) 0 := ⟨gw_mem (by decide +kernel) rfl, gw_mem (by decide +kernel) rfl, gw_mem (by decide +kernel) rfl, gw_mem (by decide +kernel) rfl, gw_mem (by decide +kernel) rfl, ⟨by decide, by decide, by decide +kernel⟩⟩
theorem cwL_66 : CWv RL 66 yX6_wrong cX6_wrong 8 (some .int) 3 := ⟨gw_mem (by decide +kernel) rfl, gw_mem (by decide +kernel) rfl, gw_mem (by decide +kernel) rfl, gw_mem (by decide +kernel) rfl, gw_mem (by decide +kernel) rfl, ⟨by decide, by decide, by decide +kernel⟩⟩
theorem cwX6_121 : CWv RX6 121 yX6_isNamed cX6_isNamed 3 (some .boolean) 1 := ⟨gw_mem (by decide +kernel) rfl, gw_mem (by decide +kernel) rfl, gw_mem (by decide +kernel) rfl, gw_mem (by decide +kernel) rfl, gw_mem (by decide +kernel) rfl, ⟨by decide, by decide, by decide +kernel⟩⟩
theorem cwL_70 : CWv RL 70 yX6_count cX6_count 6 (some .int) 1 := ⟨gw_mem (by decide +kernel) rfl, gw_mem (by decide +kernel) rfl, gw_mem (by decide +kernel) rfl, gw_mem (by decide +kernel) rfl, gw_mem (by decide +kernel) rfl, ⟨by decide, by decide, by decide +kernel⟩⟩
theorem cwX1_22 : CWt RX1 22 yX5_aboutCount cX5_aboutCount 1 (some .int) 1 := ⟨⟨"TextAsker", nw_mem (by decide +kernel) rfl⟩, gw_mem (by decide +kernel) rfl, gw_mem (by decide +kernel) rfl, gw_mem (by decide +kernel) rfl, ⟨by decide, by decide, by decide +kernel⟩⟩
theorem cwX1_26 : CWt RX1 26 yX5_questionNumber cX5_questionNumber 2 (some .int) 2 := ⟨⟨"TextAsker", nw_mem (by decide +kernel) rfl⟩, gw_mem (by decide +kernel) rfl, gw_mem (by decide +kernel) rfl, gw_mem (by decide +kernel) rfl, ⟨by decide, by decide, by decide +kernel⟩⟩
theorem cwX4_87 : CWt RX4 87 yX5_isPerson cX5_isPerson 1 (some .boolean) 1 := ⟨⟨"TextAsker", nw_mem (by decide +kernel) rfl⟩, gw_mem (by decide +kernel) rfl, gw_mem (by decide +kernel) rfl, gw_mem (by decide +kernel) rfl, ⟨by decide, by decide, by decide +kernel⟩⟩
theorem cwX2_25 : CWt RX2 25 yX5_isWho cX5_isWho 1 (some .boolean) 1 := ⟨⟨"TextAsker", nw_mem (by decide +kernel) rfl⟩, gw_mem (by decide +kernel) rfl, gw_mem (by decide +kernel) rfl, gw_mem (by decide +kernel) rfl, ⟨by decide, by decide, by decide +kernel⟩⟩
theorem cwX2_33 : CWt RX2 33 yX5_isPlace cX5_isPlace 1 (some .boolean) 1 := ⟨⟨"TextAsker", nw_mem (by decide +kernel) rfl⟩, gw_mem (by decide +kernel) rfl, gw_mem (by decide +kernel) rfl, gw_mem (by decide +kernel) rfl, ⟨by decide, by decide, by decide +kernel⟩⟩
theorem cwX2_36 : CWt RX2 36 yX5_isThing cX5_isThing 1 (some .boolean) 1 := ⟨⟨"TextAsker", nw_mem (by decide +kernel) rfl⟩, gw_mem (by decide +kernel) rfl, gw_mem (by decide +kernel) rfl, gw_mem (by decide +kernel) rfl, ⟨by decide, by decide, by decide +kernel⟩⟩
theorem cwX2_45 : CWt RX2 45 yX5_isPerson cX5_isPerson 1 (some .boolean) 1 := ⟨⟨"TextAsker", nw_mem (by decide +kernel) rfl⟩, gw_mem (by decide +kernel) rfl, gw_mem (by decide +kernel) rfl, gw_mem (by decide +kernel) rfl, ⟨by decide, by decide, by decide +kernel⟩⟩
theorem kcJ6_265 : Cond.constant RJ6 265 (1431655765 : Int32) ∈ gw := gw_mem (by decide +kernel) rfl
theorem kcJ6_266 : Cond.constant RJ6 266 (858993459 : Int32) ∈ gw := gw_mem (by decide +kernel) rfl
theorem kcJ6_267 : Cond.constant RJ6 267 (252645135 : Int32) ∈ gw := gw_mem (by decide +kernel) rfl
end
section
theorem ltN {b n : Nat} {G : Cx} (h : b < n) (hN : n ≤ gN G) : b < gN G := Nat.lt_of_lt_of_le h hN
def bi (P : Prop) [Decidable P] : Int32 := if P then 1 else 0
theorem bi_01 (P : Prop) [Decidable P] : bi P = 0 ∨ bi P = 1 := by unfold bi; split; exact Or.inr rfl; exact Or.inl rfl
theorem bi_t {P : Prop} [Decidable P] (h : P) : (nI 1) = bi P := by unfold bi; rw [if_pos h]; rfl
theorem bi_f {P : Prop} [Decidable P] (h : ¬ P) : (nI 0) = bi P := by unfold bi; rw [if_neg h]; rfl
theorem bi_ne {P : Prop} [Decidable P] : bi P ≠ 0 ↔ P := by unfold bi; split <;> simp_all
theorem bi_eq {P : Prop} [Decidable P] : bi P = 0 ↔ ¬ P := by unfold bi; split <;> simp_all
theorem bi_congr {P Q : Prop} [Decidable P] [Decidable Q] (h : P ↔ Q) : bi P = bi Q := by unfold bi; simp only [h]
theorem i_lt {x y : Int32} : x < y ↔ x.toInt < y.toInt := Int32.lt_iff_toInt_lt
theorem i_le {x y : Int32} : x ≤ y ↔ x.toInt ≤ y.toInt := Int32.le_iff_toInt_le
theorem i_eq {x y : Int32} : x = y ↔ x.toInt = y.toInt := Int32.toInt_inj.symm
theorem i_of {x : Int32} {n : Nat} (h : x.toInt = (n : Int)) (hn : n < 2147483648) : x = nI n := by rw [i_eq, nI_toInt hn]; exact h
theorem t_0 : (0 : Int32).toInt = 0 := by decide
theorem t_1 : (1 : Int32).toInt = 1 := by decide
theorem t_m1 : (-1 : Int32).toInt = -1 := by decide
theorem t_m2 : (-2 : Int32).toInt = -2 := by decide
theorem t_m3 : (-3 : Int32).toInt = -3 := by decide
theorem t_k (k : Nat) (h : k < 2147483648) : (nI k).toInt = (k : Int) := nI_toInt h
theorem sw0_4 (x : Int32) : x = nI 0 ∨ x = nI 1 ∨ x = nI 2 ∨ x = nI 3 ∨ (x.toInt < 0 ∨ 3 < x.toInt) := by
  simp only [i_eq, nI_toInt (show 0 < 2 ^ 31 by decide), nI_toInt (show 1 < 2 ^ 31 by decide), nI_toInt (show 2 < 2 ^ 31 by decide), nI_toInt (show 3 < 2 ^ 31 by decide)]; omega
theorem sw0_3 (x : Int32) : x = nI 0 ∨ x = nI 1 ∨ x = nI 2 ∨ (x.toInt < 0 ∨ 2 < x.toInt) := by
  simp only [i_eq, nI_toInt (show 0 < 2 ^ 31 by decide), nI_toInt (show 1 < 2 ^ 31 by decide), nI_toInt (show 2 < 2 ^ 31 by decide)]; omega
theorem sw0_5 (x : Int32) : x = nI 0 ∨ x = nI 1 ∨ x = nI 2 ∨ x = nI 3 ∨ x = nI 4 ∨ (x.toInt < 0 ∨ 4 < x.toInt) := by
  simp only [i_eq, nI_toInt (show 0 < 2 ^ 31 by decide), nI_toInt (show 1 < 2 ^ 31 by decide), nI_toInt (show 2 < 2 ^ 31 by decide), nI_toInt (show 3 < 2 ^ 31 by decide), nI_toInt (show 4 < 2 ^ 31 by decide)]; omega
theorem sw31_3 (x : Int32) : x = nI 31 ∨ x = nI 32 ∨ x = nI 33 ∨ (x.toInt < 31 ∨ 33 < x.toInt) := by
  simp only [i_eq, nI_toInt (show 31 < 2 ^ 31 by decide), nI_toInt (show 32 < 2 ^ 31 by decide), nI_toInt (show 33 < 2 ^ 31 by decide)]; omega
/-- kinds of signs -/
abbrev isP (x : Int32) : Prop := nI 0 ≤ x ∧ x < nI 8
abbrev isT (x : Int32) : Prop := nI 10 ≤ x ∧ x < nI 20
abbrev isL (x : Int32) : Prop := nI 20 ≤ x ∧ x < nI 28
abbrev isW (x : Int32) : Prop := isP x ∨ x = nI 40 ∨ x = nI 41
theorem V_iN_lt {F : Fx} {G : Cx} {cc : ByteArray} {own : String} {S : Sx} {pc : Nat} {L : List (Option Value)} {sk : List Value} (X : CX F G cc own) {a : Nat} {off : Int} (tgt : Nat) (ha : a < 2147483648) (hd : decode cc pc = .ok (.ifCond .lt off, 3)) (ht : (pc : Int) + off = (tgt : Int)) (k : V F G S (pc + 3) L sk) : V F G S pc L (.int (nI a) :: sk) :=
  V_if_lt X tgt hd ht (fun q => absurd q (nI_pos ha)) (fun _ => k)
theorem V_iN_ge {F : Fx} {G : Cx} {cc : ByteArray} {own : String} {S : Sx} {pc : Nat} {L : List (Option Value)} {sk : List Value} (X : CX F G cc own) {a : Nat} {off : Int} (tgt : Nat) (ha : a < 2147483648) (hd : decode cc pc = .ok (.ifCond .ge off, 3)) (ht : (pc : Int) + off = (tgt : Int)) (k : V F G S tgt L sk) : V F G S pc L (.int (nI a) :: sk) :=
  V_if_ge X tgt hd ht (fun _ => k) (fun q => absurd (nI_pos' ha) q)
theorem nI_z {a : Nat} (ha : a < 2147483648) : nI a = 0 ↔ a = 0 := ⟨fun h => by rcases Nat.eq_zero_or_pos a with z | z; exact z; exact absurd h (nI_ne0 z ha), fun h => by rw [h]; rfl⟩
theorem nI_gz {a : Nat} (ha : a < 2147483648) : 0 < nI a ↔ 0 < a := by
  have := @nI_ltI 0 a (by decide) ha
  rw [nI_0] at this
  exact this
theorem V_iN_eq {F : Fx} {G : Cx} {cc : ByteArray} {own : String} {S : Sx} {pc : Nat} {L : List (Option Value)} {sk : List Value} (X : CX F G cc own) {a : Nat} {off : Int} (tgt : Nat) (ha : a < 2147483648) (hd : decode cc pc = .ok (.ifCond .eq off, 3)) (ht : (pc : Int) + off = (tgt : Int)) (kt : a = 0 → V F G S tgt L sk) (kf : a ≠ 0 → V F G S (pc + 3) L sk) : V F G S pc L (.int (nI a) :: sk) :=
  V_if_eq X tgt hd ht (fun q => kt ((nI_z ha).mp q)) (fun q => kf (fun z => q ((nI_z ha).mpr z)))
theorem V_iN_ne {F : Fx} {G : Cx} {cc : ByteArray} {own : String} {S : Sx} {pc : Nat} {L : List (Option Value)} {sk : List Value} (X : CX F G cc own) {a : Nat} {off : Int} (tgt : Nat) (ha : a < 2147483648) (hd : decode cc pc = .ok (.ifCond .ne off, 3)) (ht : (pc : Int) + off = (tgt : Int)) (kt : a ≠ 0 → V F G S tgt L sk) (kf : a = 0 → V F G S (pc + 3) L sk) : V F G S pc L (.int (nI a) :: sk) :=
  V_if_ne X tgt hd ht (fun q => kt (fun z => q ((nI_z ha).mpr z))) (fun q => kf (Classical.byContradiction (fun z => q (fun y => z ((nI_z ha).mp y)))))
theorem V_iN_gt {F : Fx} {G : Cx} {cc : ByteArray} {own : String} {S : Sx} {pc : Nat} {L : List (Option Value)} {sk : List Value} (X : CX F G cc own) {a : Nat} {off : Int} (tgt : Nat) (ha : a < 2147483648) (hd : decode cc pc = .ok (.ifCond .gt off, 3)) (ht : (pc : Int) + off = (tgt : Int)) (kt : 0 < a → V F G S tgt L sk) (kf : a = 0 → V F G S (pc + 3) L sk) : V F G S pc L (.int (nI a) :: sk) :=
  V_if_gt X tgt hd ht (fun q => kt ((nI_gz ha).mp q)) (fun q => kf (by rcases Nat.eq_zero_or_pos a with z | z; exact z; exact absurd ((nI_gz ha).mpr z) q))
theorem V_iN_le {F : Fx} {G : Cx} {cc : ByteArray} {own : String} {S : Sx} {pc : Nat} {L : List (Option Value)} {sk : List Value} (X : CX F G cc own) {a : Nat} {off : Int} (tgt : Nat) (ha : a < 2147483648) (hd : decode cc pc = .ok (.ifCond .le off, 3)) (ht : (pc : Int) + off = (tgt : Int)) (kt : a = 0 → V F G S tgt L sk) (kf : 0 < a → V F G S (pc + 3) L sk) : V F G S pc L (.int (nI a) :: sk) :=
  V_if_le X tgt hd ht (fun q => kt (by rcases Nat.eq_zero_or_pos a with z | z; exact z; exact absurd q (nI_nle z ha))) (fun q => kf (by rcases Nat.eq_zero_or_pos a with z | z; (exact absurd (by rw [z]; decide) q); exact z))
/-- the locals may be said anew, where they are the same -/
theorem V_L {F : Fx} {G : Cx} {S : Sx} {pc : Nat} {L : List (Option Value)} {sk : List Value} (L2 : List (Option Value)) (h : ∀ (i : Nat) (v : Value), L2[i]? = some (some v) → L[i]? = some (some v)) (k : V F G S pc L2 sk) : V F G S pc L sk := by
  obtain ⟨p, e, R, s, m, args, below, meth, c, nL, kc, ks, Q⟩ := F
  intro H locs ls hP hD hS hl
  exact k H locs ls hP hD hS ⟨hl.1, hl.2.1, fun i v hv => hl.2.2 i v (h i v hv)⟩
theorem V_drop {F : Fx} {G : Cx} {S : Sx} {pc i : Nat} {L : List (Option Value)} {sk : List Value} (k : V F G S pc (L.set i none) sk) : V F G S pc L sk := V_L _ (fun j v h => by
  by_cases e : j = i
  · subst e
    by_cases hl : j < L.length
    · rw [List.getElem?_set_self hl] at h; cases h
    · rw [List.getElem?_eq_none (by simpa using Nat.le_of_not_lt hl)] at h; cases h
  · rw [List.getElem?_set_ne (Ne.symm e)] at h; exact h) k
set_option maxRecDepth 100000 in
set_option maxHeartbeats 4000000 in
theorem kX5_isPerson {G : Cx} {S : Sx}  {x : Int32} : CT G (0) yX5_isPerson cX5_isPerson 1 (some .boolean) [.int x] S (bi (isP x)) (S) := by
  refine CT_of (by decide) (Nat.le_of_ble_eq_true rfl) (by intro v hv; simp only [List.mem_cons, List.not_mem_nil, or_false] at hv; rcases hv with rfl <;> rfl) (fun F X E => ?_)
  have hR := RI_R E
  refine V_iload_n X dX5_isPerson_0 rfl ?_
  refine V_if_lt X 14 dX5_isPerson_1 (by decide) (fun h1 => ?_) (fun h1 => ?_)
  · refine V_iconst X (nI 0) dX5_isPerson_14 (by decide) ?_
    exact V_zret X E dX5_isPerson_15 (by first | exact Or.inl rfl | exact Or.inr rfl) (by first | (refine bi_t ?_; (clear X E hR; (try simp only [bi_ne, bi_eq] at *); simp only [ne_eq, Classical.not_not, isP, isT, isL, isW, i_lt, i_le, i_eq, t_0, t_1, t_m1, t_m2, t_m3, t_k 0 (by decide), t_k 1 (by decide), t_k 2 (by decide), t_k 3 (by decide), t_k 4 (by decide), t_k 5 (by decide), t_k 8 (by decide), t_k 9 (by decide), t_k 10 (by decide), t_k 14 (by decide), t_k 15 (by decide), t_k 18 (by decide), t_k 20 (by decide), t_k 28 (by decide), t_k 30 (by decide), t_k 31 (by decide), t_k 32 (by decide), t_k 33 (by decide), t_k 40 (by decide), t_k 41 (by decide), t_k 50 (by decide)] at *; omega)) | (refine bi_f ?_; (clear X E hR; (try simp only [bi_ne, bi_eq] at *); simp only [ne_eq, Classical.not_not, isP, isT, isL, isW, i_lt, i_le, i_eq, t_0, t_1, t_m1, t_m2, t_m3, t_k 0 (by decide), t_k 1 (by decide), t_k 2 (by decide), t_k 3 (by decide), t_k 4 (by decide), t_k 5 (by decide), t_k 8 (by decide), t_k 9 (by decide), t_k 10 (by decide), t_k 14 (by decide), t_k 15 (by decide), t_k 18 (by decide), t_k 20 (by decide), t_k 28 (by decide), t_k 30 (by decide), t_k 31 (by decide), t_k 32 (by decide), t_k 33 (by decide), t_k 40 (by decide), t_k 41 (by decide), t_k 50 (by decide)] at *; omega))) rfl
  · refine V_iload_n X dX5_isPerson_4 rfl ?_
    refine V_bipush X (nI 8) dX5_isPerson_5 (by decide) ?_
    refine V_icmp_ge X 14 dX5_isPerson_7 (by decide) (fun h7 => ?_) (fun h7 => ?_)
    · refine V_iconst X (nI 0) dX5_isPerson_14 (by decide) ?_
      exact V_zret X E dX5_isPerson_15 (by first | exact Or.inl rfl | exact Or.inr rfl) (by first | (refine bi_t ?_; (clear X E hR; (try simp only [bi_ne, bi_eq] at *); simp only [ne_eq, Classical.not_not, isP, isT, isL, isW, i_lt, i_le, i_eq, t_0, t_1, t_m1, t_m2, t_m3, t_k 0 (by decide), t_k 1 (by decide), t_k 2 (by decide), t_k 3 (by decide), t_k 4 (by decide), t_k 5 (by decide), t_k 8 (by decide), t_k 9 (by decide), t_k 10 (by decide), t_k 14 (by decide), t_k 15 (by decide), t_k 18 (by decide), t_k 20 (by decide), t_k 28 (by decide), t_k 30 (by decide), t_k 31 (by decide), t_k 32 (by decide), t_k 33 (by decide), t_k 40 (by decide), t_k 41 (by decide), t_k 50 (by decide)] at *; omega)) | (refine bi_f ?_; (clear X E hR; (try simp only [bi_ne, bi_eq] at *); simp only [ne_eq, Classical.not_not, isP, isT, isL, isW, i_lt, i_le, i_eq, t_0, t_1, t_m1, t_m2, t_m3, t_k 0 (by decide), t_k 1 (by decide), t_k 2 (by decide), t_k 3 (by decide), t_k 4 (by decide), t_k 5 (by decide), t_k 8 (by decide), t_k 9 (by decide), t_k 10 (by decide), t_k 14 (by decide), t_k 15 (by decide), t_k 18 (by decide), t_k 20 (by decide), t_k 28 (by decide), t_k 30 (by decide), t_k 31 (by decide), t_k 32 (by decide), t_k 33 (by decide), t_k 40 (by decide), t_k 41 (by decide), t_k 50 (by decide)] at *; omega))) rfl
    · refine V_iconst X (nI 1) dX5_isPerson_10 (by decide) ?_
      refine V_goto X 15 dX5_isPerson_11 (by decide) ?_
      exact V_zret X E dX5_isPerson_15 (by first | exact Or.inl rfl | exact Or.inr rfl) (by first | (refine bi_t ?_; (clear X E hR; (try simp only [bi_ne, bi_eq] at *); simp only [ne_eq, Classical.not_not, isP, isT, isL, isW, i_lt, i_le, i_eq, t_0, t_1, t_m1, t_m2, t_m3, t_k 0 (by decide), t_k 1 (by decide), t_k 2 (by decide), t_k 3 (by decide), t_k 4 (by decide), t_k 5 (by decide), t_k 8 (by decide), t_k 9 (by decide), t_k 10 (by decide), t_k 14 (by decide), t_k 15 (by decide), t_k 18 (by decide), t_k 20 (by decide), t_k 28 (by decide), t_k 30 (by decide), t_k 31 (by decide), t_k 32 (by decide), t_k 33 (by decide), t_k 40 (by decide), t_k 41 (by decide), t_k 50 (by decide)] at *; omega)) | (refine bi_f ?_; (clear X E hR; (try simp only [bi_ne, bi_eq] at *); simp only [ne_eq, Classical.not_not, isP, isT, isL, isW, i_lt, i_le, i_eq, t_0, t_1, t_m1, t_m2, t_m3, t_k 0 (by decide), t_k 1 (by decide), t_k 2 (by decide), t_k 3 (by decide), t_k 4 (by decide), t_k 5 (by decide), t_k 8 (by decide), t_k 9 (by decide), t_k 10 (by decide), t_k 14 (by decide), t_k 15 (by decide), t_k 18 (by decide), t_k 20 (by decide), t_k 28 (by decide), t_k 30 (by decide), t_k 31 (by decide), t_k 32 (by decide), t_k 33 (by decide), t_k 40 (by decide), t_k 41 (by decide), t_k 50 (by decide)] at *; omega))) rfl

set_option maxRecDepth 100000 in
set_option maxHeartbeats 4000000 in
theorem kX5_isThing {G : Cx} {S : Sx}  {x : Int32} : CT G (0) yX5_isThing cX5_isThing 1 (some .boolean) [.int x] S (bi (isT x)) (S) := by
  refine CT_of (by decide) (Nat.le_of_ble_eq_true rfl) (by intro v hv; simp only [List.mem_cons, List.not_mem_nil, or_false] at hv; rcases hv with rfl <;> rfl) (fun F X E => ?_)
  have hR := RI_R E
  refine V_iload_n X dX5_isThing_0 rfl ?_
  refine V_bipush X (nI 10) dX5_isThing_1 (by decide) ?_
  refine V_icmp_lt X 16 dX5_isThing_3 (by decide) (fun h3 => ?_) (fun h3 => ?_)
  · refine V_iconst X (nI 0) dX5_isThing_16 (by decide) ?_
    exact V_zret X E dX5_isThing_17 (by first | exact Or.inl rfl | exact Or.inr rfl) (by first | (refine bi_t ?_; (clear X E hR; (try simp only [bi_ne, bi_eq] at *); simp only [ne_eq, Classical.not_not, isP, isT, isL, isW, i_lt, i_le, i_eq, t_0, t_1, t_m1, t_m2, t_m3, t_k 0 (by decide), t_k 1 (by decide), t_k 2 (by decide), t_k 3 (by decide), t_k 4 (by decide), t_k 5 (by decide), t_k 8 (by decide), t_k 9 (by decide), t_k 10 (by decide), t_k 14 (by decide), t_k 15 (by decide), t_k 18 (by decide), t_k 20 (by decide), t_k 28 (by decide), t_k 30 (by decide), t_k 31 (by decide), t_k 32 (by decide), t_k 33 (by decide), t_k 40 (by decide), t_k 41 (by decide), t_k 50 (by decide)] at *; omega)) | (refine bi_f ?_; (clear X E hR; (try simp only [bi_ne, bi_eq] at *); simp only [ne_eq, Classical.not_not, isP, isT, isL, isW, i_lt, i_le, i_eq, t_0, t_1, t_m1, t_m2, t_m3, t_k 0 (by decide), t_k 1 (by decide), t_k 2 (by decide), t_k 3 (by decide), t_k 4 (by decide), t_k 5 (by decide), t_k 8 (by decide), t_k 9 (by decide), t_k 10 (by decide), t_k 14 (by decide), t_k 15 (by decide), t_k 18 (by decide), t_k 20 (by decide), t_k 28 (by decide), t_k 30 (by decide), t_k 31 (by decide), t_k 32 (by decide), t_k 33 (by decide), t_k 40 (by decide), t_k 41 (by decide), t_k 50 (by decide)] at *; omega))) rfl
  · refine V_iload_n X dX5_isThing_6 rfl ?_
    refine V_bipush X (nI 20) dX5_isThing_7 (by decide) ?_
    refine V_icmp_ge X 16 dX5_isThing_9 (by decide) (fun h9 => ?_) (fun h9 => ?_)
    · refine V_iconst X (nI 0) dX5_isThing_16 (by decide) ?_
      exact V_zret X E dX5_isThing_17 (by first | exact Or.inl rfl | exact Or.inr rfl) (by first | (refine bi_t ?_; (clear X E hR; (try simp only [bi_ne, bi_eq] at *); simp only [ne_eq, Classical.not_not, isP, isT, isL, isW, i_lt, i_le, i_eq, t_0, t_1, t_m1, t_m2, t_m3, t_k 0 (by decide), t_k 1 (by decide), t_k 2 (by decide), t_k 3 (by decide), t_k 4 (by decide), t_k 5 (by decide), t_k 8 (by decide), t_k 9 (by decide), t_k 10 (by decide), t_k 14 (by decide), t_k 15 (by decide), t_k 18 (by decide), t_k 20 (by decide), t_k 28 (by decide), t_k 30 (by decide), t_k 31 (by decide), t_k 32 (by decide), t_k 33 (by decide), t_k 40 (by decide), t_k 41 (by decide), t_k 50 (by decide)] at *; omega)) | (refine bi_f ?_; (clear X E hR; (try simp only [bi_ne, bi_eq] at *); simp only [ne_eq, Classical.not_not, isP, isT, isL, isW, i_lt, i_le, i_eq, t_0, t_1, t_m1, t_m2, t_m3, t_k 0 (by decide), t_k 1 (by decide), t_k 2 (by decide), t_k 3 (by decide), t_k 4 (by decide), t_k 5 (by decide), t_k 8 (by decide), t_k 9 (by decide), t_k 10 (by decide), t_k 14 (by decide), t_k 15 (by decide), t_k 18 (by decide), t_k 20 (by decide), t_k 28 (by decide), t_k 30 (by decide), t_k 31 (by decide), t_k 32 (by decide), t_k 33 (by decide), t_k 40 (by decide), t_k 41 (by decide), t_k 50 (by decide)] at *; omega))) rfl
    · refine V_iconst X (nI 1) dX5_isThing_12 (by decide) ?_
      refine V_goto X 17 dX5_isThing_13 (by decide) ?_
      exact V_zret X E dX5_isThing_17 (by first | exact Or.inl rfl | exact Or.inr rfl) (by first | (refine bi_t ?_; (clear X E hR; (try simp only [bi_ne, bi_eq] at *); simp only [ne_eq, Classical.not_not, isP, isT, isL, isW, i_lt, i_le, i_eq, t_0, t_1, t_m1, t_m2, t_m3, t_k 0 (by decide), t_k 1 (by decide), t_k 2 (by decide), t_k 3 (by decide), t_k 4 (by decide), t_k 5 (by decide), t_k 8 (by decide), t_k 9 (by decide), t_k 10 (by decide), t_k 14 (by decide), t_k 15 (by decide), t_k 18 (by decide), t_k 20 (by decide), t_k 28 (by decide), t_k 30 (by decide), t_k 31 (by decide), t_k 32 (by decide), t_k 33 (by decide), t_k 40 (by decide), t_k 41 (by decide), t_k 50 (by decide)] at *; omega)) | (refine bi_f ?_; (clear X E hR; (try simp only [bi_ne, bi_eq] at *); simp only [ne_eq, Classical.not_not, isP, isT, isL, isW, i_lt, i_le, i_eq, t_0, t_1, t_m1, t_m2, t_m3, t_k 0 (by decide), t_k 1 (by decide), t_k 2 (by decide), t_k 3 (by decide), t_k 4 (by decide), t_k 5 (by decide), t_k 8 (by decide), t_k 9 (by decide), t_k 10 (by decide), t_k 14 (by decide), t_k 15 (by decide), t_k 18 (by decide), t_k 20 (by decide), t_k 28 (by decide), t_k 30 (by decide), t_k 31 (by decide), t_k 32 (by decide), t_k 33 (by decide), t_k 40 (by decide), t_k 41 (by decide), t_k 50 (by decide)] at *; omega))) rfl

set_option maxRecDepth 100000 in
set_option maxHeartbeats 4000000 in
theorem kX5_isPlace {G : Cx} {S : Sx}  {x : Int32} : CT G (0) yX5_isPlace cX5_isPlace 1 (some .boolean) [.int x] S (bi (isL x)) (S) := by
  refine CT_of (by decide) (Nat.le_of_ble_eq_true rfl) (by intro v hv; simp only [List.mem_cons, List.not_mem_nil, or_false] at hv; rcases hv with rfl <;> rfl) (fun F X E => ?_)
  have hR := RI_R E
  refine V_iload_n X dX5_isPlace_0 rfl ?_
  refine V_bipush X (nI 20) dX5_isPlace_1 (by decide) ?_
  refine V_icmp_lt X 16 dX5_isPlace_3 (by decide) (fun h3 => ?_) (fun h3 => ?_)
  · refine V_iconst X (nI 0) dX5_isPlace_16 (by decide) ?_
    exact V_zret X E dX5_isPlace_17 (by first | exact Or.inl rfl | exact Or.inr rfl) (by first | (refine bi_t ?_; (clear X E hR; (try simp only [bi_ne, bi_eq] at *); simp only [ne_eq, Classical.not_not, isP, isT, isL, isW, i_lt, i_le, i_eq, t_0, t_1, t_m1, t_m2, t_m3, t_k 0 (by decide), t_k 1 (by decide), t_k 2 (by decide), t_k 3 (by decide), t_k 4 (by decide), t_k 5 (by decide), t_k 8 (by decide), t_k 9 (by decide), t_k 10 (by decide), t_k 14 (by decide), t_k 15 (by decide), t_k 18 (by decide), t_k 20 (by decide), t_k 28 (by decide), t_k 30 (by decide), t_k 31 (by decide), t_k 32 (by decide), t_k 33 (by decide), t_k 40 (by decide), t_k 41 (by decide), t_k 50 (by decide)] at *; omega)) | (refine bi_f ?_; (clear X E hR; (try simp only [bi_ne, bi_eq] at *); simp only [ne_eq, Classical.not_not, isP, isT, isL, isW, i_lt, i_le, i_eq, t_0, t_1, t_m1, t_m2, t_m3, t_k 0 (by decide), t_k 1 (by decide), t_k 2 (by decide), t_k 3 (by decide), t_k 4 (by decide), t_k 5 (by decide), t_k 8 (by decide), t_k 9 (by decide), t_k 10 (by decide), t_k 14 (by decide), t_k 15 (by decide), t_k 18 (by decide), t_k 20 (by decide), t_k 28 (by decide), t_k 30 (by decide), t_k 31 (by decide), t_k 32 (by decide), t_k 33 (by decide), t_k 40 (by decide), t_k 41 (by decide), t_k 50 (by decide)] at *; omega))) rfl
  · refine V_iload_n X dX5_isPlace_6 rfl ?_
    refine V_bipush X (nI 28) dX5_isPlace_7 (by decide) ?_
    refine V_icmp_ge X 16 dX5_isPlace_9 (by decide) (fun h9 => ?_) (fun h9 => ?_)
    · refine V_iconst X (nI 0) dX5_isPlace_16 (by decide) ?_
      exact V_zret X E dX5_isPlace_17 (by first | exact Or.inl rfl | exact Or.inr rfl) (by first | (refine bi_t ?_; (clear X E hR; (try simp only [bi_ne, bi_eq] at *); simp only [ne_eq, Classical.not_not, isP, isT, isL, isW, i_lt, i_le, i_eq, t_0, t_1, t_m1, t_m2, t_m3, t_k 0 (by decide), t_k 1 (by decide), t_k 2 (by decide), t_k 3 (by decide), t_k 4 (by decide), t_k 5 (by decide), t_k 8 (by decide), t_k 9 (by decide), t_k 10 (by decide), t_k 14 (by decide), t_k 15 (by decide), t_k 18 (by decide), t_k 20 (by decide), t_k 28 (by decide), t_k 30 (by decide), t_k 31 (by decide), t_k 32 (by decide), t_k 33 (by decide), t_k 40 (by decide), t_k 41 (by decide), t_k 50 (by decide)] at *; omega)) | (refine bi_f ?_; (clear X E hR; (try simp only [bi_ne, bi_eq] at *); simp only [ne_eq, Classical.not_not, isP, isT, isL, isW, i_lt, i_le, i_eq, t_0, t_1, t_m1, t_m2, t_m3, t_k 0 (by decide), t_k 1 (by decide), t_k 2 (by decide), t_k 3 (by decide), t_k 4 (by decide), t_k 5 (by decide), t_k 8 (by decide), t_k 9 (by decide), t_k 10 (by decide), t_k 14 (by decide), t_k 15 (by decide), t_k 18 (by decide), t_k 20 (by decide), t_k 28 (by decide), t_k 30 (by decide), t_k 31 (by decide), t_k 32 (by decide), t_k 33 (by decide), t_k 40 (by decide), t_k 41 (by decide), t_k 50 (by decide)] at *; omega))) rfl
    · refine V_iconst X (nI 1) dX5_isPlace_12 (by decide) ?_
      refine V_goto X 17 dX5_isPlace_13 (by decide) ?_
      exact V_zret X E dX5_isPlace_17 (by first | exact Or.inl rfl | exact Or.inr rfl) (by first | (refine bi_t ?_; (clear X E hR; (try simp only [bi_ne, bi_eq] at *); simp only [ne_eq, Classical.not_not, isP, isT, isL, isW, i_lt, i_le, i_eq, t_0, t_1, t_m1, t_m2, t_m3, t_k 0 (by decide), t_k 1 (by decide), t_k 2 (by decide), t_k 3 (by decide), t_k 4 (by decide), t_k 5 (by decide), t_k 8 (by decide), t_k 9 (by decide), t_k 10 (by decide), t_k 14 (by decide), t_k 15 (by decide), t_k 18 (by decide), t_k 20 (by decide), t_k 28 (by decide), t_k 30 (by decide), t_k 31 (by decide), t_k 32 (by decide), t_k 33 (by decide), t_k 40 (by decide), t_k 41 (by decide), t_k 50 (by decide)] at *; omega)) | (refine bi_f ?_; (clear X E hR; (try simp only [bi_ne, bi_eq] at *); simp only [ne_eq, Classical.not_not, isP, isT, isL, isW, i_lt, i_le, i_eq, t_0, t_1, t_m1, t_m2, t_m3, t_k 0 (by decide), t_k 1 (by decide), t_k 2 (by decide), t_k 3 (by decide), t_k 4 (by decide), t_k 5 (by decide), t_k 8 (by decide), t_k 9 (by decide), t_k 10 (by decide), t_k 14 (by decide), t_k 15 (by decide), t_k 18 (by decide), t_k 20 (by decide), t_k 28 (by decide), t_k 30 (by decide), t_k 31 (by decide), t_k 32 (by decide), t_k 33 (by decide), t_k 40 (by decide), t_k 41 (by decide), t_k 50 (by decide)] at *; omega))) rfl

set_option maxRecDepth 100000 in
set_option maxHeartbeats 4000000 in
theorem kX5_isWho {G : Cx} {S : Sx}  {x : Int32} : CT G (1) yX5_isWho cX5_isWho 1 (some .boolean) [.int x] S (bi (isW x)) (S) := by
  refine CT_of (by decide) (Nat.le_of_ble_eq_true rfl) (by intro v hv; simp only [List.mem_cons, List.not_mem_nil, or_false] at hv; rcases hv with rfl <;> rfl) (fun F X E => ?_)
  have hR := RI_R E
  refine V_iload_n X dX5_isWho_0 rfl ?_
  refine V_csi X (kX5_isPerson ) cwX5_193 rfl (rm_ok hR (by decide) (by decide)) (Nat.le_of_ble_eq_true rfl) dX5_isWho_1 ?_
  refine V_if_ne X 19 dX5_isWho_4 (by decide) (fun h4 => ?_) (fun h4 => ?_)
  · refine V_iconst X (nI 1) dX5_isWho_19 (by decide) ?_
    refine V_goto X 24 dX5_isWho_20 (by decide) ?_
    exact V_zret X E dX5_isWho_24 (by first | exact Or.inl rfl | exact Or.inr rfl) (by first | (refine bi_t ?_; (clear X E hR; (try simp only [bi_ne, bi_eq] at *); simp only [ne_eq, Classical.not_not, isP, isT, isL, isW, i_lt, i_le, i_eq, t_0, t_1, t_m1, t_m2, t_m3, t_k 0 (by decide), t_k 1 (by decide), t_k 2 (by decide), t_k 3 (by decide), t_k 4 (by decide), t_k 5 (by decide), t_k 8 (by decide), t_k 9 (by decide), t_k 10 (by decide), t_k 14 (by decide), t_k 15 (by decide), t_k 18 (by decide), t_k 20 (by decide), t_k 28 (by decide), t_k 30 (by decide), t_k 31 (by decide), t_k 32 (by decide), t_k 33 (by decide), t_k 40 (by decide), t_k 41 (by decide), t_k 50 (by decide)] at *; omega)) | (refine bi_f ?_; (clear X E hR; (try simp only [bi_ne, bi_eq] at *); simp only [ne_eq, Classical.not_not, isP, isT, isL, isW, i_lt, i_le, i_eq, t_0, t_1, t_m1, t_m2, t_m3, t_k 0 (by decide), t_k 1 (by decide), t_k 2 (by decide), t_k 3 (by decide), t_k 4 (by decide), t_k 5 (by decide), t_k 8 (by decide), t_k 9 (by decide), t_k 10 (by decide), t_k 14 (by decide), t_k 15 (by decide), t_k 18 (by decide), t_k 20 (by decide), t_k 28 (by decide), t_k 30 (by decide), t_k 31 (by decide), t_k 32 (by decide), t_k 33 (by decide), t_k 40 (by decide), t_k 41 (by decide), t_k 50 (by decide)] at *; omega))) rfl
  · refine V_iload_n X dX5_isWho_7 rfl ?_
    refine V_bipush X (nI 40) dX5_isWho_8 (by decide) ?_
    refine V_icmp_eq X 19 dX5_isWho_10 (by decide) (fun h10 => ?_) (fun h10 => ?_)
    · refine V_iconst X (nI 1) dX5_isWho_19 (by decide) ?_
      refine V_goto X 24 dX5_isWho_20 (by decide) ?_
      exact V_zret X E dX5_isWho_24 (by first | exact Or.inl rfl | exact Or.inr rfl) (by first | (refine bi_t ?_; (clear X E hR; (try simp only [bi_ne, bi_eq] at *); simp only [ne_eq, Classical.not_not, isP, isT, isL, isW, i_lt, i_le, i_eq, t_0, t_1, t_m1, t_m2, t_m3, t_k 0 (by decide), t_k 1 (by decide), t_k 2 (by decide), t_k 3 (by decide), t_k 4 (by decide), t_k 5 (by decide), t_k 8 (by decide), t_k 9 (by decide), t_k 10 (by decide), t_k 14 (by decide), t_k 15 (by decide), t_k 18 (by decide), t_k 20 (by decide), t_k 28 (by decide), t_k 30 (by decide), t_k 31 (by decide), t_k 32 (by decide), t_k 33 (by decide), t_k 40 (by decide), t_k 41 (by decide), t_k 50 (by decide)] at *; omega)) | (refine bi_f ?_; (clear X E hR; (try simp only [bi_ne, bi_eq] at *); simp only [ne_eq, Classical.not_not, isP, isT, isL, isW, i_lt, i_le, i_eq, t_0, t_1, t_m1, t_m2, t_m3, t_k 0 (by decide), t_k 1 (by decide), t_k 2 (by decide), t_k 3 (by decide), t_k 4 (by decide), t_k 5 (by decide), t_k 8 (by decide), t_k 9 (by decide), t_k 10 (by decide), t_k 14 (by decide), t_k 15 (by decide), t_k 18 (by decide), t_k 20 (by decide), t_k 28 (by decide), t_k 30 (by decide), t_k 31 (by decide), t_k 32 (by decide), t_k 33 (by decide), t_k 40 (by decide), t_k 41 (by decide), t_k 50 (by decide)] at *; omega))) rfl
    · refine V_iload_n X dX5_isWho_13 rfl ?_
      refine V_bipush X (nI 41) dX5_isWho_14 (by decide) ?_
      refine V_icmp_ne X 23 dX5_isWho_16 (by decide) (fun h16 => ?_) (fun h16 => ?_)
      · refine V_iconst X (nI 0) dX5_isWho_23 (by decide) ?_
        exact V_zret X E dX5_isWho_24 (by first | exact Or.inl rfl | exact Or.inr rfl) (by first | (refine bi_t ?_; (clear X E hR; (try simp only [bi_ne, bi_eq] at *); simp only [ne_eq, Classical.not_not, isP, isT, isL, isW, i_lt, i_le, i_eq, t_0, t_1, t_m1, t_m2, t_m3, t_k 0 (by decide), t_k 1 (by decide), t_k 2 (by decide), t_k 3 (by decide), t_k 4 (by decide), t_k 5 (by decide), t_k 8 (by decide), t_k 9 (by decide), t_k 10 (by decide), t_k 14 (by decide), t_k 15 (by decide), t_k 18 (by decide), t_k 20 (by decide), t_k 28 (by decide), t_k 30 (by decide), t_k 31 (by decide), t_k 32 (by decide), t_k 33 (by decide), t_k 40 (by decide), t_k 41 (by decide), t_k 50 (by decide)] at *; omega)) | (refine bi_f ?_; (clear X E hR; (try simp only [bi_ne, bi_eq] at *); simp only [ne_eq, Classical.not_not, isP, isT, isL, isW, i_lt, i_le, i_eq, t_0, t_1, t_m1, t_m2, t_m3, t_k 0 (by decide), t_k 1 (by decide), t_k 2 (by decide), t_k 3 (by decide), t_k 4 (by decide), t_k 5 (by decide), t_k 8 (by decide), t_k 9 (by decide), t_k 10 (by decide), t_k 14 (by decide), t_k 15 (by decide), t_k 18 (by decide), t_k 20 (by decide), t_k 28 (by decide), t_k 30 (by decide), t_k 31 (by decide), t_k 32 (by decide), t_k 33 (by decide), t_k 40 (by decide), t_k 41 (by decide), t_k 50 (by decide)] at *; omega))) rfl
      · refine V_iconst X (nI 1) dX5_isWho_19 (by decide) ?_
        refine V_goto X 24 dX5_isWho_20 (by decide) ?_
        exact V_zret X E dX5_isWho_24 (by first | exact Or.inl rfl | exact Or.inr rfl) (by first | (refine bi_t ?_; (clear X E hR; (try simp only [bi_ne, bi_eq] at *); simp only [ne_eq, Classical.not_not, isP, isT, isL, isW, i_lt, i_le, i_eq, t_0, t_1, t_m1, t_m2, t_m3, t_k 0 (by decide), t_k 1 (by decide), t_k 2 (by decide), t_k 3 (by decide), t_k 4 (by decide), t_k 5 (by decide), t_k 8 (by decide), t_k 9 (by decide), t_k 10 (by decide), t_k 14 (by decide), t_k 15 (by decide), t_k 18 (by decide), t_k 20 (by decide), t_k 28 (by decide), t_k 30 (by decide), t_k 31 (by decide), t_k 32 (by decide), t_k 33 (by decide), t_k 40 (by decide), t_k 41 (by decide), t_k 50 (by decide)] at *; omega)) | (refine bi_f ?_; (clear X E hR; (try simp only [bi_ne, bi_eq] at *); simp only [ne_eq, Classical.not_not, isP, isT, isL, isW, i_lt, i_le, i_eq, t_0, t_1, t_m1, t_m2, t_m3, t_k 0 (by decide), t_k 1 (by decide), t_k 2 (by decide), t_k 3 (by decide), t_k 4 (by decide), t_k 5 (by decide), t_k 8 (by decide), t_k 9 (by decide), t_k 10 (by decide), t_k 14 (by decide), t_k 15 (by decide), t_k 18 (by decide), t_k 20 (by decide), t_k 28 (by decide), t_k 30 (by decide), t_k 31 (by decide), t_k 32 (by decide), t_k 33 (by decide), t_k 40 (by decide), t_k 41 (by decide), t_k 50 (by decide)] at *; omega))) rfl

set_option maxRecDepth 100000 in
set_option maxHeartbeats 4000000 in
theorem kX2_verb {G : Cx} {S : Sx} (hN : 80 ≤ gN G) {s : Nat} (hs : s < 14) : CT G (0) yX2_verb cX2_verb 2 (some .int) [ra G 1, .int (nI s)] S (S 2 (s * 5 + 1)) (S) := by
  refine CT_of (by decide) (Nat.le_of_ble_eq_true rfl) (by intro v hv; simp only [List.mem_cons, List.not_mem_nil, or_false] at hv; rcases hv with rfl | rfl <;> rfl) (fun F X E => ?_)
  have hR := RI_R E
  refine V_aload_n X dX2_verb_0 rfl ?_
  refine V_getr X flX2_9 (ltN (by decide) hN) rfl rfl dX2_verb_1 ?_
  refine V_iload_n X dX2_verb_4 rfl ?_
  refine V_iconst X (nI 5) dX2_verb_5 (by decide) ?_
  refine V_mulN X dX2_verb_6 ?_
  refine V_iconst X (nI 1) dX2_verb_7 (by decide) ?_
  refine V_addN X dX2_verb_8 ?_
  refine V_ialdN X (ltN (by decide) hN) rfl (by omega) (by decide) dX2_verb_9 ?_
  exact V_iret X E dX2_verb_10 rfl rfl

set_option maxRecDepth 100000 in
set_option maxHeartbeats 4000000 in
theorem kX2_object {G : Cx} {S : Sx} (hN : 80 ≤ gN G) {s : Nat} (hs : s < 14) : CT G (0) yX2_object cX2_object 2 (some .int) [ra G 1, .int (nI s)] S (S 2 (s * 5 + 2)) (S) := by
  refine CT_of (by decide) (Nat.le_of_ble_eq_true rfl) (by intro v hv; simp only [List.mem_cons, List.not_mem_nil, or_false] at hv; rcases hv with rfl | rfl <;> rfl) (fun F X E => ?_)
  have hR := RI_R E
  refine V_aload_n X dX2_object_0 rfl ?_
  refine V_getr X flX2_9 (ltN (by decide) hN) rfl rfl dX2_object_1 ?_
  refine V_iload_n X dX2_object_4 rfl ?_
  refine V_iconst X (nI 5) dX2_object_5 (by decide) ?_
  refine V_mulN X dX2_object_6 ?_
  refine V_iconst X (nI 2) dX2_object_7 (by decide) ?_
  refine V_addN X dX2_object_8 ?_
  refine V_ialdN X (ltN (by decide) hN) rfl (by omega) (by decide) dX2_object_9 ?_
  exact V_iret X E dX2_object_10 rfl rfl
end
section
theorem nb {y : Int32} {w : Nat} (h0 : ¬ y < 0) (h : y < nI w) (hw : w < 2147483648) : ∃ j, j < w ∧ y = nI j := by
  obtain ⟨j, hj, rfl⟩ := nI_of h0
  exact ⟨j, (nI_ltI hj hw).mp h, rfl⟩
theorem lt0 {x : Int32} (h : x < 0) : x.toInt < 0 := by have := i_lt.mp h; rwa [t_0] at this
theorem ltk {x : Int32} {k : Nat} (hk : k < 2147483648) (h : x < nI k) : x.toInt < k := by have := i_lt.mp h; rwa [t_k k hk] at this
theorem gtk {x : Int32} {k : Nat} (hk : k < 2147483648) (h : nI k < x) : (k : Int) < x.toInt := by have := i_lt.mp h; rwa [t_k k hk] at this
theorem nltk {x : Int32} {k : Nat} (hk : k < 2147483648) (h : ¬ x < nI k) : (k : Int) ≤ x.toInt := by rw [i_lt, t_k k hk] at h; omega
theorem ngtk {x : Int32} {k : Nat} (hk : k < 2147483648) (h : ¬ nI k < x) : x.toInt ≤ (k : Int) := by rw [i_lt, t_k k hk] at h; omega
theorem nlt0 {x : Int32} (h : ¬ x < 0) : 0 ≤ x.toInt := by rw [i_lt, t_0] at h; omega
/-- may the sign stand next -/
def fitF (n b : Nat) (g : Nat → Int32) (x : Int32) : Int32 := if n < 14 then (if b = 0 then bi (isW x) else if b = 1 then bi (nI 30 ≤ x ∧ x ≤ nI 33) else if b = 2 then (if g (n * 5 + 1) = nI 30 then bi (isL x) else bi (isT x)) else if b = 3 then (if g (n * 5 + 1) = nI 33 then bi (isW x) else bi (x = nI 50)) else bi (x = nI 50)) else nI 0
theorem fitF_14 {n b : Nat} {g : Nat → Int32} {x : Int32} (h : 14 ≤ n) : nI 0 = fitF n b g x := by unfold fitF; rw [if_neg (by omega)]
theorem fitF_0 {n : Nat} {g : Nat → Int32} {x : Int32} (h : n < 14) : bi (isW x) = fitF n 0 g x := by unfold fitF; rw [if_pos h, if_pos rfl]
theorem fitF_1 {n : Nat} {g : Nat → Int32} {x : Int32} (h : n < 14) : bi (nI 30 ≤ x ∧ x ≤ nI 33) = fitF n 1 g x := by unfold fitF; rw [if_pos h, if_neg (by decide), if_pos rfl]
theorem fitF_2 {n : Nat} {g : Nat → Int32} {x : Int32} (h : n < 14) (h2 : g (n * 5 + 1) = nI 30) : bi (isL x) = fitF n 2 g x := by unfold fitF; rw [if_pos h, if_neg (by decide), if_neg (by decide), if_pos rfl, if_pos h2]
theorem fitF_2n {n : Nat} {g : Nat → Int32} {x : Int32} (h : n < 14) (h2 : ¬ g (n * 5 + 1) = nI 30) : bi (isT x) = fitF n 2 g x := by unfold fitF; rw [if_pos h, if_neg (by decide), if_neg (by decide), if_pos rfl, if_neg h2]
theorem fitF_3 {n : Nat} {g : Nat → Int32} {x : Int32} (h : n < 14) (h2 : g (n * 5 + 1) = nI 33) : bi (isW x) = fitF n 3 g x := by unfold fitF; rw [if_pos h, if_neg (by decide), if_neg (by decide), if_neg (by decide), if_pos rfl, if_pos h2]
theorem fitF_3n {n : Nat} {g : Nat → Int32} {x : Int32} (h : n < 14) (h2 : ¬ g (n * 5 + 1) = nI 33) : bi (x = nI 50) = fitF n 3 g x := by unfold fitF; rw [if_pos h, if_neg (by decide), if_neg (by decide), if_neg (by decide), if_pos rfl, if_neg h2]
theorem fitF_4 {n b : Nat} {g : Nat → Int32} {x : Int32} (h : n < 14) (hb : 3 < b) : bi (x = nI 50) = fitF n b g x := by unfold fitF; rw [if_pos h, if_neg (by omega), if_neg (by omega), if_neg (by omega), if_neg (by omega)]
theorem ts_nn {P : Prop} (h : ¬ (¬ P)) : P := Classical.byContradiction h
def wl (g : Nat → Int32) (s : Nat) : Nat := if g (s * 5 + 1) = nI 33 then 5 else 4
def tl (n b : Nat) (g : Nat → Int32) (s : Nat) : Nat := if s = n then b else wl g s
def tAt (n b : Nat) (g : Nat → Int32) (x y : Int32) : Int32 := if 0 ≤ x.toInt ∧ x.toInt ≤ n ∧ x.toInt < 14 ∧ 0 ≤ y.toInt ∧ y.toInt < tl n b g x.toNatClampNeg then g (x.toNatClampNeg * 5 + y.toNatClampNeg) else -1
theorem tAt_in {n b s j : Nat} {g : Nat → Int32} (hs : s ≤ n) (h14 : s < 14) (hj : j < tl n b g s) (hj5 : j < 5) : g (s * 5 + j) = tAt n b g (nI s) (nI j) := by
  unfold tAt
  rw [nI_toInt (by omega), nI_toInt (by omega), nI_clamp (by omega), nI_clamp (by omega), if_pos]
  omega
theorem tAt_out {n b : Nat} {g : Nat → Int32} {x y : Int32} (h : x.toInt < 0 ∨ (n : Int) < x.toInt ∨ 14 ≤ x.toInt ∨ y.toInt < 0) : (-1 : Int32) = tAt n b g x y := by
  unfold tAt
  rw [if_neg]
  omega
theorem tAt_out2 {n b s : Nat} {g : Nat → Int32} {y : Int32} (hs : s < 14) (h : ¬ y < nI (tl n b g s)) (h5 : tl n b g s ≤ 5) : (-1 : Int32) = tAt n b g (nI s) y := by
  unfold tAt
  rw [nI_clamp (by omega), if_neg]
  rw [i_lt, nI_toInt (by omega)] at h
  omega
theorem wl_5 (g : Nat → Int32) (s : Nat) : wl g s ≤ 5 := by unfold wl; split <;> omega
theorem tl_5 {n b : Nat} (hb : b ≤ 5) (g : Nat → Int32) (s : Nat) : tl n b g s ≤ 5 := by have := wl_5 g s; unfold tl; split <;> omega
def pb (x : Int32) : Int32 := if isP x then nI 1 <<< (x &&& 31) else nI 0
def nmd (g : Nat → Int32) (s : Nat) : Int32 := if g (s * 5 + 1) = nI 33 then pb (g (s * 5)) ||| pb (g (s * 5 + 3)) else pb (g (s * 5))
def cdl (g : Nat → Int32) (so : Int32) : Nat → Int32
  | 0 => nI 0
  | k + 1 => if nmd g k &&& so = 0 then cdl g so k else nmd g k &&& so
def cnd (g : Nat → Int32) (n : Nat) (x : Int32) : Int32 := if isP x then nI 1 <<< (x &&& 31) else cdl g (if x = nI 40 then nI 85 else nI 170) n
def anm (g : Nat → Int32) : Nat → Int32 → Int32
  | 0, a => a
  | k + 1, a => anm g k a ||| nmd g k
def apl (g : Nat → Int32) : Nat → Int32 → Int32
  | 0, a => a
  | k + 1, a => if g (k * 5 + 1) = nI 30 then apl g k a ||| nI 1 <<< ((g (k * 5 + 2) - nI 20) &&& 31) else apl g k a
def bcF (x0 : Int32) : Int32 :=
  let us := fun (x : Int32) (k : Int32) => (x.toUInt32 >>> (k.toUInt32 &&& Int32.toUInt32 31)).toInt32
  let x1 := x0 - (us x0 (nI 1) &&& 1431655765)
  let x2 := (x1 &&& 858993459) + (us x1 (nI 2) &&& 858993459)
  let x3 := (x2 + us x2 (nI 4)) &&& 252645135
  let x4 := x3 + us x3 (nI 8)
  let x5 := x4 + us x4 (nI 16)
  x5 &&& nI 63
def prq (q : Int32) : Int32 := if q = 0 then -1 else bcF ((q &&& -q) - nI 1)
def prs (m c : Int32) (t : Nat) : Int32 := if (c >>> (nI t &&& 31)) &&& nI 1 = 0 then prq m else prq (m &&& (m - nI 1))
set_option maxRecDepth 100000 in
set_option maxHeartbeats 4000000 in
theorem kX2_fits {G : Cx} {S : Sx} (hN : 80 ≤ gN G) {x : Int32} {n b : Nat} (hn : S 1 2 = nI n) (hb : S 1 3 = nI b) (hn14 : n ≤ 14) (hb5 : b < 5) : CT G (2) yX2_fits cX2_fits 2 (some .boolean) [ra G 1, .int x] S (fitF n b (S 2) x) (S) := by
  refine CT_of (by decide) (Nat.le_of_ble_eq_true rfl) (by intro v hv; simp only [List.mem_cons, List.not_mem_nil, or_false] at hv; rcases hv with rfl | rfl <;> rfl) (fun F X E => ?_)
  have hR := RI_R E
  refine V_aload_n X dX2_fits_0 rfl ?_
  refine V_geti X flX2_18 (ltN (by decide) hN) rfl rfl dX2_fits_1 ?_
  refine V_top (nI (n)) (by first | exact hn | simp [st, upd, hn]) ?_
  refine V_bipush X (nI 14) dX2_fits_4 (by decide) ?_
  refine V_cN_lt X 11 (by omega) (by omega) dX2_fits_6 (by decide) (fun h6 => ?_) (fun h6 => ?_)
  · refine V_aload_n X dX2_fits_11 rfl ?_
    refine V_geti X flX2_22 (ltN (by decide) hN) rfl rfl dX2_fits_12 ?_
    refine V_top (nI (b)) (by first | exact hb | simp [st, upd, hb]) ?_
    rcases (show b = 0 ∨ b = 1 ∨ b = 2 ∨ b = 3 ∨ 3 < b by omega) with rfl | rfl | rfl | rfl | h15
    · refine V_tabIn X 29 44 dX2_fits_15 (by decide) (by decide) rfl (by decide) ?_
      refine V_iload_n X dX2_fits_44 rfl ?_
      refine V_cti X (kX5_isWho ) cwX2_25 rfl (rm_ok hR (by decide) (by decide)) (Nat.le_of_ble_eq_true rfl) dX2_fits_45 ?_
      exact V_zret X E dX2_fits_48 (by first | exact Or.inl rfl | exact Or.inr rfl | exact bi_01 _) (fitF_0 (by omega)) rfl
    · refine V_tabIn X 34 49 dX2_fits_15 (by decide) (by decide) rfl (by decide) ?_
      refine V_iload_n X dX2_fits_49 rfl ?_
      refine V_bipush X (nI 30) dX2_fits_50 (by decide) ?_
      refine V_icmp_lt X 65 dX2_fits_52 (by decide) (fun h52 => ?_) (fun h52 => ?_)
      · refine V_iconst X (nI 0) dX2_fits_65 (by decide) ?_
        exact V_zret X E dX2_fits_66 (by first | exact Or.inl rfl | exact Or.inr rfl | exact bi_01 _) (Eq.trans (by first | exact bi_t ⟨by simpa using h52, by simpa using h58⟩ | exact bi_f (fun q => h58 (by simpa using q.2)) | exact bi_f (fun q => absurd h52 (by simpa using q.1)) | exact bi_f (fun q => absurd h58 (by simpa using q.2))) (fitF_1 (by omega))) rfl
      · refine V_iload_n X dX2_fits_55 rfl ?_
        refine V_bipush X (nI 33) dX2_fits_56 (by decide) ?_
        refine V_icmp_gt X 65 dX2_fits_58 (by decide) (fun h58 => ?_) (fun h58 => ?_)
        · refine V_iconst X (nI 0) dX2_fits_65 (by decide) ?_
          exact V_zret X E dX2_fits_66 (by first | exact Or.inl rfl | exact Or.inr rfl | exact bi_01 _) (Eq.trans (by first | exact bi_t ⟨by simpa using h52, by simpa using h58⟩ | exact bi_f (fun q => h58 (by simpa using q.2)) | exact bi_f (fun q => absurd h52 (by simpa using q.1)) | exact bi_f (fun q => absurd h58 (by simpa using q.2))) (fitF_1 (by omega))) rfl
        · refine V_iconst X (nI 1) dX2_fits_61 (by decide) ?_
          refine V_goto X 66 dX2_fits_62 (by decide) ?_
          exact V_zret X E dX2_fits_66 (by first | exact Or.inl rfl | exact Or.inr rfl | exact bi_01 _) (Eq.trans (by first | exact bi_t ⟨by simpa using h52, by simpa using h58⟩ | exact bi_f (fun q => h58 (by simpa using q.2)) | exact bi_f (fun q => absurd h52 (by simpa using q.1)) | exact bi_f (fun q => absurd h58 (by simpa using q.2))) (fitF_1 (by omega))) rfl
    · refine V_tabIn X 52 67 dX2_fits_15 (by decide) (by decide) rfl (by decide) ?_
      refine V_aload_n X dX2_fits_67 rfl ?_
      refine V_aload_n X dX2_fits_68 rfl ?_
      refine V_geti X flX2_18 (ltN (by decide) hN) rfl rfl dX2_fits_69 ?_
      refine V_top (nI (n)) (by first | exact hn | simp [st, upd, hn]) ?_
      refine V_cvi X (ltN (by decide) hN) rfl rfl rfl (kX2_verb hN (by omega)) cwX2_29 rfl (rm_ok hR (by decide) (by decide)) (Nat.le_of_ble_eq_true rfl) dX2_fits_72 ?_
      refine V_bipush X (nI 30) dX2_fits_75 (by decide) ?_
      refine V_icmp_ne X 87 dX2_fits_77 (by decide) (fun h77 => ?_) (fun h77 => ?_)
      · refine V_iload_n X dX2_fits_87 rfl ?_
        refine V_cti X (kX5_isThing ) cwX2_36 rfl (rm_ok hR (by decide) (by decide)) (Nat.le_of_ble_eq_true rfl) dX2_fits_88 ?_
        exact V_zret X E dX2_fits_91 (by first | exact Or.inl rfl | exact Or.inr rfl | exact bi_01 _) (by first | exact fitF_2 (by omega) (ts_nn h77) | exact fitF_2n (by omega) h77) rfl
      · refine V_iload_n X dX2_fits_80 rfl ?_
        refine V_cti X (kX5_isPlace ) cwX2_33 rfl (rm_ok hR (by decide) (by decide)) (Nat.le_of_ble_eq_true rfl) dX2_fits_81 ?_
        refine V_goto X 91 dX2_fits_84 (by decide) ?_
        exact V_zret X E dX2_fits_91 (by first | exact Or.inl rfl | exact Or.inr rfl | exact bi_01 _) (by first | exact fitF_2 (by omega) (ts_nn h77) | exact fitF_2n (by omega) h77) rfl
    · refine V_tabIn X 77 92 dX2_fits_15 (by decide) (by decide) rfl (by decide) ?_
      refine V_aload_n X dX2_fits_92 rfl ?_
      refine V_aload_n X dX2_fits_93 rfl ?_
      refine V_geti X flX2_18 (ltN (by decide) hN) rfl rfl dX2_fits_94 ?_
      refine V_top (nI (n)) (by first | exact hn | simp [st, upd, hn]) ?_
      refine V_cvi X (ltN (by decide) hN) rfl rfl rfl (kX2_verb hN (by omega)) cwX2_29 rfl (rm_ok hR (by decide) (by decide)) (Nat.le_of_ble_eq_true rfl) dX2_fits_97 ?_
      refine V_bipush X (nI 33) dX2_fits_100 (by decide) ?_
      refine V_icmp_ne X 112 dX2_fits_102 (by decide) (fun h102 => ?_) (fun h102 => ?_)
      · refine V_iload_n X dX2_fits_112 rfl ?_
        refine V_bipush X (nI 50) dX2_fits_113 (by decide) ?_
        refine V_icmp_ne X 122 dX2_fits_115 (by decide) (fun h115 => ?_) (fun h115 => ?_)
        · refine V_iconst X (nI 0) dX2_fits_122 (by decide) ?_
          exact V_zret X E dX2_fits_123 (by first | exact Or.inl rfl | exact Or.inr rfl | exact bi_01 _) (by first | exact fitF_3 (by omega) (ts_nn h102) | exact Eq.trans (by first | exact bi_t (ts_nn h115) | exact bi_f h115) (fitF_3n (by omega) h102)) rfl
        · refine V_iconst X (nI 1) dX2_fits_118 (by decide) ?_
          refine V_goto X 123 dX2_fits_119 (by decide) ?_
          exact V_zret X E dX2_fits_123 (by first | exact Or.inl rfl | exact Or.inr rfl | exact bi_01 _) (by first | exact fitF_3 (by omega) (ts_nn h102) | exact Eq.trans (by first | exact bi_t (ts_nn h115) | exact bi_f h115) (fitF_3n (by omega) h102)) rfl
      · refine V_iload_n X dX2_fits_105 rfl ?_
        refine V_cti X (kX5_isWho ) cwX2_25 rfl (rm_ok hR (by decide) (by decide)) (Nat.le_of_ble_eq_true rfl) dX2_fits_106 ?_
        refine V_goto X 123 dX2_fits_109 (by decide) ?_
        exact V_zret X E dX2_fits_123 (by first | exact Or.inl rfl | exact Or.inr rfl | exact bi_01 _) (by first | exact fitF_3 (by omega) (ts_nn h102) | exact Eq.trans (by first | exact bi_t (ts_nn h115) | exact bi_f h115) (fitF_3n (by omega) h102)) rfl
    · refine V_tabOut X 124 dX2_fits_15 (Or.inr (by rw [nI_toInt (by omega)]; omega)) (by decide) ?_
      refine V_iload_n X dX2_fits_124 rfl ?_
      refine V_bipush X (nI 50) dX2_fits_125 (by decide) ?_
      refine V_icmp_ne X 134 dX2_fits_127 (by decide) (fun h127 => ?_) (fun h127 => ?_)
      · refine V_iconst X (nI 0) dX2_fits_134 (by decide) ?_
        exact V_zret X E dX2_fits_135 (by first | exact Or.inl rfl | exact Or.inr rfl | exact bi_01 _) (Eq.trans (by first | exact bi_t (ts_nn h127) | exact bi_f h127) (fitF_4 (by omega) (by omega))) rfl
      · refine V_iconst X (nI 1) dX2_fits_130 (by decide) ?_
        refine V_goto X 135 dX2_fits_131 (by decide) ?_
        exact V_zret X E dX2_fits_135 (by first | exact Or.inl rfl | exact Or.inr rfl | exact bi_01 _) (Eq.trans (by first | exact bi_t (ts_nn h127) | exact bi_f h127) (fitF_4 (by omega) (by omega))) rfl
  · refine V_iconst X (nI 0) dX2_fits_9 (by decide) ?_
    exact V_zret X E dX2_fits_10 (by first | exact Or.inl rfl | exact Or.inr rfl | exact bi_01 _) (fitF_14 (by omega)) rfl

set_option maxRecDepth 100000 in
set_option maxHeartbeats 4000000 in
theorem kX2_add {G : Cx} {S : Sx} (hN : 80 ≤ gN G) {x : Int32} {n b : Nat} (hn : S 1 2 = nI n) (hb : S 1 3 = nI b) (hn14 : n < 14) (hb5 : b < 5) : CV G (0) yX2_add cX2_add 2 [ra G 1, .int x] S (st (st S 2 (n * 5 + b) x) 1 3 (nI (b + 1))) := by
  refine CV_of (by decide) (Nat.le_of_ble_eq_true rfl) (by intro v hv; simp only [List.mem_cons, List.not_mem_nil, or_false] at hv; rcases hv with rfl | rfl <;> rfl) (fun F X E => ?_)
  have hR := RV_R E
  refine V_aload_n X dX2_add_0 rfl ?_
  refine V_geti X flX2_18 (ltN (by decide) hN) rfl rfl dX2_add_1 ?_
  refine V_top (nI (n)) (by first | exact hn | simp [st, upd, hn]) ?_
  refine V_bipush X (nI 14) dX2_add_4 (by decide) ?_
  refine V_cN_ge X 44 (by omega) (by omega) dX2_add_6 (by decide) (fun h6 => ?_) (fun h6 => ?_)
  · omega
  · refine V_aload_n X dX2_add_9 rfl ?_
    refine V_geti X flX2_22 (ltN (by decide) hN) rfl rfl dX2_add_10 ?_
    refine V_top (nI (b)) (by first | exact hb | simp [st, upd, hb]) ?_
    refine V_iconst X (nI 5) dX2_add_13 (by decide) ?_
    refine V_cN_ge X 44 (by omega) (by omega) dX2_add_14 (by decide) (fun h14 => ?_) (fun h14 => ?_)
    · omega
    · refine V_aload_n X dX2_add_17 rfl ?_
      refine V_getr X flX2_9 (ltN (by decide) hN) rfl rfl dX2_add_18 ?_
      refine V_aload_n X dX2_add_21 rfl ?_
      refine V_geti X flX2_18 (ltN (by decide) hN) rfl rfl dX2_add_22 ?_
      refine V_top (nI (n)) (by first | exact hn | simp [st, upd, hn]) ?_
      refine V_iconst X (nI 5) dX2_add_25 (by decide) ?_
      refine V_mulN X dX2_add_26 ?_
      refine V_aload_n X dX2_add_27 rfl ?_
      refine V_geti X flX2_22 (ltN (by decide) hN) rfl rfl dX2_add_28 ?_
      refine V_top (nI (b)) (by first | exact hb | simp [st, upd, hb]) ?_
      refine V_addN X dX2_add_31 ?_
      refine V_iload_n X dX2_add_32 rfl ?_
      refine V_iastN X (ltN (by decide) hN) rfl (by omega) (by decide) dX2_add_33 ?_
      refine V_aload_n X dX2_add_34 rfl ?_
      refine V_dupr X dX2_add_35 ?_
      refine V_geti X flX2_22 (ltN (by decide) hN) rfl rfl dX2_add_36 ?_
      refine V_top (nI (b)) (by first | exact hb | simp [st, upd, hb]) ?_
      refine V_iconst X (nI 1) dX2_add_39 (by decide) ?_
      refine V_addN X dX2_add_40 ?_
      refine V_puti X fpX2_22 (ltN (by decide) hN) rfl rfl dX2_add_41 ?_
      exact V_vret X E dX2_add_44 rfl

set_option maxRecDepth 100000 in
set_option maxHeartbeats 4000000 in
theorem kX2_forgetBegun {G : Cx} {S : Sx} (hN : 80 ≤ gN G)  : CV G (0) yX2_forgetBegun cX2_forgetBegun 1 [ra G 1] S (st S 1 3 (nI 0)) := by
  refine CV_of (by decide) (Nat.le_of_ble_eq_true rfl) (by intro v hv; simp only [List.mem_cons, List.not_mem_nil, or_false] at hv; rcases hv with rfl <;> rfl) (fun F X E => ?_)
  have hR := RV_R E
  refine V_aload_n X dX2_forgetBegun_0 rfl ?_
  refine V_iconst X (nI 0) dX2_forgetBegun_1 (by decide) ?_
  refine V_puti X fpX2_22 (ltN (by decide) hN) rfl rfl dX2_forgetBegun_2 ?_
  exact V_vret X E dX2_forgetBegun_5 rfl

set_option maxRecDepth 100000 in
set_option maxHeartbeats 4000000 in
theorem kX2_closeBegun {G : Cx} {S : Sx} (hN : 80 ≤ gN G) {n : Nat} (hn : S 1 2 = nI n) : CV G (0) yX2_closeBegun cX2_closeBegun 1 [ra G 1] S (st (st S 1 3 (nI 0)) 1 2 (nI (n + 1))) := by
  refine CV_of (by decide) (Nat.le_of_ble_eq_true rfl) (by intro v hv; simp only [List.mem_cons, List.not_mem_nil, or_false] at hv; rcases hv with rfl <;> rfl) (fun F X E => ?_)
  have hR := RV_R E
  refine V_aload_n X dX2_closeBegun_0 rfl ?_
  refine V_iconst X (nI 0) dX2_closeBegun_1 (by decide) ?_
  refine V_puti X fpX2_22 (ltN (by decide) hN) rfl rfl dX2_closeBegun_2 ?_
  refine V_aload_n X dX2_closeBegun_5 rfl ?_
  refine V_dupr X dX2_closeBegun_6 ?_
  refine V_geti X flX2_18 (ltN (by decide) hN) rfl rfl dX2_closeBegun_7 ?_
  refine V_top (nI (n)) (by first | exact hn | simp [st, upd, hn]) ?_
  refine V_iconst X (nI 1) dX2_closeBegun_10 (by decide) ?_
  refine V_addN X dX2_closeBegun_11 ?_
  refine V_puti X fpX2_18 (ltN (by decide) hN) rfl rfl dX2_closeBegun_12 ?_
  exact V_vret X E dX2_closeBegun_15 rfl

set_option maxRecDepth 100000 in
set_option maxHeartbeats 4000000 in
theorem kX2_forgetLatest {G : Cx} {S : Sx} (hN : 80 ≤ gN G) {n b : Nat} (hn : S 1 2 = nI n) (hb : S 1 3 = nI b) (hn14 : n ≤ 14) (hb5 : b < 5) : CT G (0) yX2_forgetLatest cX2_forgetLatest 1 (some .boolean) [ra G 1] S (bi (0 < b ∨ 0 < n)) (if 0 < b then st S 1 3 (nI 0) else if 0 < n then st S 1 2 (nI (n - 1)) else S) := by
  refine CT_of (by decide) (Nat.le_of_ble_eq_true rfl) (by intro v hv; simp only [List.mem_cons, List.not_mem_nil, or_false] at hv; rcases hv with rfl <;> rfl) (fun F X E => ?_)
  have hR := RI_R E
  refine V_aload_n X dX2_forgetLatest_0 rfl ?_
  refine V_geti X flX2_22 (ltN (by decide) hN) rfl rfl dX2_forgetLatest_1 ?_
  refine V_top (nI (b)) (by first | exact hb | simp [st, upd, hb]) ?_
  refine V_iN_le X 14 (by omega) dX2_forgetLatest_4 (by decide) (fun h4 => ?_) (fun h4 => ?_)
  · refine V_aload_n X dX2_forgetLatest_14 rfl ?_
    refine V_geti X flX2_18 (ltN (by decide) hN) rfl rfl dX2_forgetLatest_15 ?_
    refine V_top (nI (n)) (by first | exact hn | simp [st, upd, hn]) ?_
    refine V_iN_ne X 23 (by omega) dX2_forgetLatest_18 (by decide) (fun h18 => ?_) (fun h18 => ?_)
    · refine V_aload_n X dX2_forgetLatest_23 rfl ?_
      refine V_dupr X dX2_forgetLatest_24 ?_
      refine V_geti X flX2_18 (ltN (by decide) hN) rfl rfl dX2_forgetLatest_25 ?_
      refine V_top (nI (n)) (by first | exact hn | simp [st, upd, hn]) ?_
      refine V_iconst X (nI 1) dX2_forgetLatest_28 (by decide) ?_
      refine V_subN X dX2_forgetLatest_29 (by omega) ?_
      refine V_puti X fpX2_18 (ltN (by decide) hN) rfl rfl dX2_forgetLatest_30 ?_
      refine V_iconst X (nI 1) dX2_forgetLatest_33 (by decide) ?_
      exact V_zret X E dX2_forgetLatest_34 (by first | exact Or.inl rfl | exact Or.inr rfl) (by first | (refine bi_t ?_; omega) | (refine bi_f ?_; omega)) (by first | rw [if_pos (by omega)] | rw [if_neg (by omega), if_pos (by omega)] | rw [if_neg (by omega), if_neg (by omega)])
    · refine V_iconst X (nI 0) dX2_forgetLatest_21 (by decide) ?_
      exact V_zret X E dX2_forgetLatest_22 (by first | exact Or.inl rfl | exact Or.inr rfl) (by first | (refine bi_t ?_; omega) | (refine bi_f ?_; omega)) (by first | rw [if_pos (by omega)] | rw [if_neg (by omega), if_pos (by omega)] | rw [if_neg (by omega), if_neg (by omega)])
  · refine V_aload_n X dX2_forgetLatest_7 rfl ?_
    refine V_iconst X (nI 0) dX2_forgetLatest_8 (by decide) ?_
    refine V_puti X fpX2_22 (ltN (by decide) hN) rfl rfl dX2_forgetLatest_9 ?_
    refine V_iconst X (nI 1) dX2_forgetLatest_12 (by decide) ?_
    exact V_zret X E dX2_forgetLatest_13 (by first | exact Or.inl rfl | exact Or.inr rfl) (by first | (refine bi_t ?_; omega) | (refine bi_f ?_; omega)) (by first | rw [if_pos (by omega)] | rw [if_neg (by omega), if_pos (by omega)] | rw [if_neg (by omega), if_neg (by omega)])

set_option maxRecDepth 100000 in
set_option maxHeartbeats 4000000 in
theorem kX2_wholeLength {G : Cx} {S : Sx} (hN : 80 ≤ gN G) {s : Nat} (hs : s < 14) : CT G (1) yX2_wholeLength cX2_wholeLength 2 (some .int) [ra G 1, .int (nI s)] S (nI (wl (S 2) s)) (S) := by
  refine CT_of (by decide) (Nat.le_of_ble_eq_true rfl) (by intro v hv; simp only [List.mem_cons, List.not_mem_nil, or_false] at hv; rcases hv with rfl | rfl <;> rfl) (fun F X E => ?_)
  have hR := RI_R E
  refine V_aload_n X dX2_wholeLength_0 rfl ?_
  refine V_iload_n X dX2_wholeLength_1 rfl ?_
  refine V_cvi X (ltN (by decide) hN) rfl rfl rfl (kX2_verb hN (by omega)) cwX2_29 rfl (rm_ok hR (by decide) (by decide)) (Nat.le_of_ble_eq_true rfl) dX2_wholeLength_2 ?_
  refine V_bipush X (nI 33) dX2_wholeLength_5 (by decide) ?_
  refine V_icmp_ne X 14 dX2_wholeLength_7 (by decide) (fun h7 => ?_) (fun h7 => ?_)
  · refine V_iconst X (nI 4) dX2_wholeLength_14 (by decide) ?_
    exact V_iret X E dX2_wholeLength_15 (by unfold wl; first | exact congrArg nI (if_pos (ts_nn h7)).symm | exact congrArg nI (if_neg h7).symm) rfl
  · refine V_iconst X (nI 5) dX2_wholeLength_10 (by decide) ?_
    refine V_goto X 15 dX2_wholeLength_11 (by decide) ?_
    exact V_iret X E dX2_wholeLength_15 (by unfold wl; first | exact congrArg nI (if_pos (ts_nn h7)).symm | exact congrArg nI (if_neg h7).symm) rfl

set_option maxRecDepth 100000 in
set_option maxHeartbeats 4000000 in
theorem kX2_signAt {G : Cx} {S : Sx} (hN : 80 ≤ gN G) {x y : Int32} {n b : Nat} (hn : S 1 2 = nI n) (hb : S 1 3 = nI b) (hn14 : n ≤ 14) (hb5 : b < 5) : CT G (2) yX2_signAt cX2_signAt 4 (some .int) [ra G 1, .int x, .int y] S (tAt n b (S 2) x y) (S) := by
  refine CT_of (by decide) (Nat.le_of_ble_eq_true rfl) (by intro v hv; simp only [List.mem_cons, List.not_mem_nil, or_false] at hv; rcases hv with rfl | rfl | rfl <;> rfl) (fun F X E => ?_)
  have hR := RI_R E
  refine V_iload_n X dX2_signAt_0 rfl ?_
  refine V_if_lt X 18 dX2_signAt_1 (by decide) (fun h1 => ?_) (fun h1 => ?_)
  · refine V_iconst X (-1) dX2_signAt_18 (by decide) ?_
    exact V_iret X E dX2_signAt_19 (tAt_out (Or.inl (lt0 h1))) rfl
  · refine V_iload_n X dX2_signAt_4 rfl ?_
    refine V_aload_n X dX2_signAt_5 rfl ?_
    refine V_geti X flX2_18 (ltN (by decide) hN) rfl rfl dX2_signAt_6 ?_
    refine V_top (nI (n)) (by first | exact hn | simp [st, upd, hn]) ?_
    refine V_icmp_gt X 18 dX2_signAt_9 (by decide) (fun h9 => ?_) (fun h9 => ?_)
    · refine V_iconst X (-1) dX2_signAt_18 (by decide) ?_
      exact V_iret X E dX2_signAt_19 (tAt_out (Or.inr (Or.inl (gtk (by omega) h9)))) rfl
    · refine V_iload_n X dX2_signAt_12 rfl ?_
      refine V_bipush X (nI 14) dX2_signAt_13 (by decide) ?_
      refine V_icmp_lt X 20 dX2_signAt_15 (by decide) (fun h15 => ?_) (fun h15 => ?_)
      · obtain ⟨s, hs, rfl⟩ := nb h1 h15 (by decide)
        have h9 : s ≤ n := Nat.le_of_not_lt (fun z => h9 ((nI_ltI (by omega) (by omega)).mpr z))
        refine V_iload_n X dX2_signAt_20 rfl ?_
        refine V_aload_n X dX2_signAt_21 rfl ?_
        refine V_geti X flX2_18 (ltN (by decide) hN) rfl rfl dX2_signAt_22 ?_
        refine V_top (nI (n)) (by first | exact hn | simp [st, upd, hn]) ?_
        refine V_cN_ne X 35 (by omega) (by omega) dX2_signAt_25 (by decide) (fun h25 => ?_) (fun h25 => ?_)
        · refine V_aload_n X dX2_signAt_35 rfl ?_
          refine V_iload_n X dX2_signAt_36 rfl ?_
          refine V_cvi X (ltN (by decide) hN) rfl rfl rfl (kX2_wholeLength hN (by omega)) cwX2_39 rfl (rm_ok hR (by decide) (by decide)) (Nat.le_of_ble_eq_true rfl) dX2_signAt_37 ?_
          refine V_istore_n X dX2_signAt_40 (by rw [hR.2]; decide) ?_
          refine V_iload_n X dX2_signAt_41 rfl ?_
          refine V_if_lt X 50 dX2_signAt_42 (by decide) (fun h42 => ?_) (fun h42 => ?_)
          · refine V_iconst X (-1) dX2_signAt_50 (by decide) ?_
            refine V_goto X 64 dX2_signAt_51 (by decide) ?_
            exact V_iret X E dX2_signAt_64 (tAt_out (Or.inr (Or.inr (Or.inr (lt0 h42))))) rfl
          · refine V_iload_n X dX2_signAt_45 rfl ?_
            refine V_iload_n X dX2_signAt_46 rfl ?_
            refine V_icmp_lt X 54 dX2_signAt_47 (by decide) (fun h47 => ?_) (fun h47 => ?_)
            · obtain ⟨j, hj, rfl⟩ := nb h42 h47 (by first | omega | (have := wl_5 (S 2) s; omega))
              have hj5 : j < 5 := by first | omega | (have := wl_5 (S 2) s; omega)
              refine V_aload_n X dX2_signAt_54 rfl ?_
              refine V_getr X flX2_9 (ltN (by decide) hN) rfl rfl dX2_signAt_55 ?_
              refine V_iload_n X dX2_signAt_58 rfl ?_
              refine V_iconst X (nI 5) dX2_signAt_59 (by decide) ?_
              refine V_mulN X dX2_signAt_60 ?_
              refine V_iload_n X dX2_signAt_61 rfl ?_
              refine V_addN X dX2_signAt_62 ?_
              refine V_ialdN X (ltN (by decide) hN) rfl (by omega) (by decide) dX2_signAt_63 ?_
              exact V_iret X E dX2_signAt_64 (by first | exact tAt_out2 hs (by unfold tl; first | exact h47 | (rw [if_pos (by omega)]; exact h47) | (rw [if_neg (by omega)]; exact h47)) (tl_5 (by omega) _ _) | exact tAt_in h9 hs (by unfold tl; first | (rw [if_pos (by omega)]; exact hj) | (rw [if_neg (by omega)]; exact hj)) hj5) rfl
            · refine V_iconst X (-1) dX2_signAt_50 (by decide) ?_
              refine V_goto X 64 dX2_signAt_51 (by decide) ?_
              exact V_iret X E dX2_signAt_64 (by first | exact tAt_out2 hs (by unfold tl; first | exact h47 | (rw [if_pos (by omega)]; exact h47) | (rw [if_neg (by omega)]; exact h47)) (tl_5 (by omega) _ _) | exact tAt_in h9 hs (by unfold tl; first | (rw [if_pos (by omega)]; exact hj) | (rw [if_neg (by omega)]; exact hj)) hj5) rfl
        · refine V_aload_n X dX2_signAt_28 rfl ?_
          refine V_geti X flX2_22 (ltN (by decide) hN) rfl rfl dX2_signAt_29 ?_
          refine V_top (nI (b)) (by first | exact hb | simp [st, upd, hb]) ?_
          refine V_goto X 40 dX2_signAt_32 (by decide) ?_
          refine V_istore_n X dX2_signAt_40 (by rw [hR.2]; decide) ?_
          refine V_iload_n X dX2_signAt_41 rfl ?_
          refine V_if_lt X 50 dX2_signAt_42 (by decide) (fun h42 => ?_) (fun h42 => ?_)
          · refine V_iconst X (-1) dX2_signAt_50 (by decide) ?_
            refine V_goto X 64 dX2_signAt_51 (by decide) ?_
            exact V_iret X E dX2_signAt_64 (tAt_out (Or.inr (Or.inr (Or.inr (lt0 h42))))) rfl
          · refine V_iload_n X dX2_signAt_45 rfl ?_
            refine V_iload_n X dX2_signAt_46 rfl ?_
            refine V_icmp_lt X 54 dX2_signAt_47 (by decide) (fun h47 => ?_) (fun h47 => ?_)
            · obtain ⟨j, hj, rfl⟩ := nb h42 h47 (by first | omega | (have := wl_5 (S 2) s; omega))
              have hj5 : j < 5 := by first | omega | (have := wl_5 (S 2) s; omega)
              refine V_aload_n X dX2_signAt_54 rfl ?_
              refine V_getr X flX2_9 (ltN (by decide) hN) rfl rfl dX2_signAt_55 ?_
              refine V_iload_n X dX2_signAt_58 rfl ?_
              refine V_iconst X (nI 5) dX2_signAt_59 (by decide) ?_
              refine V_mulN X dX2_signAt_60 ?_
              refine V_iload_n X dX2_signAt_61 rfl ?_
              refine V_addN X dX2_signAt_62 ?_
              refine V_ialdN X (ltN (by decide) hN) rfl (by omega) (by decide) dX2_signAt_63 ?_
              exact V_iret X E dX2_signAt_64 (by first | exact tAt_out2 hs (by unfold tl; first | exact h47 | (rw [if_pos (by omega)]; exact h47) | (rw [if_neg (by omega)]; exact h47)) (tl_5 (by omega) _ _) | exact tAt_in h9 hs (by unfold tl; first | (rw [if_pos (by omega)]; exact hj) | (rw [if_neg (by omega)]; exact hj)) hj5) rfl
            · refine V_iconst X (-1) dX2_signAt_50 (by decide) ?_
              refine V_goto X 64 dX2_signAt_51 (by decide) ?_
              exact V_iret X E dX2_signAt_64 (by first | exact tAt_out2 hs (by unfold tl; first | exact h47 | (rw [if_pos (by omega)]; exact h47) | (rw [if_neg (by omega)]; exact h47)) (tl_5 (by omega) _ _) | exact tAt_in h9 hs (by unfold tl; first | (rw [if_pos (by omega)]; exact hj) | (rw [if_neg (by omega)]; exact hj)) hj5) rfl
      · refine V_iconst X (-1) dX2_signAt_18 (by decide) ?_
        exact V_iret X E dX2_signAt_19 (tAt_out (Or.inr (Or.inr (Or.inl (nltk (by decide) h15))))) rfl

def dv (k : Nat) : Int32 := nI k - nI 1
theorem dv_0 : dv 0 < 0 := by decide
theorem dv_s (k : Nat) : dv (k + 1) = nI k := nI_pred k
theorem dv_m (k : Nat) : nI k + Int32.ofInt (-1) = dv k := by
  cases k with
  | zero => decide
  | succ k => rw [dv_s]; exact pk_m1 k
set_option maxRecDepth 100000 in
set_option maxHeartbeats 4000000 in
theorem kX2_personBit {G : Cx} {S : Sx}  {x : Int32} : CT G (1) yX2_personBit cX2_personBit 1 (some .int) [.int x] S (pb x) (S) := by
  refine CT_of (by decide) (Nat.le_of_ble_eq_true rfl) (by intro v hv; simp only [List.mem_cons, List.not_mem_nil, or_false] at hv; rcases hv with rfl <;> rfl) (fun F X E => ?_)
  have hR := RI_R E
  refine V_iload_n X dX2_personBit_0 rfl ?_
  refine V_cti X (kX5_isPerson ) cwX2_45 rfl (rm_ok hR (by decide) (by decide)) (Nat.le_of_ble_eq_true rfl) dX2_personBit_1 ?_
  refine V_if_eq X 13 dX2_personBit_4 (by decide) (fun h4 => ?_) (fun h4 => ?_)
  · refine V_iconst X (nI 0) dX2_personBit_13 (by decide) ?_
    exact V_iret X E dX2_personBit_14 (by unfold pb; first | exact (if_pos (bi_ne.mp h4)).symm | exact (if_neg (bi_eq.mp h4)).symm) rfl
  · refine V_iconst X (nI 1) dX2_personBit_7 (by decide) ?_
    refine V_iload_n X dX2_personBit_8 rfl ?_
    refine V_ishl X dX2_personBit_9 ?_
    refine V_goto X 14 dX2_personBit_10 (by decide) ?_
    exact V_iret X E dX2_personBit_14 (by unfold pb; first | exact (if_pos (bi_ne.mp h4)).symm | exact (if_neg (bi_eq.mp h4)).symm) rfl

set_option maxRecDepth 100000 in
set_option maxHeartbeats 4000000 in
theorem kX2_named {G : Cx} {S : Sx} (hN : 80 ≤ gN G) {s : Nat} (hs : s < 14) : CT G (2) yX2_named cX2_named 4 (some .int) [ra G 1, .int (nI s)] S (nmd (S 2) s) (S) := by
  refine CT_of (by decide) (Nat.le_of_ble_eq_true rfl) (by intro v hv; simp only [List.mem_cons, List.not_mem_nil, or_false] at hv; rcases hv with rfl | rfl <;> rfl) (fun F X E => ?_)
  have hR := RI_R E
  refine V_iload_n X dX2_named_0 rfl ?_
  refine V_iconst X (nI 5) dX2_named_1 (by decide) ?_
  refine V_mulN X dX2_named_2 ?_
  refine V_istore_n X dX2_named_3 (by rw [hR.2]; decide) ?_
  refine V_aload_n X dX2_named_4 rfl ?_
  refine V_getr X flX2_9 (ltN (by decide) hN) rfl rfl dX2_named_5 ?_
  refine V_iload_n X dX2_named_8 rfl ?_
  refine V_ialdN X (ltN (by decide) hN) rfl (by omega) (by decide) dX2_named_9 ?_
  refine V_csi X (kX2_personBit ) cwX2_51 rfl (rm_ok hR (by decide) (by decide)) (Nat.le_of_ble_eq_true rfl) dX2_named_10 ?_
  refine V_istore_n X dX2_named_13 (by rw [hR.2]; decide) ?_
  refine V_aload_n X dX2_named_14 rfl ?_
  refine V_iload_n X dX2_named_15 rfl ?_
  refine V_cvi X (ltN (by decide) hN) rfl rfl rfl (kX2_verb hN (by omega)) cwX2_29 rfl (rm_ok hR (by decide) (by decide)) (Nat.le_of_ble_eq_true rfl) dX2_named_16 ?_
  refine V_bipush X (nI 33) dX2_named_19 (by decide) ?_
  refine V_icmp_ne X 40 dX2_named_21 (by decide) (fun h21 => ?_) (fun h21 => ?_)
  · refine V_iload_n X dX2_named_40 rfl ?_
    exact V_iret X E dX2_named_41 (by unfold nmd; first | exact (if_pos (ts_nn h21)).symm | exact (if_neg h21).symm) rfl
  · refine V_iload_n X dX2_named_24 rfl ?_
    refine V_aload_n X dX2_named_25 rfl ?_
    refine V_getr X flX2_9 (ltN (by decide) hN) rfl rfl dX2_named_26 ?_
    refine V_iload_n X dX2_named_29 rfl ?_
    refine V_iconst X (nI 3) dX2_named_30 (by decide) ?_
    refine V_addN X dX2_named_31 ?_
    refine V_ialdN X (ltN (by decide) hN) rfl (by omega) (by decide) dX2_named_32 ?_
    refine V_csi X (kX2_personBit ) cwX2_51 rfl (rm_ok hR (by decide) (by decide)) (Nat.le_of_ble_eq_true rfl) dX2_named_33 ?_
    refine V_ior X dX2_named_36 ?_
    refine V_goto X 41 dX2_named_37 (by decide) ?_
    exact V_iret X E dX2_named_41 (by unfold nmd; first | exact (if_pos (ts_nn h21)).symm | exact (if_neg h21).symm) rfl

set_option maxRecDepth 100000 in
set_option maxHeartbeats 4000000 in
theorem kX2_candidates {G : Cx} {S : Sx} (hN : 80 ≤ gN G) {x r : Int32} {n : Nat} (hn : S 1 2 = nI n) (hn14 : n ≤ 13) (hr : cnd (S 2) n x = r) : CT G (3) yX2_candidates cX2_candidates 4 (some .int) [ra G 1, .int x] S (r) (S) := by
  refine CT_of (by decide) (Nat.le_of_ble_eq_true rfl) (by intro v hv; simp only [List.mem_cons, List.not_mem_nil, or_false] at hv; rcases hv with rfl | rfl <;> rfl) (fun F X E => ?_)
  have hR := RI_R E
  have loop : ∀ (so : Int32) (k : Nat), k ≤ 13 → cdl (S 2) so k = r → V F G S 33 [some (ra G 1), some (.int x), some (.int so), some (.int (dv k))] [] := by
    intro so k
    induction k with
    | zero =>
      intro hk hr
      refine V_iload_n X dX2_candidates_33 rfl ?_
      refine V_if_lt X 61 dX2_candidates_34 (by decide) (fun h34 => ?_) (fun h34 => ?_)
      · refine V_iconst X (nI 0) dX2_candidates_61 (by decide) ?_
        exact V_iret X E dX2_candidates_62 hr rfl
      · exact absurd dv_0 h34
    | succ k ih =>
      intro hk hr
      rw [dv_s]
      refine V_iload_n X dX2_candidates_33 rfl ?_
      refine V_iN_lt X 61 (by omega) dX2_candidates_34 (by decide) ?_
      refine V_aload_n X dX2_candidates_37 rfl ?_
      refine V_iload_n X dX2_candidates_38 rfl ?_
      refine V_cvi X (ltN (by decide) hN) rfl rfl rfl (kX2_named hN (by omega)) cwX2_48 rfl (rm_ok hR (by decide) (by decide)) (Nat.le_of_ble_eq_true rfl) dX2_candidates_39 ?_
      refine V_iload_n X dX2_candidates_42 rfl ?_
      refine V_iand X dX2_candidates_43 ?_
      refine V_if_eq X 55 dX2_candidates_44 (by decide) (fun h44 => ?_) (fun h44 => ?_)
      · rw [cdl, if_pos h44] at hr
        refine V_iinc X (dv _) dX2_candidates_55 (by rw [hR.2]; decide) rfl (dv_m _) ?_
        refine V_goto X 33 dX2_candidates_58 (by decide) ?_
        exact ih (by omega) hr
      · rw [cdl, if_neg h44] at hr
        refine V_aload_n X dX2_candidates_47 rfl ?_
        refine V_iload_n X dX2_candidates_48 rfl ?_
        refine V_cvi X (ltN (by decide) hN) rfl rfl rfl (kX2_named hN (by omega)) cwX2_48 rfl (rm_ok hR (by decide) (by decide)) (Nat.le_of_ble_eq_true rfl) dX2_candidates_49 ?_
        refine V_iload_n X dX2_candidates_52 rfl ?_
        refine V_iand X dX2_candidates_53 ?_
        exact V_iret X E dX2_candidates_54 hr rfl
  refine V_iload_n X dX2_candidates_0 rfl ?_
  refine V_cti X (kX5_isPerson ) cwX2_45 rfl (rm_ok hR (by decide) (by decide)) (Nat.le_of_ble_eq_true rfl) dX2_candidates_1 ?_
  refine V_if_eq X 11 dX2_candidates_4 (by decide) (fun h4 => ?_) (fun h4 => ?_)
  · refine V_iload_n X dX2_candidates_11 rfl ?_
    refine V_bipush X (nI 40) dX2_candidates_12 (by decide) ?_
    refine V_icmp_ne X 22 dX2_candidates_14 (by decide) (fun h14 => ?_) (fun h14 => ?_)
    · refine V_sipush X (nI 170) dX2_candidates_22 (by decide) ?_
      refine V_istore_n X dX2_candidates_25 (by rw [hR.2]; decide) ?_
      refine V_aload_n X dX2_candidates_26 rfl ?_
      refine V_geti X flX2_18 (ltN (by decide) hN) rfl rfl dX2_candidates_27 ?_
      refine V_top (nI (n)) (by first | exact hn | simp [st, upd, hn]) ?_
      refine V_iconst X (nI 1) dX2_candidates_30 (by decide) ?_
      refine V_isub X dX2_candidates_31 ?_
      refine V_istore_n X dX2_candidates_32 (by rw [hR.2]; decide) ?_
      exact loop _ n hn14 (by unfold cnd at hr; rw [if_neg (bi_eq.mp h4)] at hr; first | (rw [if_pos (ts_nn h14)] at hr; exact hr) | (rw [if_neg h14] at hr; exact hr))
    · refine V_bipush X (nI 85) dX2_candidates_17 (by decide) ?_
      refine V_goto X 25 dX2_candidates_19 (by decide) ?_
      refine V_istore_n X dX2_candidates_25 (by rw [hR.2]; decide) ?_
      refine V_aload_n X dX2_candidates_26 rfl ?_
      refine V_geti X flX2_18 (ltN (by decide) hN) rfl rfl dX2_candidates_27 ?_
      refine V_top (nI (n)) (by first | exact hn | simp [st, upd, hn]) ?_
      refine V_iconst X (nI 1) dX2_candidates_30 (by decide) ?_
      refine V_isub X dX2_candidates_31 ?_
      refine V_istore_n X dX2_candidates_32 (by rw [hR.2]; decide) ?_
      exact loop _ n hn14 (by unfold cnd at hr; rw [if_neg (bi_eq.mp h4)] at hr; first | (rw [if_pos (ts_nn h14)] at hr; exact hr) | (rw [if_neg h14] at hr; exact hr))
  · refine V_iconst X (nI 1) dX2_candidates_7 (by decide) ?_
    refine V_iload_n X dX2_candidates_8 rfl ?_
    refine V_ishl X dX2_candidates_9 ?_
    exact V_iret X E dX2_candidates_10 (by unfold cnd at hr; rw [if_pos (Classical.byContradiction (fun z => h4 (bi_eq.mpr z)))] at hr; exact hr) rfl

set_option maxRecDepth 100000 in
set_option maxHeartbeats 4000000 in
theorem kX2_mayMean {G : Cx} {S : Sx} (hN : 80 ≤ gN G) {s w : Nat} (hs : s < 14) (hw : w < 2) : CT G (0) yX2_mayMean cX2_mayMean 3 (some .int) [ra G 1, .int (nI s), .int (nI w)] S (S 3 (2 * s + w)) (S) := by
  refine CT_of (by decide) (Nat.le_of_ble_eq_true rfl) (by intro v hv; simp only [List.mem_cons, List.not_mem_nil, or_false] at hv; rcases hv with rfl | rfl | rfl <;> rfl) (fun F X E => ?_)
  have hR := RI_R E
  refine V_aload_n X dX2_mayMean_0 rfl ?_
  refine V_getr X flX2_15 (ltN (by decide) hN) rfl rfl dX2_mayMean_1 ?_
  refine V_iconst X (nI 2) dX2_mayMean_4 (by decide) ?_
  refine V_iload_n X dX2_mayMean_5 rfl ?_
  refine V_mulN X dX2_mayMean_6 ?_
  refine V_iload_n X dX2_mayMean_7 rfl ?_
  refine V_addN X dX2_mayMean_8 ?_
  refine V_ialdN X (ltN (by decide) hN) rfl (by omega) (by decide) dX2_mayMean_9 ?_
  exact V_iret X E dX2_mayMean_10 rfl rfl

set_option maxRecDepth 100000 in
set_option maxHeartbeats 4000000 in
theorem kJ6_bitCount_0f7a4 {G : Cx} {S : Sx}  {x : Int32} : CT G (0) yJ6_bitCount_0f7a4 cJ6_bitCount_0f7a4 1 (some .int) [.int x] S (bcF x) (S) := by
  refine CT_of (by decide) (Nat.le_of_ble_eq_true rfl) (by intro v hv; simp only [List.mem_cons, List.not_mem_nil, or_false] at hv; rcases hv with rfl <;> rfl) (fun F X E => ?_)
  have hR := RI_R E
  refine V_iload_n X dJ6_bitCount_0f7a4_0 rfl ?_
  refine V_iload_n X dJ6_bitCount_0f7a4_1 rfl ?_
  refine V_iconst X (nI 1) dJ6_bitCount_0f7a4_2 (by decide) ?_
  refine V_iushr X dJ6_bitCount_0f7a4_3 ?_
  refine V_ldcw X kcJ6_265 dJ6_bitCount_0f7a4_4 ?_
  refine V_iand X dJ6_bitCount_0f7a4_7 ?_
  refine V_isub X dJ6_bitCount_0f7a4_8 ?_
  refine V_istore_n X dJ6_bitCount_0f7a4_9 (by rw [hR.2]; decide) ?_
  refine V_iload_n X dJ6_bitCount_0f7a4_10 rfl ?_
  refine V_ldcw X kcJ6_266 dJ6_bitCount_0f7a4_11 ?_
  refine V_iand X dJ6_bitCount_0f7a4_14 ?_
  refine V_iload_n X dJ6_bitCount_0f7a4_15 rfl ?_
  refine V_iconst X (nI 2) dJ6_bitCount_0f7a4_16 (by decide) ?_
  refine V_iushr X dJ6_bitCount_0f7a4_17 ?_
  refine V_ldcw X kcJ6_266 dJ6_bitCount_0f7a4_18 ?_
  refine V_iand X dJ6_bitCount_0f7a4_21 ?_
  refine V_iadd X dJ6_bitCount_0f7a4_22 ?_
  refine V_istore_n X dJ6_bitCount_0f7a4_23 (by rw [hR.2]; decide) ?_
  refine V_iload_n X dJ6_bitCount_0f7a4_24 rfl ?_
  refine V_iload_n X dJ6_bitCount_0f7a4_25 rfl ?_
  refine V_iconst X (nI 4) dJ6_bitCount_0f7a4_26 (by decide) ?_
  refine V_iushr X dJ6_bitCount_0f7a4_27 ?_
  refine V_iadd X dJ6_bitCount_0f7a4_28 ?_
  refine V_ldcw X kcJ6_267 dJ6_bitCount_0f7a4_29 ?_
  refine V_iand X dJ6_bitCount_0f7a4_32 ?_
  refine V_istore_n X dJ6_bitCount_0f7a4_33 (by rw [hR.2]; decide) ?_
  refine V_iload_n X dJ6_bitCount_0f7a4_34 rfl ?_
  refine V_iload_n X dJ6_bitCount_0f7a4_35 rfl ?_
  refine V_bipush X (nI 8) dJ6_bitCount_0f7a4_36 (by decide) ?_
  refine V_iushr X dJ6_bitCount_0f7a4_38 ?_
  refine V_iadd X dJ6_bitCount_0f7a4_39 ?_
  refine V_istore_n X dJ6_bitCount_0f7a4_40 (by rw [hR.2]; decide) ?_
  refine V_iload_n X dJ6_bitCount_0f7a4_41 rfl ?_
  refine V_iload_n X dJ6_bitCount_0f7a4_42 rfl ?_
  refine V_bipush X (nI 16) dJ6_bitCount_0f7a4_43 (by decide) ?_
  refine V_iushr X dJ6_bitCount_0f7a4_45 ?_
  refine V_iadd X dJ6_bitCount_0f7a4_46 ?_
  refine V_istore_n X dJ6_bitCount_0f7a4_47 (by rw [hR.2]; decide) ?_
  refine V_iload_n X dJ6_bitCount_0f7a4_48 rfl ?_
  refine V_bipush X (nI 63) dJ6_bitCount_0f7a4_49 (by decide) ?_
  refine V_iand X dJ6_bitCount_0f7a4_51 ?_
  exact V_iret X E dJ6_bitCount_0f7a4_52 rfl rfl

set_option maxRecDepth 100000 in
set_option maxHeartbeats 4000000 in
theorem kX2_person {G : Cx} {S : Sx} (hN : 80 ≤ gN G) {s w : Nat} {c : Int32} (hs : s < 14) (hw : w < 2) : CT G (1) yX2_person cX2_person 5 (some .int) [ra G 1, .int (nI s), .int (nI w), .int c] S (prs (S 3 (2 * s + w)) c (2 * s + w)) (S) := by
  refine CT_of (by decide) (Nat.le_of_ble_eq_true rfl) (by intro v hv; simp only [List.mem_cons, List.not_mem_nil, or_false] at hv; rcases hv with rfl | rfl | rfl | rfl <;> rfl) (fun F X E => ?_)
  have hR := RI_R E
  refine V_aload_n X dX2_person_0 rfl ?_
  refine V_iload_n X dX2_person_1 rfl ?_
  refine V_iload_n X dX2_person_2 rfl ?_
  refine V_cvi X (ltN (by decide) hN) rfl rfl rfl (kX2_mayMean hN (by omega) (by omega)) cwX2_57 rfl (rm_ok hR (by decide) (by decide)) (Nat.le_of_ble_eq_true rfl) dX2_person_3 ?_
  refine V_istore X dX2_person_6 (by rw [hR.2]; decide) ?_
  refine V_iload_n X dX2_person_8 rfl ?_
  refine V_iconst X (nI 2) dX2_person_9 (by decide) ?_
  refine V_iload_n X dX2_person_10 rfl ?_
  refine V_mulN X dX2_person_11 ?_
  refine V_iload_n X dX2_person_12 rfl ?_
  refine V_addN X dX2_person_13 ?_
  refine V_ishr X dX2_person_14 ?_
  refine V_iconst X (nI 1) dX2_person_15 (by decide) ?_
  refine V_iand X dX2_person_16 ?_
  refine V_if_eq X 29 dX2_person_17 (by decide) (fun h17 => ?_) (fun h17 => ?_)
  · refine V_iload X dX2_person_29 rfl ?_
    refine V_if_ne X 38 dX2_person_31 (by decide) (fun h31 => ?_) (fun h31 => ?_)
    · refine V_iload X dX2_person_38 rfl ?_
      refine V_iload X dX2_person_40 rfl ?_
      refine V_ineg X dX2_person_42 ?_
      refine V_iand X dX2_person_43 ?_
      refine V_iconst X (nI 1) dX2_person_44 (by decide) ?_
      refine V_isub X dX2_person_45 ?_
      refine V_csi X (kJ6_bitCount_0f7a4 ) cwX2_61 rfl (rm_ok hR (by decide) (by decide)) (Nat.le_of_ble_eq_true rfl) dX2_person_46 ?_
      exact V_iret X E dX2_person_49 (by unfold prs; (first | rw [if_pos h17] | rw [if_neg h17]); unfold prq; first | rw [if_pos (ts_nn h31)] | rw [if_neg h31]) rfl
    · refine V_iconst X (-1) dX2_person_34 (by decide) ?_
      refine V_goto X 49 dX2_person_35 (by decide) ?_
      exact V_iret X E dX2_person_49 (by unfold prs; (first | rw [if_pos h17] | rw [if_neg h17]); unfold prq; first | rw [if_pos (ts_nn h31)] | rw [if_neg h31]) rfl
  · refine V_iload X dX2_person_20 rfl ?_
    refine V_iload X dX2_person_22 rfl ?_
    refine V_iconst X (nI 1) dX2_person_24 (by decide) ?_
    refine V_isub X dX2_person_25 ?_
    refine V_iand X dX2_person_26 ?_
    refine V_istore X dX2_person_27 (by rw [hR.2]; decide) ?_
    refine V_iload X dX2_person_29 rfl ?_
    refine V_if_ne X 38 dX2_person_31 (by decide) (fun h31 => ?_) (fun h31 => ?_)
    · refine V_iload X dX2_person_38 rfl ?_
      refine V_iload X dX2_person_40 rfl ?_
      refine V_ineg X dX2_person_42 ?_
      refine V_iand X dX2_person_43 ?_
      refine V_iconst X (nI 1) dX2_person_44 (by decide) ?_
      refine V_isub X dX2_person_45 ?_
      refine V_csi X (kJ6_bitCount_0f7a4 ) cwX2_61 rfl (rm_ok hR (by decide) (by decide)) (Nat.le_of_ble_eq_true rfl) dX2_person_46 ?_
      exact V_iret X E dX2_person_49 (by unfold prs; (first | rw [if_pos h17] | rw [if_neg h17]); unfold prq; first | rw [if_pos (ts_nn h31)] | rw [if_neg h31]) rfl
    · refine V_iconst X (-1) dX2_person_34 (by decide) ?_
      refine V_goto X 49 dX2_person_35 (by decide) ?_
      exact V_iret X E dX2_person_49 (by unfold prs; (first | rw [if_pos h17] | rw [if_neg h17]); unfold prq; first | rw [if_pos (ts_nn h31)] | rw [if_neg h31]) rfl

set_option maxRecDepth 100000 in
set_option maxHeartbeats 4000000 in
theorem kX2_cast {G : Cx} {S : Sx} (hN : 80 ≤ gN G) {n : Nat} (hn : S 1 2 = nI n) (hn14 : n ≤ 13) : CV G (4) yX2_cast cX2_cast 3 [ra G 1] S (st (st S 3 (2 * n + 0) (cnd (S 2) n (S 2 (n * 5)))) 3 (2 * n + 1) (if S 2 (n * 5 + 1) = nI 33 then cnd (S 2) n (S 2 (n * 5 + 3)) else nI 0)) := by
  refine CV_of (by decide) (Nat.le_of_ble_eq_true rfl) (by intro v hv; simp only [List.mem_cons, List.not_mem_nil, or_false] at hv; rcases hv with rfl <;> rfl) (fun F X E => ?_)
  have hR := RV_R E
  refine V_aload_n X dX2_cast_0 rfl ?_
  refine V_geti X flX2_18 (ltN (by decide) hN) rfl rfl dX2_cast_1 ?_
  refine V_top (nI (n)) (by first | exact hn | simp [st, upd, hn]) ?_
  refine V_iconst X (nI 5) dX2_cast_4 (by decide) ?_
  refine V_mulN X dX2_cast_5 ?_
  refine V_istore_n X dX2_cast_6 (by rw [hR.2]; decide) ?_
  refine V_aload_n X dX2_cast_7 rfl ?_
  refine V_aload_n X dX2_cast_8 rfl ?_
  refine V_geti X flX2_18 (ltN (by decide) hN) rfl rfl dX2_cast_9 ?_
  refine V_top (nI (n)) (by first | exact hn | simp [st, upd, hn]) ?_
  refine V_cvi X (ltN (by decide) hN) rfl rfl rfl (kX2_verb hN (by omega)) cwX2_29 rfl (rm_ok hR (by decide) (by decide)) (Nat.le_of_ble_eq_true rfl) dX2_cast_12 ?_
  refine V_bipush X (nI 33) dX2_cast_15 (by decide) ?_
  refine V_icmp_ne X 24 dX2_cast_17 (by decide) (fun h17 => ?_) (fun h17 => ?_)
  · refine V_iconst X (nI 0) dX2_cast_24 (by decide) ?_
    refine V_istore_n X dX2_cast_25 (by rw [hR.2]; decide) ?_
    refine V_aload_n X dX2_cast_26 rfl ?_
    refine V_getr X flX2_15 (ltN (by decide) hN) rfl rfl dX2_cast_27 ?_
    refine V_iconst X (nI 2) dX2_cast_30 (by decide) ?_
    refine V_aload_n X dX2_cast_31 rfl ?_
    refine V_geti X flX2_18 (ltN (by decide) hN) rfl rfl dX2_cast_32 ?_
    refine V_top (nI (n)) (by first | exact hn | simp [st, upd, hn]) ?_
    refine V_mulN X dX2_cast_35 ?_
    refine V_iconst X (nI 0) dX2_cast_36 (by decide) ?_
    refine V_addN X dX2_cast_37 ?_
    refine V_aload_n X dX2_cast_38 rfl ?_
    refine V_aload_n X dX2_cast_39 rfl ?_
    refine V_getr X flX2_9 (ltN (by decide) hN) rfl rfl dX2_cast_40 ?_
    refine V_iload_n X dX2_cast_43 rfl ?_
    refine V_ialdN X (ltN (by decide) hN) rfl (by omega) (by decide) dX2_cast_44 ?_
    refine V_cvi X (ltN (by decide) hN) rfl rfl rfl (kX2_candidates hN hn hn14 rfl) cwX2_42 rfl (rm_ok hR (by decide) (by decide)) (Nat.le_of_ble_eq_true rfl) dX2_cast_45 ?_
    refine V_iastN X (ltN (by decide) hN) rfl (by omega) (by decide) dX2_cast_48 ?_
    refine V_aload_n X dX2_cast_49 rfl ?_
    refine V_getr X flX2_15 (ltN (by decide) hN) rfl rfl dX2_cast_50 ?_
    refine V_iconst X (nI 2) dX2_cast_53 (by decide) ?_
    refine V_aload_n X dX2_cast_54 rfl ?_
    refine V_geti X flX2_18 (ltN (by decide) hN) rfl rfl dX2_cast_55 ?_
    refine V_top (nI (n)) (by first | exact hn | simp [st, upd, hn]) ?_
    refine V_mulN X dX2_cast_58 ?_
    refine V_iconst X (nI 1) dX2_cast_59 (by decide) ?_
    refine V_addN X dX2_cast_60 ?_
    refine V_iload_n X dX2_cast_61 rfl ?_
    refine V_iN_eq X 80 (by omega) dX2_cast_62 (by decide) (fun h62 => ?_) (fun h62 => ?_)
    · refine V_iconst X (nI 0) dX2_cast_80 (by decide) ?_
      refine V_iastN X (ltN (by decide) hN) rfl (by omega) (by decide) dX2_cast_81 ?_
      exact V_vret X E dX2_cast_82 (by first | (rw [if_pos (ts_nn h17)]; done) | (rw [if_pos (ts_nn h17)]; rfl) | (rw [if_neg h17]; done) | (rw [if_neg h17]; rfl))
    · exact absurd h62 (by decide)
  · refine V_iconst X (nI 1) dX2_cast_20 (by decide) ?_
    refine V_goto X 25 dX2_cast_21 (by decide) ?_
    refine V_istore_n X dX2_cast_25 (by rw [hR.2]; decide) ?_
    refine V_aload_n X dX2_cast_26 rfl ?_
    refine V_getr X flX2_15 (ltN (by decide) hN) rfl rfl dX2_cast_27 ?_
    refine V_iconst X (nI 2) dX2_cast_30 (by decide) ?_
    refine V_aload_n X dX2_cast_31 rfl ?_
    refine V_geti X flX2_18 (ltN (by decide) hN) rfl rfl dX2_cast_32 ?_
    refine V_top (nI (n)) (by first | exact hn | simp [st, upd, hn]) ?_
    refine V_mulN X dX2_cast_35 ?_
    refine V_iconst X (nI 0) dX2_cast_36 (by decide) ?_
    refine V_addN X dX2_cast_37 ?_
    refine V_aload_n X dX2_cast_38 rfl ?_
    refine V_aload_n X dX2_cast_39 rfl ?_
    refine V_getr X flX2_9 (ltN (by decide) hN) rfl rfl dX2_cast_40 ?_
    refine V_iload_n X dX2_cast_43 rfl ?_
    refine V_ialdN X (ltN (by decide) hN) rfl (by omega) (by decide) dX2_cast_44 ?_
    refine V_cvi X (ltN (by decide) hN) rfl rfl rfl (kX2_candidates hN hn hn14 rfl) cwX2_42 rfl (rm_ok hR (by decide) (by decide)) (Nat.le_of_ble_eq_true rfl) dX2_cast_45 ?_
    refine V_iastN X (ltN (by decide) hN) rfl (by omega) (by decide) dX2_cast_48 ?_
    refine V_aload_n X dX2_cast_49 rfl ?_
    refine V_getr X flX2_15 (ltN (by decide) hN) rfl rfl dX2_cast_50 ?_
    refine V_iconst X (nI 2) dX2_cast_53 (by decide) ?_
    refine V_aload_n X dX2_cast_54 rfl ?_
    refine V_geti X flX2_18 (ltN (by decide) hN) rfl rfl dX2_cast_55 ?_
    refine V_top (nI (n)) (by first | exact hn | simp [st, upd, hn]) ?_
    refine V_mulN X dX2_cast_58 ?_
    refine V_iconst X (nI 1) dX2_cast_59 (by decide) ?_
    refine V_addN X dX2_cast_60 ?_
    refine V_iload_n X dX2_cast_61 rfl ?_
    refine V_iN_eq X 80 (by omega) dX2_cast_62 (by decide) (fun h62 => ?_) (fun h62 => ?_)
    · exact absurd h62 (by decide)
    · refine V_aload_n X dX2_cast_65 rfl ?_
      refine V_aload_n X dX2_cast_66 rfl ?_
      refine V_getr X flX2_9 (ltN (by decide) hN) rfl rfl dX2_cast_67 ?_
      refine V_iload_n X dX2_cast_70 rfl ?_
      refine V_iconst X (nI 3) dX2_cast_71 (by decide) ?_
      refine V_addN X dX2_cast_72 ?_
      refine V_ialdN X (ltN (by decide) hN) rfl (by omega) (by decide) dX2_cast_73 ?_
      refine V_cvi X (ltN (by decide) hN) rfl rfl rfl (kX2_candidates hN (by first | exact hn | simp [st, upd, hn]) hn14 rfl) cwX2_42 rfl (rm_ok hR (by decide) (by decide)) (Nat.le_of_ble_eq_true rfl) dX2_cast_74 ?_
      refine V_goto X 81 dX2_cast_77 (by decide) ?_
      refine V_iastN X (ltN (by decide) hN) rfl (by omega) (by decide) dX2_cast_81 ?_
      exact V_vret X E dX2_cast_82 (by first | (rw [if_pos (ts_nn h17)]; done) | (rw [if_pos (ts_nn h17)]; rfl) | (rw [if_neg h17]; done) | (rw [if_neg h17]; rfl))

set_option maxRecDepth 100000 in
set_option maxHeartbeats 4000000 in
theorem kX2_allNamed {G : Cx} {S : Sx} (hN : 80 ≤ gN G) {n : Nat} (hn : S 1 2 = nI n) (hn14 : n ≤ 14) : CT G (3) yX2_allNamed cX2_allNamed 3 (some .int) [ra G 1] S (anm (S 2) n (nI 0)) (S) := by
  refine CT_of (by decide) (Nat.le_of_ble_eq_true rfl) (by intro v hv; simp only [List.mem_cons, List.not_mem_nil, or_false] at hv; rcases hv with rfl <;> rfl) (fun F X E => ?_)
  have hR := RI_R E
  have loop : ∀ (k i : Nat) (a : Int32), i ≤ n → n - i < k → a = anm (S 2) i (nI 0) → V F G S 4 [some (ra G 1), some (.int a), some (.int (nI i))] [] := by
    intro k
    induction k with
    | zero => intro i a h1 h2; omega
    | succ k ih =>
      intro i a h1 h2 ha
      refine V_iload_n X dX2_allNamed_4 rfl ?_
      refine V_aload_n X dX2_allNamed_5 rfl ?_
      refine V_geti X flX2_18 (ltN (by decide) hN) rfl rfl dX2_allNamed_6 ?_
      refine V_top (nI (n)) (by first | exact hn | simp [st, upd, hn]) ?_
      refine V_cN_ge X 26 (by omega) (by omega) dX2_allNamed_9 (by decide) (fun h9 => ?_) (fun h9 => ?_)
      · refine V_iload_n X dX2_allNamed_26 rfl ?_
        exact V_iret X E dX2_allNamed_27 (by rw [show i = n by omega] at ha; exact ha) rfl
      · refine V_iload_n X dX2_allNamed_12 rfl ?_
        refine V_aload_n X dX2_allNamed_13 rfl ?_
        refine V_iload_n X dX2_allNamed_14 rfl ?_
        refine V_cvi X (ltN (by decide) hN) rfl rfl rfl (kX2_named hN (by omega)) cwX2_48 rfl (rm_ok hR (by decide) (by decide)) (Nat.le_of_ble_eq_true rfl) dX2_allNamed_15 ?_
        refine V_ior X dX2_allNamed_18 ?_
        refine V_istore_n X dX2_allNamed_19 (by rw [hR.2]; decide) ?_
        refine V_iinc X (nI (_ + 1)) dX2_allNamed_20 (by rw [hR.2]; decide) rfl (nI_add _ 1) ?_
        refine V_goto X 4 dX2_allNamed_23 (by decide) ?_
        exact ih (i + 1) _ (by omega) (by omega) (by rw [ha]; rfl)
  refine V_iconst X (nI 0) dX2_allNamed_0 (by decide) ?_
  refine V_istore_n X dX2_allNamed_1 (by rw [hR.2]; decide) ?_
  refine V_iconst X (nI 0) dX2_allNamed_2 (by decide) ?_
  refine V_istore_n X dX2_allNamed_3 (by rw [hR.2]; decide) ?_
  exact loop (n + 1) 0 _ (by omega) (by omega) rfl

set_option maxRecDepth 100000 in
set_option maxHeartbeats 4000000 in
theorem kX2_allPlaces {G : Cx} {S : Sx} (hN : 80 ≤ gN G) {n : Nat} (hn : S 1 2 = nI n) (hn14 : n ≤ 14) : CT G (3) yX2_allPlaces cX2_allPlaces 3 (some .int) [ra G 1] S (apl (S 2) n (nI 0)) (S) := by
  refine CT_of (by decide) (Nat.le_of_ble_eq_true rfl) (by intro v hv; simp only [List.mem_cons, List.not_mem_nil, or_false] at hv; rcases hv with rfl <;> rfl) (fun F X E => ?_)
  have hR := RI_R E
  have loop : ∀ (k i : Nat) (a : Int32), i ≤ n → n - i < k → a = apl (S 2) i (nI 0) → V F G S 4 [some (ra G 1), some (.int a), some (.int (nI i))] [] := by
    intro k
    induction k with
    | zero => intro i a h1 h2; omega
    | succ k ih =>
      intro i a h1 h2 ha
      refine V_iload_n X dX2_allPlaces_4 rfl ?_
      refine V_aload_n X dX2_allPlaces_5 rfl ?_
      refine V_geti X flX2_18 (ltN (by decide) hN) rfl rfl dX2_allPlaces_6 ?_
      refine V_top (nI (n)) (by first | exact hn | simp [st, upd, hn]) ?_
      refine V_cN_ge X 41 (by omega) (by omega) dX2_allPlaces_9 (by decide) (fun h9 => ?_) (fun h9 => ?_)
      · refine V_iload_n X dX2_allPlaces_41 rfl ?_
        exact V_iret X E dX2_allPlaces_42 (by rw [show i = n by omega] at ha; exact ha) rfl
      · refine V_aload_n X dX2_allPlaces_12 rfl ?_
        refine V_iload_n X dX2_allPlaces_13 rfl ?_
        refine V_cvi X (ltN (by decide) hN) rfl rfl rfl (kX2_verb hN (by omega)) cwX2_29 rfl (rm_ok hR (by decide) (by decide)) (Nat.le_of_ble_eq_true rfl) dX2_allPlaces_14 ?_
        refine V_bipush X (nI 30) dX2_allPlaces_17 (by decide) ?_
        refine V_icmp_ne X 35 dX2_allPlaces_19 (by decide) (fun h19 => ?_) (fun h19 => ?_)
        · refine V_iinc X (nI (_ + 1)) dX2_allPlaces_35 (by rw [hR.2]; decide) rfl (nI_add _ 1) ?_
          refine V_goto X 4 dX2_allPlaces_38 (by decide) ?_
          exact ih (i + 1) _ (by omega) (by omega) (by rw [ha]; (first | exact (if_neg h19).symm | exact (if_pos (ts_nn h19)).symm))
        · refine V_iload_n X dX2_allPlaces_22 rfl ?_
          refine V_iconst X (nI 1) dX2_allPlaces_23 (by decide) ?_
          refine V_aload_n X dX2_allPlaces_24 rfl ?_
          refine V_iload_n X dX2_allPlaces_25 rfl ?_
          refine V_cvi X (ltN (by decide) hN) rfl rfl rfl (kX2_object hN (by omega)) cwX2_54 rfl (rm_ok hR (by decide) (by decide)) (Nat.le_of_ble_eq_true rfl) dX2_allPlaces_26 ?_
          refine V_bipush X (nI 20) dX2_allPlaces_29 (by decide) ?_
          refine V_isub X dX2_allPlaces_31 ?_
          refine V_ishl X dX2_allPlaces_32 ?_
          refine V_ior X dX2_allPlaces_33 ?_
          refine V_istore_n X dX2_allPlaces_34 (by rw [hR.2]; decide) ?_
          refine V_iinc X (nI (_ + 1)) dX2_allPlaces_35 (by rw [hR.2]; decide) rfl (nI_add _ 1) ?_
          refine V_goto X 4 dX2_allPlaces_38 (by decide) ?_
          exact ih (i + 1) _ (by omega) (by omega) (by rw [ha]; (first | exact (if_neg h19).symm | exact (if_pos (ts_nn h19)).symm))
  refine V_iconst X (nI 0) dX2_allPlaces_0 (by decide) ?_
  refine V_istore_n X dX2_allPlaces_1 (by rw [hR.2]; decide) ?_
  refine V_iconst X (nI 0) dX2_allPlaces_2 (by decide) ?_
  refine V_istore_n X dX2_allPlaces_3 (by rw [hR.2]; decide) ?_
  exact loop (n + 1) 0 _ (by omega) (by omega) rfl
end
section
theorem nI_ne {a b : Nat} (ha : a < 2147483648) (hb : b < 2147483648) (h : a ≠ b) : nI a ≠ nI b := fun q => h ((nI_eq ha hb).mp q)
theorem m1_ne {a : Nat} (ha : a < 2147483648) : nI a ≠ -1 := by
  intro h; have := congrArg Int32.toInt h; rw [nI_toInt ha, t_m1] at this; omega
theorem m2_ne {a : Nat} (ha : a < 2147483648) : nI a ≠ -2 := by
  intro h; have := congrArg Int32.toInt h; rw [nI_toInt ha, t_m2] at this; omega
theorem isP_nat {x : Int32} (h : isP x) : ∃ a, a < 8 ∧ x = nI a := nb (fun z => absurd h.1 (by rw [i_lt, t_0] at z; rw [i_le, t_k 0 (by decide)]; omega)) h.2 (by decide)
theorem isP_of {a : Nat} (h : a < 8) : isP (nI a) := ⟨nI_le (Nat.zero_le _) (by omega), nI_lt h (by decide)⟩
theorem isT_nat {x : Int32} (h : isT x) : ∃ t, t < 10 ∧ x - nI 10 = nI t := by
  obtain ⟨h1, h2⟩ := h
  obtain ⟨j, hj, rfl⟩ := nb (y := x) (w := 20) (fun z => absurd h1 (by rw [i_lt, t_0] at z; rw [i_le, t_k 10 (by decide)]; omega)) h2 (by decide)
  have : 10 ≤ j := (nI_leI (by decide) (by omega)).mp h1
  exact ⟨j - 10, by omega, pk_sub this⟩
theorem prq_ok : ∀ m, m < 256 → prq (nI m) = -1 ∨ ∃ a, a < 8 ∧ prq (nI m) = nI a := by decide +kernel
theorem prq_ok2 : ∀ m, m < 256 → prq (nI m &&& (nI m - nI 1)) = -1 ∨ ∃ a, a < 8 ∧ prq (nI m &&& (nI m - nI 1)) = nI a := by decide +kernel
theorem prs_ok {x c : Int32} {t : Nat} (h : ∃ m, m < 256 ∧ x = nI m) : prs x c t = -1 ∨ ∃ a, a < 8 ∧ prs x c t = nI a := by
  obtain ⟨m, hm, rfl⟩ := h
  unfold prs; split
  · exact prq_ok m hm
  · exact prq_ok2 m hm
/-- the world's steps, on the cells 8 to 13 -/
def sHand (S : Sx) (a t : Nat) (bit : Int32) : Sx := st (st S 10 t (nI a)) 11 t bit
def sInf (S : Sx) (a : Nat) (p fr : Int32) : Sx := if S 8 a = -2 ∧ p ≠ -2 then st (st S 8 a p) 9 a fr else S
def sTake (S : Sx) (a t : Nat) (bit : Int32) : Sx := if S 10 t = nI a then S else sHand (if S 10 t = nI 9 then sInf S a (S 12 t) (S 13 t ||| bit) else S) a t bit
def sDrop (S : Sx) (a t : Nat) (bit : Int32) : Sx := st (st (st (st S 10 t (nI 9)) 11 t bit) 12 t (S 8 a)) 13 t (bit ||| S 9 a)
def sGive (S : Sx) (a t b : Nat) (bit : Int32) : Sx := sHand (sInf (sInf S a (S 8 b) (S 9 b ||| bit)) b (sInf S a (S 8 b) (S 9 b ||| bit) 8 a) (sInf S a (S 8 b) (S 9 b ||| bit) 9 a ||| bit)) b t bit
def pp (S : Sx) (s w : Nat) (c : Int32) : Int32 := prs (S 3 (2 * s + w)) c (2 * s + w)
def sGo (S : Sx) (a : Nat) (p bit : Int32) : Sx := st (st S 8 a p) 9 a bit
def sTell (S : Sx) (s : Nat) (c : Int32) : Sx :=
  if pp S s 0 c = -1 then S
  else if S 2 (s * 5 + 1) = nI 31 then sTake S (pp S s 0 c).toNatClampNeg (S 2 (s * 5 + 2) - nI 10).toNatClampNeg (nI 1 <<< (nI s &&& 31))
  else if S 2 (s * 5 + 1) = nI 32 then sDrop S (pp S s 0 c).toNatClampNeg (S 2 (s * 5 + 2) - nI 10).toNatClampNeg (nI 1 <<< (nI s &&& 31))
  else if S 2 (s * 5 + 1) = nI 33 then (if pp S s 1 c = -1 then S else sGive S (pp S s 0 c).toNatClampNeg (S 2 (s * 5 + 2) - nI 10).toNatClampNeg (pp S s 1 c).toNatClampNeg (nI 1 <<< (nI s &&& 31)))
  else sGo S (pp S s 0 c).toNatClampNeg (S 2 (s * 5 + 2)) (nI 1 <<< (nI s &&& 31))
/-- what a sentence must be for its telling -/
def okS (S : Sx) (s : Nat) : Prop := (∃ m, m < 256 ∧ S 3 (2 * s + 0) = nI m) ∧ (∃ m, m < 256 ∧ S 3 (2 * s + 1) = nI m) ∧ ((S 2 (s * 5 + 1) = nI 30 ∧ isL (S 2 (s * 5 + 2))) ∨ ((S 2 (s * 5 + 1) = nI 31 ∨ S 2 (s * 5 + 1) = nI 32 ∨ S 2 (s * 5 + 1) = nI 33) ∧ isT (S 2 (s * 5 + 2))))
theorem okS_T {S : Sx} {s : Nat} (h : okS S s) {v : Nat} (hv : S 2 (s * 5 + 1) = nI v) (h30 : v ≠ 30) (hvb : v < 100) : ∃ t, t < 10 ∧ S 2 (s * 5 + 2) - nI 10 = nI t := by
  rcases h.2.2 with ⟨h1, -⟩ | ⟨-, h1⟩
  · exact absurd (hv.symm.trans h1) (nI_ne (by omega) (by decide) h30)
  · exact isT_nat h1
theorem sTell_n {S : Sx} {s : Nat} {c : Int32} (h : pp S s 0 c = -1) : S = sTell S s c := by unfold sTell; rw [if_pos h]
theorem sTell_31 {S : Sx} {s a t : Nat} {c : Int32} (ha : a < 8) (ht : t < 10) (h : pp S s 0 c = nI a) (hv : S 2 (s * 5 + 1) = nI 31) (et : S 2 (s * 5 + 2) - nI 10 = nI t) : sTake S a t (nI 1 <<< (nI s &&& 31)) = sTell S s c := by
  unfold sTell; rw [if_neg (by rw [h]; exact m1_ne (by omega)), if_pos hv, h, et, nI_clamp (by omega), nI_clamp (by omega)]
theorem sTell_32 {S : Sx} {s a t : Nat} {c : Int32} (ha : a < 8) (ht : t < 10) (h : pp S s 0 c = nI a) (hv : S 2 (s * 5 + 1) = nI 32) (et : S 2 (s * 5 + 2) - nI 10 = nI t) : sDrop S a t (nI 1 <<< (nI s &&& 31)) = sTell S s c := by
  unfold sTell; rw [if_neg (by rw [h]; exact m1_ne (by omega)), if_neg (by rw [hv]; decide), if_pos hv, h, et, nI_clamp (by omega), nI_clamp (by omega)]
theorem sTell_33 {S : Sx} {s a t b : Nat} {c : Int32} (ha : a < 8) (ht : t < 10) (hb : b < 8) (h : pp S s 0 c = nI a) (hv : S 2 (s * 5 + 1) = nI 33) (et : S 2 (s * 5 + 2) - nI 10 = nI t) (h2 : pp S s 1 c = nI b) : sGive S a t b (nI 1 <<< (nI s &&& 31)) = sTell S s c := by
  unfold sTell; rw [if_neg (by rw [h]; exact m1_ne (by omega)), if_neg (by rw [hv]; decide), if_neg (by rw [hv]; decide), if_pos hv, if_neg (by rw [h2]; exact m1_ne (by omega)), h, et, h2, nI_clamp (by omega), nI_clamp (by omega), nI_clamp (by omega)]
theorem sTell_33n {S : Sx} {s a : Nat} {c : Int32} (ha : a < 8) (h : pp S s 0 c = nI a) (hv : S 2 (s * 5 + 1) = nI 33) (h2 : pp S s 1 c = -1) : S = sTell S s c := by
  unfold sTell; rw [if_neg (by rw [h]; exact m1_ne (by omega)), if_neg (by rw [hv]; decide), if_neg (by rw [hv]; decide), if_pos hv, if_pos h2]
theorem sTell_30 {S : Sx} {s a : Nat} {c : Int32} (ha : a < 8) (h : pp S s 0 c = nI a) (hv : S 2 (s * 5 + 1) = nI 30) : sGo S a (S 2 (s * 5 + 2)) (nI 1 <<< (nI s &&& 31)) = sTell S s c := by
  unfold sTell; rw [if_neg (by rw [h]; exact m1_ne (by omega)), if_neg (by rw [hv]; decide), if_neg (by rw [hv]; decide), if_neg (by rw [hv]; decide), h, nI_clamp (by omega)]
def tpl (S : Sx) (t : Nat) : Int32 := if S 10 t = nI 9 then S 12 t else if isP (S 10 t) then S 8 (S 10 t).toNatClampNeg else -2
def tpb (S : Sx) (t : Nat) : Int32 := if tpl S t = -2 then nI 0 else if isP (S 10 t) then S 11 t ||| S 9 (S 10 t).toNatClampNeg else S 13 t
def hct (h : Nat → Int32) (x : Int32) : Nat → Nat
  | 0 => 0
  | k + 1 => if h k = x then hct h x k + 1 else hct h x k
def hbs (S : Sx) (x : Int32) : Nat → Int32
  | 0 => nI 0
  | k + 1 => if S 10 k = x then hbs S x k ||| S 11 k else hbs S x k
def vl (S : Sx) (k a : Nat) : Int32 := if k = 0 then S 8 a else if k = 1 then tpl S a else if k = 2 then S 10 a else nI (hct (S 10) (nI a) 10)
def bs (S : Sx) (k a : Nat) : Int32 := if k = 0 then S 9 a else if k = 1 then tpb S a else if k = 2 then S 11 a else hbs S (nI a) 10
def qOk (k a : Nat) : Prop := k < 4 ∧ (a < 8 ∨ (a < 10 ∧ (k = 1 ∨ k = 2)))
def clA (S : Sx) (i : Nat) : Sx := fun c j => if c = 8 ∧ j < i then -2 else if c = 9 ∧ j < i then nI 0 else S c j
def clB (S : Sx) (i : Nat) : Sx := fun c j => if (c = 10 ∨ c = 12) ∧ j < i then -2 else if (c = 11 ∨ c = 13) ∧ j < i then nI 0 else S c j
def clr (S : Sx) : Sx := clB (clA S 8) 10
theorem clA_0 (S : Sx) : clA S 0 = S := by funext c j; simp [clA]
theorem clB_0 (S : Sx) : clB S 0 = S := by funext c j; simp [clB]
theorem clA_s (S : Sx) (i : Nat) : st (st (clA S i) 8 i (-2)) 9 i (nI 0) = clA S (i + 1) := by
  funext c j
  by_cases h8 : c = 8
  · subst h8; by_cases hj : j = i
    · subst hj; simp [st, upd, clA]
    · simp [st, upd, clA, hj, show (j < i + 1) = (j < i) from propext ⟨fun _ => by omega, fun _ => by omega⟩]
  · by_cases h9 : c = 9
    · subst h9; by_cases hj : j = i
      · subst hj; simp [st, upd, clA]
      · simp [st, upd, clA, hj, show (j < i + 1) = (j < i) from propext ⟨fun _ => by omega, fun _ => by omega⟩]
    · simp [st, clA, h8, h9]
theorem clB_s (S : Sx) (i : Nat) : st (st (st (st (clB S i) 10 i (-2)) 11 i (nI 0)) 12 i (-2)) 13 i (nI 0) = clB S (i + 1) := by
  funext c j
  by_cases hj : j = i
  · subst hj
    by_cases h10 : c = 10
    · subst h10; simp [st, upd, clB]
    · by_cases h11 : c = 11
      · subst h11; simp [st, upd, clB]
      · by_cases h12 : c = 12
        · subst h12; simp [st, upd, clB]
        · by_cases h13 : c = 13
          · subst h13; simp [st, upd, clB]
          · simp [st, clB, h10, h11, h12, h13]
  · have e : (j < i + 1) = (j < i) := propext ⟨fun _ => by omega, fun _ => by omega⟩
    by_cases h10 : c = 10
    · subst h10; simp [st, upd, clB, hj, e]
    · by_cases h11 : c = 11
      · subst h11; simp [st, upd, clB, hj, e]
      · by_cases h12 : c = 12
        · subst h12; simp [st, upd, clB, hj, e]
        · by_cases h13 : c = 13
          · subst h13; simp [st, upd, clB, hj, e]
          · simp [st, clB, h10, h11, h12, h13]
def goT (S : Sx) (c : Int32) : Nat → Sx
  | 0 => clr S
  | k + 1 => sTell (goT S c k) k c

set_option maxRecDepth 100000 in
set_option maxHeartbeats 4000000 in
theorem kX3_size {G : Cx} {S : Sx} (hN : 80 ≤ gN G) {k : Nat} (hk : k < 15) : CT G (0) yX3_size cX3_size 2 (some .int) [ra G 4, .int (nI k)] S (S 6 k) (S) := by
  refine CT_of (by decide) (Nat.le_of_ble_eq_true rfl) (by intro v hv; simp only [List.mem_cons, List.not_mem_nil, or_false] at hv; rcases hv with rfl | rfl <;> rfl) (fun F X E => ?_)
  have hR := RI_R E
  refine V_aload_n X dX3_size_0 rfl ?_
  refine V_getr X flX3_16 (ltN (by decide) hN) rfl rfl dX3_size_1 ?_
  refine V_iload_n X dX3_size_4 rfl ?_
  refine V_ialdN X (ltN (by decide) hN) rfl (by omega) (by decide) dX3_size_5 ?_
  exact V_iret X E dX3_size_6 rfl rfl

set_option maxRecDepth 100000 in
set_option maxHeartbeats 4000000 in
theorem kX3_choices {G : Cx} {S : Sx} (hN : 80 ≤ gN G) {k r : Nat} (hk : k < 15) (hr : r < 64) : CT G (0) yX3_choices cX3_choices 3 (some .int) [ra G 4, .int (nI k), .int (nI r)] S (S (20 + k) r) (S) := by
  refine CT_of (by decide) (Nat.le_of_ble_eq_true rfl) (by intro v hv; simp only [List.mem_cons, List.not_mem_nil, or_false] at hv; rcases hv with rfl | rfl | rfl <;> rfl) (fun F X E => ?_)
  have hR := RI_R E
  refine V_aload_n X dX3_choices_0 rfl ?_
  refine V_getr X flX3_11 (ltN (by decide) hN) rfl rfl dX3_choices_1 ?_
  refine V_iload_n X dX3_choices_4 rfl ?_
  refine V_aaldN X (ltN (by decide) hN) rfl (by omega) dX3_choices_5 ?_
  refine V_iload_n X dX3_choices_6 rfl ?_
  refine V_ialdN X (ltN (by omega) hN) (ds_way (by omega)) (by omega) (by decide) dX3_choices_7 ?_
  exact V_iret X E dX3_choices_8 rfl rfl

set_option maxRecDepth 100000 in
set_option maxHeartbeats 4000000 in
theorem kX3_clear {G : Cx} {S : Sx} (hN : 80 ≤ gN G) {k : Nat} (hk : k < 15) : CV G (0) yX3_clear cX3_clear 2 [ra G 4, .int (nI k)] S (st S 6 k (nI 0)) := by
  refine CV_of (by decide) (Nat.le_of_ble_eq_true rfl) (by intro v hv; simp only [List.mem_cons, List.not_mem_nil, or_false] at hv; rcases hv with rfl | rfl <;> rfl) (fun F X E => ?_)
  have hR := RV_R E
  refine V_aload_n X dX3_clear_0 rfl ?_
  refine V_getr X flX3_16 (ltN (by decide) hN) rfl rfl dX3_clear_1 ?_
  refine V_iload_n X dX3_clear_4 rfl ?_
  refine V_iconst X (nI 0) dX3_clear_5 (by decide) ?_
  refine V_iastN X (ltN (by decide) hN) rfl (by omega) (by decide) dX3_clear_6 ?_
  exact V_vret X E dX3_clear_7 rfl

set_option maxRecDepth 100000 in
set_option maxHeartbeats 4000000 in
theorem kX3_add {G : Cx} {S : Sx} (hN : 80 ≤ gN G) {k z : Nat} {c : Int32} (hk : k < 15) (hz : S 6 k = nI z) (hz64 : z ≤ 64) : CT G (0) yX3_add cX3_add 3 (some .boolean) [ra G 4, .int (nI k), .int c] S (bi (z < 64)) (if z < 64 then st (st S (20 + k) z c) 6 k (nI (z + 1)) else S) := by
  refine CT_of (by decide) (Nat.le_of_ble_eq_true rfl) (by intro v hv; simp only [List.mem_cons, List.not_mem_nil, or_false] at hv; rcases hv with rfl | rfl | rfl <;> rfl) (fun F X E => ?_)
  have hR := RI_R E
  refine V_aload_n X dX3_add_0 rfl ?_
  refine V_getr X flX3_16 (ltN (by decide) hN) rfl rfl dX3_add_1 ?_
  refine V_iload_n X dX3_add_4 rfl ?_
  refine V_ialdN X (ltN (by decide) hN) rfl (by omega) (by decide) dX3_add_5 ?_
  refine V_top (nI (z)) (hz) ?_
  refine V_bipush X (nI 64) dX3_add_6 (by decide) ?_
  refine V_cN_lt X 13 (by omega) (by omega) dX3_add_8 (by decide) (fun h8 => ?_) (fun h8 => ?_)
  · refine V_aload_n X dX3_add_13 rfl ?_
    refine V_getr X flX3_11 (ltN (by decide) hN) rfl rfl dX3_add_14 ?_
    refine V_iload_n X dX3_add_17 rfl ?_
    refine V_aaldN X (ltN (by decide) hN) rfl (by omega) dX3_add_18 ?_
    refine V_aload_n X dX3_add_19 rfl ?_
    refine V_getr X flX3_16 (ltN (by decide) hN) rfl rfl dX3_add_20 ?_
    refine V_iload_n X dX3_add_23 rfl ?_
    refine V_ialdN X (ltN (by decide) hN) rfl (by omega) (by decide) dX3_add_24 ?_
    refine V_top (nI (z)) (hz) ?_
    refine V_iload_n X dX3_add_25 rfl ?_
    refine V_iastN X (ltN (by omega) hN) (ds_way (by omega)) (by omega) (by decide) dX3_add_26 ?_
    refine V_aload_n X dX3_add_27 rfl ?_
    refine V_getr X flX3_16 (ltN (by decide) hN) rfl rfl dX3_add_28 ?_
    refine V_iload_n X dX3_add_31 rfl ?_
    refine V_dup2 X dX3_add_32 ?_
    refine V_ialdN X (ltN (by decide) hN) rfl (by omega) (by decide) dX3_add_33 ?_
    refine V_top (nI (z)) (by rw [st_ne (by omega)]; exact hz) ?_
    refine V_iconst X (nI 1) dX3_add_34 (by decide) ?_
    refine V_addN X dX3_add_35 ?_
    refine V_iastN X (ltN (by decide) hN) rfl (by omega) (by decide) dX3_add_36 ?_
    refine V_iconst X (nI 1) dX3_add_37 (by decide) ?_
    exact V_zret X E dX3_add_38 (by first | exact Or.inl rfl | exact Or.inr rfl | exact bi_01 _) (by first | exact bi_t h8 | exact bi_f (by omega)) (by first | rw [if_pos h8] | rw [if_neg (by omega)])
  · refine V_iconst X (nI 0) dX3_add_11 (by decide) ?_
    exact V_zret X E dX3_add_12 (by first | exact Or.inl rfl | exact Or.inr rfl | exact bi_01 _) (by first | exact bi_t h8 | exact bi_f (by omega)) (by first | rw [if_pos h8] | rw [if_neg (by omega)])

set_option maxRecDepth 100000 in
set_option maxHeartbeats 4000000 in
theorem kX4_handTo {G : Cx} {S : Sx} (hN : 80 ≤ gN G) {a t : Nat} {bit : Int32} (ha : a < 8) (ht : t < 10) : CV G (0) yX4_handTo cX4_handTo 4 [ra G 7, .int (nI a), .int (nI t), .int bit] S (sHand S a t bit) := by
  refine CV_of (by decide) (Nat.le_of_ble_eq_true rfl) (by intro v hv; simp only [List.mem_cons, List.not_mem_nil, or_false] at hv; rcases hv with rfl | rfl | rfl | rfl <;> rfl) (fun F X E => ?_)
  have hR := RV_R E
  refine V_aload_n X dX4_handTo_0 rfl ?_
  refine V_getr X flX4_18 (ltN (by decide) hN) rfl rfl dX4_handTo_1 ?_
  refine V_iload_n X dX4_handTo_4 rfl ?_
  refine V_iload_n X dX4_handTo_5 rfl ?_
  refine V_iastN X (ltN (by decide) hN) rfl (by omega) (by decide) dX4_handTo_6 ?_
  refine V_aload_n X dX4_handTo_7 rfl ?_
  refine V_getr X flX4_21 (ltN (by decide) hN) rfl rfl dX4_handTo_8 ?_
  refine V_iload_n X dX4_handTo_11 rfl ?_
  refine V_iload_n X dX4_handTo_12 rfl ?_
  refine V_iastN X (ltN (by decide) hN) rfl (by omega) (by decide) dX4_handTo_13 ?_
  exact V_vret X E dX4_handTo_14 rfl

set_option maxRecDepth 100000 in
set_option maxHeartbeats 4000000 in
theorem kX4_inferPlace {G : Cx} {S : Sx} (hN : 80 ≤ gN G) {a : Nat} {p fr : Int32} (ha : a < 8) : CV G (0) yX4_inferPlace cX4_inferPlace 4 [ra G 7, .int (nI a), .int p, .int fr] S (sInf S a p fr) := by
  refine CV_of (by decide) (Nat.le_of_ble_eq_true rfl) (by intro v hv; simp only [List.mem_cons, List.not_mem_nil, or_false] at hv; rcases hv with rfl | rfl | rfl | rfl <;> rfl) (fun F X E => ?_)
  have hR := RV_R E
  refine V_aload_n X dX4_inferPlace_0 rfl ?_
  refine V_getr X flX4_9 (ltN (by decide) hN) rfl rfl dX4_inferPlace_1 ?_
  refine V_iload_n X dX4_inferPlace_4 rfl ?_
  refine V_ialdN X (ltN (by decide) hN) rfl (by omega) (by decide) dX4_inferPlace_5 ?_
  refine V_bipush X (-2) dX4_inferPlace_6 (by decide) ?_
  refine V_icmp_ne X 31 dX4_inferPlace_8 (by decide) (fun h8 => ?_) (fun h8 => ?_)
  · exact V_vret X E dX4_inferPlace_31 (by unfold sInf; exact (if_neg (fun q => h8 q.1)).symm)
  · refine V_iload_n X dX4_inferPlace_11 rfl ?_
    refine V_bipush X (-2) dX4_inferPlace_12 (by decide) ?_
    refine V_icmp_eq X 31 dX4_inferPlace_14 (by decide) (fun h14 => ?_) (fun h14 => ?_)
    · exact V_vret X E dX4_inferPlace_31 (by unfold sInf; first | exact (if_pos ⟨ts_nn h8, h14⟩).symm | exact (if_neg (fun q => q.2 h14)).symm)
    · refine V_aload_n X dX4_inferPlace_17 rfl ?_
      refine V_getr X flX4_9 (ltN (by decide) hN) rfl rfl dX4_inferPlace_18 ?_
      refine V_iload_n X dX4_inferPlace_21 rfl ?_
      refine V_iload_n X dX4_inferPlace_22 rfl ?_
      refine V_iastN X (ltN (by decide) hN) rfl (by omega) (by decide) dX4_inferPlace_23 ?_
      refine V_aload_n X dX4_inferPlace_24 rfl ?_
      refine V_getr X flX4_15 (ltN (by decide) hN) rfl rfl dX4_inferPlace_25 ?_
      refine V_iload_n X dX4_inferPlace_28 rfl ?_
      refine V_iload_n X dX4_inferPlace_29 rfl ?_
      refine V_iastN X (ltN (by decide) hN) rfl (by omega) (by decide) dX4_inferPlace_30 ?_
      exact V_vret X E dX4_inferPlace_31 (by unfold sInf; first | exact (if_pos ⟨ts_nn h8, h14⟩).symm | exact (if_neg (fun q => q.2 h14)).symm)

set_option maxRecDepth 100000 in
set_option maxHeartbeats 4000000 in
theorem kX4_tellTaking {G : Cx} {S : Sx} (hN : 80 ≤ gN G) {a t : Nat} {bit : Int32} (ha : a < 8) (ht : t < 10) : CV G (1) yX4_tellTaking cX4_tellTaking 4 [ra G 7, .int (nI a), .int (nI t), .int bit] S (sTake S a t bit) := by
  refine CV_of (by decide) (Nat.le_of_ble_eq_true rfl) (by intro v hv; simp only [List.mem_cons, List.not_mem_nil, or_false] at hv; rcases hv with rfl | rfl | rfl | rfl <;> rfl) (fun F X E => ?_)
  have hR := RV_R E
  refine V_aload_n X dX4_tellTaking_0 rfl ?_
  refine V_getr X flX4_18 (ltN (by decide) hN) rfl rfl dX4_tellTaking_1 ?_
  refine V_iload_n X dX4_tellTaking_4 rfl ?_
  refine V_ialdN X (ltN (by decide) hN) rfl (by omega) (by decide) dX4_tellTaking_5 ?_
  refine V_iload_n X dX4_tellTaking_6 rfl ?_
  refine V_icmp_ne X 11 dX4_tellTaking_7 (by decide) (fun h7 => ?_) (fun h7 => ?_)
  · refine V_aload_n X dX4_tellTaking_11 rfl ?_
    refine V_getr X flX4_18 (ltN (by decide) hN) rfl rfl dX4_tellTaking_12 ?_
    refine V_iload_n X dX4_tellTaking_15 rfl ?_
    refine V_ialdN X (ltN (by decide) hN) rfl (by omega) (by decide) dX4_tellTaking_16 ?_
    refine V_bipush X (nI 9) dX4_tellTaking_17 (by decide) ?_
    refine V_icmp_ne X 41 dX4_tellTaking_19 (by decide) (fun h19 => ?_) (fun h19 => ?_)
    · refine V_aload_n X dX4_tellTaking_41 rfl ?_
      refine V_iload_n X dX4_tellTaking_42 rfl ?_
      refine V_iload_n X dX4_tellTaking_43 rfl ?_
      refine V_iload_n X dX4_tellTaking_44 rfl ?_
      refine V_cvv X (ltN (by decide) hN) rfl rfl rfl (kX4_handTo hN (by omega) (by omega)) cwX4_78 rfl (rm_ok hR (by decide) (by decide)) (Nat.le_of_ble_eq_true rfl) dX4_tellTaking_45 ?_
      exact V_vret X E dX4_tellTaking_48 (by unfold sTake; first | rw [if_pos (ts_nn h7)] | (rw [if_neg h7]; first | rw [if_pos (ts_nn h19)] | rw [if_neg h19]))
    · refine V_aload_n X dX4_tellTaking_22 rfl ?_
      refine V_iload_n X dX4_tellTaking_23 rfl ?_
      refine V_aload_n X dX4_tellTaking_24 rfl ?_
      refine V_getr X flX4_24 (ltN (by decide) hN) rfl rfl dX4_tellTaking_25 ?_
      refine V_iload_n X dX4_tellTaking_28 rfl ?_
      refine V_ialdN X (ltN (by decide) hN) rfl (by omega) (by decide) dX4_tellTaking_29 ?_
      refine V_aload_n X dX4_tellTaking_30 rfl ?_
      refine V_getr X flX4_27 (ltN (by decide) hN) rfl rfl dX4_tellTaking_31 ?_
      refine V_iload_n X dX4_tellTaking_34 rfl ?_
      refine V_ialdN X (ltN (by decide) hN) rfl (by omega) (by decide) dX4_tellTaking_35 ?_
      refine V_iload_n X dX4_tellTaking_36 rfl ?_
      refine V_ior X dX4_tellTaking_37 ?_
      refine V_cvv X (ltN (by decide) hN) rfl rfl rfl (kX4_inferPlace hN (by omega)) cwX4_75 rfl (rm_ok hR (by decide) (by decide)) (Nat.le_of_ble_eq_true rfl) dX4_tellTaking_38 ?_
      refine V_aload_n X dX4_tellTaking_41 rfl ?_
      refine V_iload_n X dX4_tellTaking_42 rfl ?_
      refine V_iload_n X dX4_tellTaking_43 rfl ?_
      refine V_iload_n X dX4_tellTaking_44 rfl ?_
      refine V_cvv X (ltN (by decide) hN) rfl rfl rfl (kX4_handTo hN (by omega) (by omega)) cwX4_78 rfl (rm_ok hR (by decide) (by decide)) (Nat.le_of_ble_eq_true rfl) dX4_tellTaking_45 ?_
      exact V_vret X E dX4_tellTaking_48 (by unfold sTake; first | rw [if_pos (ts_nn h7)] | (rw [if_neg h7]; first | rw [if_pos (ts_nn h19)] | rw [if_neg h19]))
  · exact V_vret X E dX4_tellTaking_10 (by unfold sTake; first | rw [if_pos (ts_nn h7)] | (rw [if_neg h7]; first | rw [if_pos (ts_nn h19)] | rw [if_neg h19]))

set_option maxRecDepth 100000 in
set_option maxHeartbeats 4000000 in
theorem kX4_tellDropping {G : Cx} {S : Sx} (hN : 80 ≤ gN G) {a t : Nat} {bit : Int32} (ha : a < 8) (ht : t < 10) : CV G (0) yX4_tellDropping cX4_tellDropping 4 [ra G 7, .int (nI a), .int (nI t), .int bit] S (sDrop S a t bit) := by
  refine CV_of (by decide) (Nat.le_of_ble_eq_true rfl) (by intro v hv; simp only [List.mem_cons, List.not_mem_nil, or_false] at hv; rcases hv with rfl | rfl | rfl | rfl <;> rfl) (fun F X E => ?_)
  have hR := RV_R E
  refine V_aload_n X dX4_tellDropping_0 rfl ?_
  refine V_getr X flX4_18 (ltN (by decide) hN) rfl rfl dX4_tellDropping_1 ?_
  refine V_iload_n X dX4_tellDropping_4 rfl ?_
  refine V_bipush X (nI 9) dX4_tellDropping_5 (by decide) ?_
  refine V_iastN X (ltN (by decide) hN) rfl (by omega) (by decide) dX4_tellDropping_7 ?_
  refine V_aload_n X dX4_tellDropping_8 rfl ?_
  refine V_getr X flX4_21 (ltN (by decide) hN) rfl rfl dX4_tellDropping_9 ?_
  refine V_iload_n X dX4_tellDropping_12 rfl ?_
  refine V_iload_n X dX4_tellDropping_13 rfl ?_
  refine V_iastN X (ltN (by decide) hN) rfl (by omega) (by decide) dX4_tellDropping_14 ?_
  refine V_aload_n X dX4_tellDropping_15 rfl ?_
  refine V_getr X flX4_24 (ltN (by decide) hN) rfl rfl dX4_tellDropping_16 ?_
  refine V_iload_n X dX4_tellDropping_19 rfl ?_
  refine V_aload_n X dX4_tellDropping_20 rfl ?_
  refine V_getr X flX4_9 (ltN (by decide) hN) rfl rfl dX4_tellDropping_21 ?_
  refine V_iload_n X dX4_tellDropping_24 rfl ?_
  refine V_ialdN X (ltN (by decide) hN) rfl (by omega) (by decide) dX4_tellDropping_25 ?_
  refine V_iastN X (ltN (by decide) hN) rfl (by omega) (by decide) dX4_tellDropping_26 ?_
  refine V_aload_n X dX4_tellDropping_27 rfl ?_
  refine V_getr X flX4_27 (ltN (by decide) hN) rfl rfl dX4_tellDropping_28 ?_
  refine V_iload_n X dX4_tellDropping_31 rfl ?_
  refine V_iload_n X dX4_tellDropping_32 rfl ?_
  refine V_aload_n X dX4_tellDropping_33 rfl ?_
  refine V_getr X flX4_15 (ltN (by decide) hN) rfl rfl dX4_tellDropping_34 ?_
  refine V_iload_n X dX4_tellDropping_37 rfl ?_
  refine V_ialdN X (ltN (by decide) hN) rfl (by omega) (by decide) dX4_tellDropping_38 ?_
  refine V_ior X dX4_tellDropping_39 ?_
  refine V_iastN X (ltN (by decide) hN) rfl (by omega) (by decide) dX4_tellDropping_40 ?_
  exact V_vret X E dX4_tellDropping_41 rfl

set_option maxRecDepth 100000 in
set_option maxHeartbeats 4000000 in
theorem kX4_tellGiving {G : Cx} {S : Sx} (hN : 80 ≤ gN G) {a t b : Nat} {bit : Int32} (ha : a < 8) (ht : t < 10) (hb : b < 8) : CV G (1) yX4_tellGiving cX4_tellGiving 5 [ra G 7, .int (nI a), .int (nI t), .int (nI b), .int bit] S (sGive S a t b bit) := by
  refine CV_of (by decide) (Nat.le_of_ble_eq_true rfl) (by intro v hv; simp only [List.mem_cons, List.not_mem_nil, or_false] at hv; rcases hv with rfl | rfl | rfl | rfl | rfl <;> rfl) (fun F X E => ?_)
  have hR := RV_R E
  refine V_iload_n X dX4_tellGiving_0 rfl ?_
  refine V_iconst X (-1) dX4_tellGiving_1 (by decide) ?_
  refine V_icmp_ne X 6 dX4_tellGiving_2 (by decide) (fun h2 => ?_) (fun h2 => ?_)
  · refine V_aload_n X dX4_tellGiving_6 rfl ?_
    refine V_iload_n X dX4_tellGiving_7 rfl ?_
    refine V_aload_n X dX4_tellGiving_8 rfl ?_
    refine V_getr X flX4_9 (ltN (by decide) hN) rfl rfl dX4_tellGiving_9 ?_
    refine V_iload_n X dX4_tellGiving_12 rfl ?_
    refine V_ialdN X (ltN (by decide) hN) rfl (by omega) (by decide) dX4_tellGiving_13 ?_
    refine V_aload_n X dX4_tellGiving_14 rfl ?_
    refine V_getr X flX4_15 (ltN (by decide) hN) rfl rfl dX4_tellGiving_15 ?_
    refine V_iload_n X dX4_tellGiving_18 rfl ?_
    refine V_ialdN X (ltN (by decide) hN) rfl (by omega) (by decide) dX4_tellGiving_19 ?_
    refine V_iload X dX4_tellGiving_20 rfl ?_
    refine V_ior X dX4_tellGiving_22 ?_
    refine V_cvv X (ltN (by decide) hN) rfl rfl rfl (kX4_inferPlace hN (by omega)) cwX4_75 rfl (rm_ok hR (by decide) (by decide)) (Nat.le_of_ble_eq_true rfl) dX4_tellGiving_23 ?_
    refine V_aload_n X dX4_tellGiving_26 rfl ?_
    refine V_iload_n X dX4_tellGiving_27 rfl ?_
    refine V_aload_n X dX4_tellGiving_28 rfl ?_
    refine V_getr X flX4_9 (ltN (by decide) hN) rfl rfl dX4_tellGiving_29 ?_
    refine V_iload_n X dX4_tellGiving_32 rfl ?_
    refine V_ialdN X (ltN (by decide) hN) rfl (by omega) (by decide) dX4_tellGiving_33 ?_
    refine V_aload_n X dX4_tellGiving_34 rfl ?_
    refine V_getr X flX4_15 (ltN (by decide) hN) rfl rfl dX4_tellGiving_35 ?_
    refine V_iload_n X dX4_tellGiving_38 rfl ?_
    refine V_ialdN X (ltN (by decide) hN) rfl (by omega) (by decide) dX4_tellGiving_39 ?_
    refine V_iload X dX4_tellGiving_40 rfl ?_
    refine V_ior X dX4_tellGiving_42 ?_
    refine V_cvv X (ltN (by decide) hN) rfl rfl rfl (kX4_inferPlace hN (by omega)) cwX4_75 rfl (rm_ok hR (by decide) (by decide)) (Nat.le_of_ble_eq_true rfl) dX4_tellGiving_43 ?_
    refine V_aload_n X dX4_tellGiving_46 rfl ?_
    refine V_iload_n X dX4_tellGiving_47 rfl ?_
    refine V_iload_n X dX4_tellGiving_48 rfl ?_
    refine V_iload X dX4_tellGiving_49 rfl ?_
    refine V_cvv X (ltN (by decide) hN) rfl rfl rfl (kX4_handTo hN (by omega) (by omega)) cwX4_78 rfl (rm_ok hR (by decide) (by decide)) (Nat.le_of_ble_eq_true rfl) dX4_tellGiving_51 ?_
    exact V_vret X E dX4_tellGiving_54 rfl
  · exact absurd (ts_nn h2) (m1_ne (by omega))

set_option maxRecDepth 100000 in
set_option maxHeartbeats 4000000 in
theorem kX4_tellGivingN {G : Cx} {S : Sx} (hN : 80 ≤ gN G) {x y bit : Int32} : CV G (1) yX4_tellGiving cX4_tellGiving 5 [ra G 7, .int x, .int y, .int (-1), .int bit] S (S) := by
  refine CV_of (by decide) (Nat.le_of_ble_eq_true rfl) (by intro v hv; simp only [List.mem_cons, List.not_mem_nil, or_false] at hv; rcases hv with rfl | rfl | rfl | rfl | rfl <;> rfl) (fun F X E => ?_)
  have hR := RV_R E
  refine V_iload_n X dX4_tellGiving_0 rfl ?_
  refine V_iconst X (-1) dX4_tellGiving_1 (by decide) ?_
  refine V_icmp_ne X 6 dX4_tellGiving_2 (by decide) (fun h2 => ?_) (fun h2 => ?_)
  · exact absurd rfl h2
  · exact V_vret X E dX4_tellGiving_5 rfl

theorem okS_30 {S : Sx} {s : Nat} (h : okS S s) (h36 : (S 2 (s * 5 + 1)).toInt < 31 ∨ 33 < (S 2 (s * 5 + 1)).toInt) : S 2 (s * 5 + 1) = nI 30 := by
  rcases h.2.2 with ⟨h1, -⟩ | ⟨h1, -⟩
  · exact h1
  · rcases h1 with h1 | h1 | h1 <;> (rw [h1] at h36; exact absurd h36 (by decide))

set_option maxRecDepth 100000 in
set_option maxHeartbeats 4000000 in
theorem kX4_tell {G : Cx} {S : Sx} (hN : 80 ≤ gN G) {s : Nat} {c : Int32} (hs : s < 14) (ok : okS S s) : CV G 3 yX4_tell cX4_tell 7 [ra G 7, ra G 1, .int (nI s), .int c] S (sTell S s c) := by
  refine CV_of (by decide) (Nat.le_of_ble_eq_true rfl) (by intro v hv; simp only [List.mem_cons, List.not_mem_nil, or_false] at hv; rcases hv with rfl | rfl | rfl | rfl <;> rfl) (fun F X E => ?_)
  have hR := RV_R E
  refine V_aload_n X dX4_tell_0 rfl ?_
  refine V_iload_n X dX4_tell_1 rfl ?_
  refine V_iconst X (nI 0) dX4_tell_2 (by decide) ?_
  refine V_iload_n X dX4_tell_3 rfl ?_
  refine V_cvi X (ltN (by decide) hN) rfl rfl rfl (kX2_person hN (by omega) (by omega)) cwX4_37 rfl (rm_ok hR (by decide) (by decide)) (Nat.le_of_ble_eq_true rfl) dX4_tell_4 ?_
  refine V_istore X dX4_tell_7 (by rw [hR.2]; decide) ?_
  refine V_iload X dX4_tell_9 rfl ?_
  refine V_iconst X (-1) dX4_tell_11 (by decide) ?_
  refine V_icmp_ne X 16 dX4_tell_12 (by decide) (fun h12 => ?_) (fun h12 => ?_)
  · rcases prs_ok (c := c) (t := 2 * s + 0) ok.1 with e0 | ⟨a, ha, e0⟩
    · exact absurd e0 h12
    rw [e0]
    refine V_iconst X (nI 1) dX4_tell_16 (by decide) ?_
    refine V_iload_n X dX4_tell_17 rfl ?_
    refine V_ishl X dX4_tell_18 ?_
    refine V_istore X dX4_tell_19 (by rw [hR.2]; decide) ?_
    refine V_aload_n X dX4_tell_21 rfl ?_
    refine V_iload_n X dX4_tell_22 rfl ?_
    refine V_cvi X (ltN (by decide) hN) rfl rfl rfl (kX2_object hN (by omega)) cwX4_43 rfl (rm_ok hR (by decide) (by decide)) (Nat.le_of_ble_eq_true rfl) dX4_tell_23 ?_
    refine V_bipush X (nI 10) dX4_tell_26 (by decide) ?_
    refine V_isub X dX4_tell_28 ?_
    refine V_istore X dX4_tell_29 (by rw [hR.2]; decide) ?_
    refine V_aload_n X dX4_tell_31 rfl ?_
    refine V_iload_n X dX4_tell_32 rfl ?_
    refine V_cvi X (ltN (by decide) hN) rfl rfl rfl (kX2_verb hN (by omega)) cwX4_47 rfl (rm_ok hR (by decide) (by decide)) (Nat.le_of_ble_eq_true rfl) dX4_tell_33 ?_
    rcases sw31_3 (S 2 (s * 5 + 1)) with h36 | h36 | h36 | h36
    · refine V_tabIn X 28 64 dX4_tell_36 (by rw [h36]; decide) (by rw [h36]; decide) (by rw [h36]; rfl) (by decide) ?_
      obtain ⟨t, ht, et⟩ := okS_T ok h36 (by decide) (by decide)
      rw [et]
      refine V_aload_n X dX4_tell_64 rfl ?_
      refine V_iload X dX4_tell_65 rfl ?_
      refine V_iload X dX4_tell_67 rfl ?_
      refine V_iload X dX4_tell_69 rfl ?_
      refine V_cvv X (ltN (by decide) hN) rfl rfl rfl (kX4_tellTaking hN ha ht) cwX4_64 rfl (rm_ok hR (by decide) (by decide)) (Nat.le_of_ble_eq_true rfl) dX4_tell_71 ?_
      refine V_goto X 131 dX4_tell_74 (by decide) ?_
      exact V_vret X E dX4_tell_131 (sTell_31 ha ht e0 h36 et)
    · refine V_tabIn X 41 77 dX4_tell_36 (by rw [h36]; decide) (by rw [h36]; decide) (by rw [h36]; rfl) (by decide) ?_
      obtain ⟨t, ht, et⟩ := okS_T ok h36 (by decide) (by decide)
      rw [et]
      refine V_aload_n X dX4_tell_77 rfl ?_
      refine V_iload X dX4_tell_78 rfl ?_
      refine V_iload X dX4_tell_80 rfl ?_
      refine V_iload X dX4_tell_82 rfl ?_
      refine V_cvv X (ltN (by decide) hN) rfl rfl rfl (kX4_tellDropping hN ha ht) cwX4_68 rfl (rm_ok hR (by decide) (by decide)) (Nat.le_of_ble_eq_true rfl) dX4_tell_84 ?_
      refine V_goto X 131 dX4_tell_87 (by decide) ?_
      exact V_vret X E dX4_tell_131 (sTell_32 ha ht e0 h36 et)
    · refine V_tabIn X 54 90 dX4_tell_36 (by rw [h36]; decide) (by rw [h36]; decide) (by rw [h36]; rfl) (by decide) ?_
      obtain ⟨t, ht, et⟩ := okS_T ok h36 (by decide) (by decide)
      rw [et]
      refine V_aload_n X dX4_tell_90 rfl ?_
      refine V_iload X dX4_tell_91 rfl ?_
      refine V_iload X dX4_tell_93 rfl ?_
      refine V_aload_n X dX4_tell_95 rfl ?_
      refine V_iload_n X dX4_tell_96 rfl ?_
      refine V_iconst X (nI 1) dX4_tell_97 (by decide) ?_
      refine V_iload_n X dX4_tell_98 rfl ?_
      refine V_cvi X (ltN (by decide) hN) rfl rfl rfl (kX2_person hN (by omega) (by omega)) cwX4_37 rfl (rm_ok hR (by decide) (by decide)) (Nat.le_of_ble_eq_true rfl) dX4_tell_99 ?_
      rcases prs_ok (c := c) (t := 2 * s + 1) ok.2.1 with e1 | ⟨b, hb, e1⟩
      · rw [e1]
        refine V_iload X dX4_tell_102 rfl ?_
        refine V_cvv X (ltN (by decide) hN) rfl rfl rfl (kX4_tellGivingN hN) cwX4_71 rfl (rm_ok hR (by decide) (by decide)) (Nat.le_of_ble_eq_true rfl) dX4_tell_104 ?_
        refine V_goto X 131 dX4_tell_107 (by decide) ?_
        exact V_vret X E dX4_tell_131 (sTell_33n ha e0 h36 e1)
      · rw [e1]
        refine V_iload X dX4_tell_102 rfl ?_
        refine V_cvv X (ltN (by decide) hN) rfl rfl rfl (kX4_tellGiving hN ha ht hb) cwX4_71 rfl (rm_ok hR (by decide) (by decide)) (Nat.le_of_ble_eq_true rfl) dX4_tell_104 ?_
        refine V_goto X 131 dX4_tell_107 (by decide) ?_
        exact V_vret X E dX4_tell_131 (sTell_33 ha ht hb e0 h36 et e1)
    · refine V_tabOut X 110 dX4_tell_36 h36 (by decide) ?_
      refine V_aload_n X dX4_tell_110 rfl ?_
      refine V_getr X flX4_9 (ltN (by decide) hN) rfl rfl dX4_tell_111 ?_
      refine V_iload X dX4_tell_114 rfl ?_
      refine V_aload_n X dX4_tell_116 rfl ?_
      refine V_iload_n X dX4_tell_117 rfl ?_
      refine V_cvi X (ltN (by decide) hN) rfl rfl rfl (kX2_object hN (by omega)) cwX4_43 rfl (rm_ok hR (by decide) (by decide)) (Nat.le_of_ble_eq_true rfl) dX4_tell_118 ?_
      refine V_iastN X (ltN (by decide) hN) rfl (by omega) (by decide) dX4_tell_121 ?_
      refine V_aload_n X dX4_tell_122 rfl ?_
      refine V_getr X flX4_15 (ltN (by decide) hN) rfl rfl dX4_tell_123 ?_
      refine V_iload X dX4_tell_126 rfl ?_
      refine V_iload X dX4_tell_128 rfl ?_
      refine V_iastN X (ltN (by decide) hN) rfl (by omega) (by decide) dX4_tell_130 ?_
      exact V_vret X E dX4_tell_131 (sTell_30 ha e0 (okS_30 ok h36))
  · exact V_vret X E dX4_tell_15 (sTell_n (ts_nn h12))

set_option maxRecDepth 100000 in
set_option maxHeartbeats 4000000 in
theorem kX4_thingPlace {G : Cx} {S : Sx} (hN : 80 ≤ gN G) {t : Nat} (ht : t < 10) : CT G (1) yX4_thingPlace cX4_thingPlace 3 (some .int) [ra G 7, .int (nI t)] S (tpl S t) (S) := by
  refine CT_of (by decide) (Nat.le_of_ble_eq_true rfl) (by intro v hv; simp only [List.mem_cons, List.not_mem_nil, or_false] at hv; rcases hv with rfl | rfl <;> rfl) (fun F X E => ?_)
  have hR := RI_R E
  refine V_aload_n X dX4_thingPlace_0 rfl ?_
  refine V_getr X flX4_18 (ltN (by decide) hN) rfl rfl dX4_thingPlace_1 ?_
  refine V_iload_n X dX4_thingPlace_4 rfl ?_
  refine V_ialdN X (ltN (by decide) hN) rfl (by omega) (by decide) dX4_thingPlace_5 ?_
  refine V_istore_n X dX4_thingPlace_6 (by rw [hR.2]; decide) ?_
  refine V_iload_n X dX4_thingPlace_7 rfl ?_
  refine V_bipush X (nI 9) dX4_thingPlace_8 (by decide) ?_
  refine V_icmp_ne X 20 dX4_thingPlace_10 (by decide) (fun h10 => ?_) (fun h10 => ?_)
  · refine V_iload_n X dX4_thingPlace_20 rfl ?_
    refine V_cti X (kX5_isPerson ) cwX4_87 rfl (rm_ok hR (by decide) (by decide)) (Nat.le_of_ble_eq_true rfl) dX4_thingPlace_21 ?_
    refine V_if_eq X 36 dX4_thingPlace_24 (by decide) (fun h24 => ?_) (fun h24 => ?_)
    · refine V_bipush X (-2) dX4_thingPlace_36 (by decide) ?_
      exact V_iret X E dX4_thingPlace_38 (by unfold tpl; first | (rw [if_pos (ts_nn h10)]) | (rw [if_neg h10, if_neg (bi_eq.mp h24)]) | (rw [if_neg h10, if_pos (by rw [ea]; exact isP_of ha), ea, nI_clamp (by omega)])) rfl
    · obtain ⟨a, ha, ea⟩ := isP_nat (Classical.byContradiction (fun z => h24 (bi_eq.mpr z)))
      rw [ea]
      refine V_aload_n X dX4_thingPlace_27 rfl ?_
      refine V_getr X flX4_9 (ltN (by decide) hN) rfl rfl dX4_thingPlace_28 ?_
      refine V_iload_n X dX4_thingPlace_31 rfl ?_
      refine V_ialdN X (ltN (by decide) hN) rfl (by omega) (by decide) dX4_thingPlace_32 ?_
      refine V_goto X 38 dX4_thingPlace_33 (by decide) ?_
      exact V_iret X E dX4_thingPlace_38 (by unfold tpl; first | (rw [if_pos (ts_nn h10)]) | (rw [if_neg h10, if_neg (bi_eq.mp h24)]) | (rw [if_neg h10, if_pos (by rw [ea]; exact isP_of ha), ea, nI_clamp (by omega)])) rfl
  · refine V_aload_n X dX4_thingPlace_13 rfl ?_
    refine V_getr X flX4_24 (ltN (by decide) hN) rfl rfl dX4_thingPlace_14 ?_
    refine V_iload_n X dX4_thingPlace_17 rfl ?_
    refine V_ialdN X (ltN (by decide) hN) rfl (by omega) (by decide) dX4_thingPlace_18 ?_
    exact V_iret X E dX4_thingPlace_19 (by unfold tpl; first | (rw [if_pos (ts_nn h10)]) | (rw [if_neg h10, if_neg (bi_eq.mp h24)]) | (rw [if_neg h10, if_pos (by rw [ea]; exact isP_of ha), ea, nI_clamp (by omega)])) rfl

set_option maxRecDepth 100000 in
set_option maxHeartbeats 4000000 in
theorem kX4_thingPlaceBasis {G : Cx} {S : Sx} (hN : 80 ≤ gN G) {t : Nat} (ht : t < 10) : CT G (2) yX4_thingPlaceBasis cX4_thingPlaceBasis 3 (some .int) [ra G 7, .int (nI t)] S (tpb S t) (S) := by
  refine CT_of (by decide) (Nat.le_of_ble_eq_true rfl) (by intro v hv; simp only [List.mem_cons, List.not_mem_nil, or_false] at hv; rcases hv with rfl | rfl <;> rfl) (fun F X E => ?_)
  have hR := RI_R E
  refine V_aload_n X dX4_thingPlaceBasis_0 rfl ?_
  refine V_iload_n X dX4_thingPlaceBasis_1 rfl ?_
  refine V_cvi X (ltN (by decide) hN) rfl rfl rfl (kX4_thingPlace hN (by omega)) cwX4_81 rfl (rm_ok hR (by decide) (by decide)) (Nat.le_of_ble_eq_true rfl) dX4_thingPlaceBasis_2 ?_
  refine V_bipush X (-2) dX4_thingPlaceBasis_5 (by decide) ?_
  refine V_icmp_ne X 12 dX4_thingPlaceBasis_7 (by decide) (fun h7 => ?_) (fun h7 => ?_)
  · refine V_aload_n X dX4_thingPlaceBasis_12 rfl ?_
    refine V_getr X flX4_18 (ltN (by decide) hN) rfl rfl dX4_thingPlaceBasis_13 ?_
    refine V_iload_n X dX4_thingPlaceBasis_16 rfl ?_
    refine V_ialdN X (ltN (by decide) hN) rfl (by omega) (by decide) dX4_thingPlaceBasis_17 ?_
    refine V_istore_n X dX4_thingPlaceBasis_18 (by rw [hR.2]; decide) ?_
    refine V_iload_n X dX4_thingPlaceBasis_19 rfl ?_
    refine V_cti X (kX5_isPerson ) cwX4_87 rfl (rm_ok hR (by decide) (by decide)) (Nat.le_of_ble_eq_true rfl) dX4_thingPlaceBasis_20 ?_
    refine V_if_eq X 42 dX4_thingPlaceBasis_23 (by decide) (fun h23 => ?_) (fun h23 => ?_)
    · refine V_aload_n X dX4_thingPlaceBasis_42 rfl ?_
      refine V_getr X flX4_27 (ltN (by decide) hN) rfl rfl dX4_thingPlaceBasis_43 ?_
      refine V_iload_n X dX4_thingPlaceBasis_46 rfl ?_
      refine V_ialdN X (ltN (by decide) hN) rfl (by omega) (by decide) dX4_thingPlaceBasis_47 ?_
      exact V_iret X E dX4_thingPlaceBasis_48 (by unfold tpb; first | (rw [if_pos (ts_nn h7)]) | (rw [if_neg h7, if_neg (bi_eq.mp h23)]) | (rw [if_neg h7, if_pos (by rw [ea]; exact isP_of ha), ea, nI_clamp (by omega)])) rfl
    · obtain ⟨a, ha, ea⟩ := isP_nat (Classical.byContradiction (fun z => h23 (bi_eq.mpr z)))
      rw [ea]
      refine V_aload_n X dX4_thingPlaceBasis_26 rfl ?_
      refine V_getr X flX4_21 (ltN (by decide) hN) rfl rfl dX4_thingPlaceBasis_27 ?_
      refine V_iload_n X dX4_thingPlaceBasis_30 rfl ?_
      refine V_ialdN X (ltN (by decide) hN) rfl (by omega) (by decide) dX4_thingPlaceBasis_31 ?_
      refine V_aload_n X dX4_thingPlaceBasis_32 rfl ?_
      refine V_getr X flX4_15 (ltN (by decide) hN) rfl rfl dX4_thingPlaceBasis_33 ?_
      refine V_iload_n X dX4_thingPlaceBasis_36 rfl ?_
      refine V_ialdN X (ltN (by decide) hN) rfl (by omega) (by decide) dX4_thingPlaceBasis_37 ?_
      refine V_ior X dX4_thingPlaceBasis_38 ?_
      refine V_goto X 48 dX4_thingPlaceBasis_39 (by decide) ?_
      exact V_iret X E dX4_thingPlaceBasis_48 (by unfold tpb; first | (rw [if_pos (ts_nn h7)]) | (rw [if_neg h7, if_neg (bi_eq.mp h23)]) | (rw [if_neg h7, if_pos (by rw [ea]; exact isP_of ha), ea, nI_clamp (by omega)])) rfl
  · refine V_iconst X (nI 0) dX4_thingPlaceBasis_10 (by decide) ?_
    exact V_iret X E dX4_thingPlaceBasis_11 (by unfold tpb; first | (rw [if_pos (ts_nn h7)]) | (rw [if_neg h7, if_neg (bi_eq.mp h23)]) | (rw [if_neg h7, if_pos (by rw [ea]; exact isP_of ha), ea, nI_clamp (by omega)])) rfl

set_option maxRecDepth 100000 in
set_option maxHeartbeats 4000000 in
theorem kX4_hadThings {G : Cx} {S : Sx} (hN : 80 ≤ gN G) {x : Int32} : CT G (0) yX4_hadThings cX4_hadThings 4 (some .int) [ra G 7, .int x] S (nI (hct (S 10) x 10)) (S) := by
  refine CT_of (by decide) (Nat.le_of_ble_eq_true rfl) (by intro v hv; simp only [List.mem_cons, List.not_mem_nil, or_false] at hv; rcases hv with rfl | rfl <;> rfl) (fun F X E => ?_)
  have hR := RI_R E
  have loop : ∀ (k i z : Nat), i ≤ 10 → 10 - i < k → z = hct (S 10) x i → V F G S 4 [some (ra G 7), some (.int x), some (.int (nI z)), some (.int (nI i))] [] := by
    intro k
    induction k with
    | zero => intro i z h1 h2; omega
    | succ k ih =>
      intro i z h1 h2 ha
      refine V_iload_n X dX4_hadThings_4 rfl ?_
      refine V_bipush X (nI 10) dX4_hadThings_5 (by decide) ?_
      refine V_cN_ge X 29 (by omega) (by omega) dX4_hadThings_7 (by decide) (fun h7 => ?_) (fun h7 => ?_)
      · refine V_iload_n X dX4_hadThings_29 rfl ?_
        exact V_iret X E dX4_hadThings_30 (by rw [ha, show i = 10 by omega]) rfl
      · refine V_aload_n X dX4_hadThings_10 rfl ?_
        refine V_getr X flX4_18 (ltN (by decide) hN) rfl rfl dX4_hadThings_11 ?_
        refine V_iload_n X dX4_hadThings_14 rfl ?_
        refine V_ialdN X (ltN (by decide) hN) rfl (by omega) (by decide) dX4_hadThings_15 ?_
        refine V_iload_n X dX4_hadThings_16 rfl ?_
        refine V_icmp_ne X 23 dX4_hadThings_17 (by decide) (fun h17 => ?_) (fun h17 => ?_)
        · refine V_iinc X (nI (_ + 1)) dX4_hadThings_23 (by rw [hR.2]; decide) rfl (nI_add _ 1) ?_
          refine V_goto X 4 dX4_hadThings_26 (by decide) ?_
          exact ih (i + 1) _ (by omega) (by omega) (by rw [ha, hct]; first | rw [if_pos (ts_nn h17)] | rw [if_neg h17])
        · refine V_iinc X (nI (_ + 1)) dX4_hadThings_20 (by rw [hR.2]; decide) rfl (nI_add _ 1) ?_
          refine V_iinc X (nI (_ + 1)) dX4_hadThings_23 (by rw [hR.2]; decide) rfl (nI_add _ 1) ?_
          refine V_goto X 4 dX4_hadThings_26 (by decide) ?_
          exact ih (i + 1) _ (by omega) (by omega) (by rw [ha, hct]; first | rw [if_pos (ts_nn h17)] | rw [if_neg h17])
  refine V_iconst X (nI 0) dX4_hadThings_0 (by decide) ?_
  refine V_istore_n X dX4_hadThings_1 (by rw [hR.2]; decide) ?_
  refine V_iconst X (nI 0) dX4_hadThings_2 (by decide) ?_
  refine V_istore_n X dX4_hadThings_3 (by rw [hR.2]; decide) ?_
  exact loop 11 0 0 (by omega) (by omega) rfl

set_option maxRecDepth 100000 in
set_option maxHeartbeats 4000000 in
theorem kX4_hadThingsBasis {G : Cx} {S : Sx} (hN : 80 ≤ gN G) {x : Int32} : CT G (0) yX4_hadThingsBasis cX4_hadThingsBasis 4 (some .int) [ra G 7, .int x] S (hbs S x 10) (S) := by
  refine CT_of (by decide) (Nat.le_of_ble_eq_true rfl) (by intro v hv; simp only [List.mem_cons, List.not_mem_nil, or_false] at hv; rcases hv with rfl | rfl <;> rfl) (fun F X E => ?_)
  have hR := RI_R E
  have loop : ∀ (k i : Nat) (z : Int32), i ≤ 10 → 10 - i < k → z = hbs S x i → V F G S 4 [some (ra G 7), some (.int x), some (.int z), some (.int (nI i))] [] := by
    intro k
    induction k with
    | zero => intro i z h1 h2; omega
    | succ k ih =>
      intro i z h1 h2 ha
      refine V_iload_n X dX4_hadThingsBasis_4 rfl ?_
      refine V_bipush X (nI 10) dX4_hadThingsBasis_5 (by decide) ?_
      refine V_cN_ge X 35 (by omega) (by omega) dX4_hadThingsBasis_7 (by decide) (fun h7 => ?_) (fun h7 => ?_)
      · refine V_iload_n X dX4_hadThingsBasis_35 rfl ?_
        exact V_iret X E dX4_hadThingsBasis_36 (by rw [ha, show i = 10 by omega]) rfl
      · refine V_aload_n X dX4_hadThingsBasis_10 rfl ?_
        refine V_getr X flX4_18 (ltN (by decide) hN) rfl rfl dX4_hadThingsBasis_11 ?_
        refine V_iload_n X dX4_hadThingsBasis_14 rfl ?_
        refine V_ialdN X (ltN (by decide) hN) rfl (by omega) (by decide) dX4_hadThingsBasis_15 ?_
        refine V_iload_n X dX4_hadThingsBasis_16 rfl ?_
        refine V_icmp_ne X 29 dX4_hadThingsBasis_17 (by decide) (fun h17 => ?_) (fun h17 => ?_)
        · refine V_iinc X (nI (_ + 1)) dX4_hadThingsBasis_29 (by rw [hR.2]; decide) rfl (nI_add _ 1) ?_
          refine V_goto X 4 dX4_hadThingsBasis_32 (by decide) ?_
          exact ih (i + 1) _ (by omega) (by omega) (by rw [ha]; first | exact (if_pos (ts_nn h17)).symm | exact (if_neg h17).symm)
        · refine V_iload_n X dX4_hadThingsBasis_20 rfl ?_
          refine V_aload_n X dX4_hadThingsBasis_21 rfl ?_
          refine V_getr X flX4_21 (ltN (by decide) hN) rfl rfl dX4_hadThingsBasis_22 ?_
          refine V_iload_n X dX4_hadThingsBasis_25 rfl ?_
          refine V_ialdN X (ltN (by decide) hN) rfl (by omega) (by decide) dX4_hadThingsBasis_26 ?_
          refine V_ior X dX4_hadThingsBasis_27 ?_
          refine V_istore_n X dX4_hadThingsBasis_28 (by rw [hR.2]; decide) ?_
          refine V_iinc X (nI (_ + 1)) dX4_hadThingsBasis_29 (by rw [hR.2]; decide) rfl (nI_add _ 1) ?_
          refine V_goto X 4 dX4_hadThingsBasis_32 (by decide) ?_
          exact ih (i + 1) _ (by omega) (by omega) (by rw [ha]; first | exact (if_pos (ts_nn h17)).symm | exact (if_neg h17).symm)
  refine V_iconst X (nI 0) dX4_hadThingsBasis_0 (by decide) ?_
  refine V_istore_n X dX4_hadThingsBasis_1 (by rw [hR.2]; decide) ?_
  refine V_iconst X (nI 0) dX4_hadThingsBasis_2 (by decide) ?_
  refine V_istore_n X dX4_hadThingsBasis_3 (by rw [hR.2]; decide) ?_
  exact loop 11 0 _ (by omega) (by omega) rfl

set_option maxRecDepth 100000 in
set_option maxHeartbeats 4000000 in
theorem kX4_value {G : Cx} {S : Sx} (hN : 80 ≤ gN G) {k a : Nat} (hq : qOk k a) : CT G (2) yX4_value cX4_value 3 (some .int) [ra G 7, .int (nI k), .int (nI a)] S (vl S k a) (S) := by
  refine CT_of (by decide) (Nat.le_of_ble_eq_true rfl) (by intro v hv; simp only [List.mem_cons, List.not_mem_nil, or_false] at hv; rcases hv with rfl | rfl | rfl <;> rfl) (fun F X E => ?_)
  have hR := RI_R E
  refine V_iload_n X dX4_value_0 rfl ?_
  rcases (show k = 0 ∨ k = 1 ∨ k = 2 ∨ 2 < k by omega) with rfl | rfl | rfl | h1
  · refine V_tabIn X 27 28 dX4_value_1 (by decide) (by decide) rfl (by decide) ?_
    refine V_aload_n X dX4_value_28 rfl ?_
    refine V_getr X flX4_9 (ltN (by decide) hN) rfl rfl dX4_value_29 ?_
    refine V_iload_n X dX4_value_32 rfl ?_
    refine V_ialdN X (ltN (by decide) hN) rfl (by (have := hq; unfold qOk at this; omega)) (by decide) dX4_value_33 ?_
    exact V_iret X E dX4_value_34 (by unfold vl; first | rfl | (rw [if_neg (by omega), if_neg (by omega), if_neg (by omega)])) rfl
  · refine V_tabIn X 34 35 dX4_value_1 (by decide) (by decide) rfl (by decide) ?_
    refine V_aload_n X dX4_value_35 rfl ?_
    refine V_iload_n X dX4_value_36 rfl ?_
    refine V_cvi X (ltN (by decide) hN) rfl rfl rfl (kX4_thingPlace hN (by have := hq; unfold qOk at this; omega)) cwX4_81 rfl (rm_ok hR (by decide) (by decide)) (Nat.le_of_ble_eq_true rfl) dX4_value_37 ?_
    exact V_iret X E dX4_value_40 (by unfold vl; first | rfl | (rw [if_neg (by omega), if_neg (by omega), if_neg (by omega)])) rfl
  · refine V_tabIn X 40 41 dX4_value_1 (by decide) (by decide) rfl (by decide) ?_
    refine V_aload_n X dX4_value_41 rfl ?_
    refine V_getr X flX4_18 (ltN (by decide) hN) rfl rfl dX4_value_42 ?_
    refine V_iload_n X dX4_value_45 rfl ?_
    refine V_ialdN X (ltN (by decide) hN) rfl (by (have := hq; unfold qOk at this; omega)) (by decide) dX4_value_46 ?_
    exact V_iret X E dX4_value_47 (by unfold vl; first | rfl | (rw [if_neg (by omega), if_neg (by omega), if_neg (by omega)])) rfl
  · refine V_tabOut X 48 dX4_value_1 (Or.inr (by rw [nI_toInt (by (have := hq; unfold qOk at this; omega))]; omega)) (by decide) ?_
    refine V_aload_n X dX4_value_48 rfl ?_
    refine V_iload_n X dX4_value_49 rfl ?_
    refine V_cvi X (ltN (by decide) hN) rfl rfl rfl (kX4_hadThings hN) cwX4_84 rfl (rm_ok hR (by decide) (by decide)) (Nat.le_of_ble_eq_true rfl) dX4_value_50 ?_
    exact V_iret X E dX4_value_53 (by unfold vl; first | rfl | (rw [if_neg (by omega), if_neg (by omega), if_neg (by omega)])) rfl

set_option maxRecDepth 100000 in
set_option maxHeartbeats 4000000 in
theorem kX4_basis {G : Cx} {S : Sx} (hN : 80 ≤ gN G) {k a : Nat} (hq : qOk k a) : CT G (3) yX4_basis cX4_basis 3 (some .int) [ra G 7, .int (nI k), .int (nI a)] S (bs S k a) (S) := by
  refine CT_of (by decide) (Nat.le_of_ble_eq_true rfl) (by intro v hv; simp only [List.mem_cons, List.not_mem_nil, or_false] at hv; rcases hv with rfl | rfl | rfl <;> rfl) (fun F X E => ?_)
  have hR := RI_R E
  refine V_iload_n X dX4_basis_0 rfl ?_
  rcases (show k = 0 ∨ k = 1 ∨ k = 2 ∨ 2 < k by omega) with rfl | rfl | rfl | h1
  · refine V_tabIn X 27 28 dX4_basis_1 (by decide) (by decide) rfl (by decide) ?_
    refine V_aload_n X dX4_basis_28 rfl ?_
    refine V_getr X flX4_15 (ltN (by decide) hN) rfl rfl dX4_basis_29 ?_
    refine V_iload_n X dX4_basis_32 rfl ?_
    refine V_ialdN X (ltN (by decide) hN) rfl (by (have := hq; unfold qOk at this; omega)) (by decide) dX4_basis_33 ?_
    exact V_iret X E dX4_basis_34 (by unfold bs; first | rfl | (rw [if_neg (by omega), if_neg (by omega), if_neg (by omega)])) rfl
  · refine V_tabIn X 34 35 dX4_basis_1 (by decide) (by decide) rfl (by decide) ?_
    refine V_aload_n X dX4_basis_35 rfl ?_
    refine V_iload_n X dX4_basis_36 rfl ?_
    refine V_cvi X (ltN (by decide) hN) rfl rfl rfl (kX4_thingPlaceBasis hN (by have := hq; unfold qOk at this; omega)) cwX4_91 rfl (rm_ok hR (by decide) (by decide)) (Nat.le_of_ble_eq_true rfl) dX4_basis_37 ?_
    exact V_iret X E dX4_basis_40 (by unfold bs; first | rfl | (rw [if_neg (by omega), if_neg (by omega), if_neg (by omega)])) rfl
  · refine V_tabIn X 40 41 dX4_basis_1 (by decide) (by decide) rfl (by decide) ?_
    refine V_aload_n X dX4_basis_41 rfl ?_
    refine V_getr X flX4_21 (ltN (by decide) hN) rfl rfl dX4_basis_42 ?_
    refine V_iload_n X dX4_basis_45 rfl ?_
    refine V_ialdN X (ltN (by decide) hN) rfl (by (have := hq; unfold qOk at this; omega)) (by decide) dX4_basis_46 ?_
    exact V_iret X E dX4_basis_47 (by unfold bs; first | rfl | (rw [if_neg (by omega), if_neg (by omega), if_neg (by omega)])) rfl
  · refine V_tabOut X 48 dX4_basis_1 (Or.inr (by rw [nI_toInt (by (have := hq; unfold qOk at this; omega))]; omega)) (by decide) ?_
    refine V_aload_n X dX4_basis_48 rfl ?_
    refine V_iload_n X dX4_basis_49 rfl ?_
    refine V_cvi X (ltN (by decide) hN) rfl rfl rfl (kX4_hadThingsBasis hN) cwX4_94 rfl (rm_ok hR (by decide) (by decide)) (Nat.le_of_ble_eq_true rfl) dX4_basis_50 ?_
    exact V_iret X E dX4_basis_53 (by unfold bs; first | rfl | (rw [if_neg (by omega), if_neg (by omega), if_neg (by omega)])) rfl

abbrev mhP (S : Sx) (x : Int32) (t : Nat) : Prop := S 10 t = -2 ∨ S 10 t = x
abbrev opP (x y : Int32) : Prop := x = -2 ∨ y = -2 ∨ x = y
abbrev atP (S : Sx) (a t : Nat) : Prop := (S 10 t = nI 9 ∧ opP (S 12 t) (S 8 a)) ∨ (S 10 t ≠ nI 9 ∧ mhP S (nI a) t)
abbrev agP (S : Sx) (a t b : Nat) : Prop := b ≠ a ∧ mhP S (nI a) t ∧ opP (S 8 a) (S 8 b)

set_option maxRecDepth 100000 in
set_option maxHeartbeats 4000000 in
theorem kX4_mayHave {G : Cx} {S : Sx} (hN : 80 ≤ gN G) {x : Int32} {t : Nat} (ht : t < 10) : CT G (0) yX4_mayHave cX4_mayHave 3 (some .boolean) [ra G 7, .int x, .int (nI t)] S (bi (mhP S x t)) (S) := by
  refine CT_of (by decide) (Nat.le_of_ble_eq_true rfl) (by intro v hv; simp only [List.mem_cons, List.not_mem_nil, or_false] at hv; rcases hv with rfl | rfl | rfl <;> rfl) (fun F X E => ?_)
  have hR := RI_R E
  refine V_aload_n X dX4_mayHave_0 rfl ?_
  refine V_getr X flX4_18 (ltN (by decide) hN) rfl rfl dX4_mayHave_1 ?_
  refine V_iload_n X dX4_mayHave_4 rfl ?_
  refine V_ialdN X (ltN (by decide) hN) rfl (by omega) (by decide) dX4_mayHave_5 ?_
  refine V_bipush X (-2) dX4_mayHave_6 (by decide) ?_
  refine V_icmp_eq X 21 dX4_mayHave_8 (by decide) (fun h8 => ?_) (fun h8 => ?_)
  · refine V_iconst X (nI 1) dX4_mayHave_21 (by decide) ?_
    refine V_goto X 26 dX4_mayHave_22 (by decide) ?_
    exact V_zret X E dX4_mayHave_26 (by first | exact Or.inl rfl | exact Or.inr rfl | exact bi_01 _) (by first | exact bi_t (Or.inl h8) | exact bi_t (Or.inr (ts_nn h18)) | exact bi_f (fun q => q.elim h8 h18)) rfl
  · refine V_aload_n X dX4_mayHave_11 rfl ?_
    refine V_getr X flX4_18 (ltN (by decide) hN) rfl rfl dX4_mayHave_12 ?_
    refine V_iload_n X dX4_mayHave_15 rfl ?_
    refine V_ialdN X (ltN (by decide) hN) rfl (by omega) (by decide) dX4_mayHave_16 ?_
    refine V_iload_n X dX4_mayHave_17 rfl ?_
    refine V_icmp_ne X 25 dX4_mayHave_18 (by decide) (fun h18 => ?_) (fun h18 => ?_)
    · refine V_iconst X (nI 0) dX4_mayHave_25 (by decide) ?_
      exact V_zret X E dX4_mayHave_26 (by first | exact Or.inl rfl | exact Or.inr rfl | exact bi_01 _) (by first | exact bi_t (Or.inl h8) | exact bi_t (Or.inr (ts_nn h18)) | exact bi_f (fun q => q.elim h8 h18)) rfl
    · refine V_iconst X (nI 1) dX4_mayHave_21 (by decide) ?_
      refine V_goto X 26 dX4_mayHave_22 (by decide) ?_
      exact V_zret X E dX4_mayHave_26 (by first | exact Or.inl rfl | exact Or.inr rfl | exact bi_01 _) (by first | exact bi_t (Or.inl h8) | exact bi_t (Or.inr (ts_nn h18)) | exact bi_f (fun q => q.elim h8 h18)) rfl

set_option maxRecDepth 100000 in
set_option maxHeartbeats 4000000 in
theorem kX4_mayBeOnePlace {G : Cx} {S : Sx}  {x y : Int32} : CT G (0) yX4_mayBeOnePlace cX4_mayBeOnePlace 2 (some .boolean) [.int x, .int y] S (bi (opP x y)) (S) := by
  refine CT_of (by decide) (Nat.le_of_ble_eq_true rfl) (by intro v hv; simp only [List.mem_cons, List.not_mem_nil, or_false] at hv; rcases hv with rfl | rfl <;> rfl) (fun F X E => ?_)
  have hR := RI_R E
  refine V_iload_n X dX4_mayBeOnePlace_0 rfl ?_
  refine V_bipush X (-2) dX4_mayBeOnePlace_1 (by decide) ?_
  refine V_icmp_eq X 17 dX4_mayBeOnePlace_3 (by decide) (fun h3 => ?_) (fun h3 => ?_)
  · refine V_iconst X (nI 1) dX4_mayBeOnePlace_17 (by decide) ?_
    refine V_goto X 22 dX4_mayBeOnePlace_18 (by decide) ?_
    exact V_zret X E dX4_mayBeOnePlace_22 (by first | exact Or.inl rfl | exact Or.inr rfl | exact bi_01 _) (by first | exact bi_t (Or.inl h3) | exact bi_t (Or.inr (Or.inl h9)) | exact bi_t (Or.inr (Or.inr (ts_nn h14))) | exact bi_f (fun q => q.elim h3 (fun q => q.elim h9 h14))) rfl
  · refine V_iload_n X dX4_mayBeOnePlace_6 rfl ?_
    refine V_bipush X (-2) dX4_mayBeOnePlace_7 (by decide) ?_
    refine V_icmp_eq X 17 dX4_mayBeOnePlace_9 (by decide) (fun h9 => ?_) (fun h9 => ?_)
    · refine V_iconst X (nI 1) dX4_mayBeOnePlace_17 (by decide) ?_
      refine V_goto X 22 dX4_mayBeOnePlace_18 (by decide) ?_
      exact V_zret X E dX4_mayBeOnePlace_22 (by first | exact Or.inl rfl | exact Or.inr rfl | exact bi_01 _) (by first | exact bi_t (Or.inl h3) | exact bi_t (Or.inr (Or.inl h9)) | exact bi_t (Or.inr (Or.inr (ts_nn h14))) | exact bi_f (fun q => q.elim h3 (fun q => q.elim h9 h14))) rfl
    · refine V_iload_n X dX4_mayBeOnePlace_12 rfl ?_
      refine V_iload_n X dX4_mayBeOnePlace_13 rfl ?_
      refine V_icmp_ne X 21 dX4_mayBeOnePlace_14 (by decide) (fun h14 => ?_) (fun h14 => ?_)
      · refine V_iconst X (nI 0) dX4_mayBeOnePlace_21 (by decide) ?_
        exact V_zret X E dX4_mayBeOnePlace_22 (by first | exact Or.inl rfl | exact Or.inr rfl | exact bi_01 _) (by first | exact bi_t (Or.inl h3) | exact bi_t (Or.inr (Or.inl h9)) | exact bi_t (Or.inr (Or.inr (ts_nn h14))) | exact bi_f (fun q => q.elim h3 (fun q => q.elim h9 h14))) rfl
      · refine V_iconst X (nI 1) dX4_mayBeOnePlace_17 (by decide) ?_
        refine V_goto X 22 dX4_mayBeOnePlace_18 (by decide) ?_
        exact V_zret X E dX4_mayBeOnePlace_22 (by first | exact Or.inl rfl | exact Or.inr rfl | exact bi_01 _) (by first | exact bi_t (Or.inl h3) | exact bi_t (Or.inr (Or.inl h9)) | exact bi_t (Or.inr (Or.inr (ts_nn h14))) | exact bi_f (fun q => q.elim h3 (fun q => q.elim h9 h14))) rfl

set_option maxRecDepth 100000 in
set_option maxHeartbeats 4000000 in
theorem kX4_allowsTaking {G : Cx} {S : Sx} (hN : 80 ≤ gN G) {a t : Nat} (ha : a < 8) (ht : t < 10) : CT G (1) yX4_allowsTaking cX4_allowsTaking 3 (some .boolean) [ra G 7, .int (nI a), .int (nI t)] S (bi (atP S a t)) (S) := by
  refine CT_of (by decide) (Nat.le_of_ble_eq_true rfl) (by intro v hv; simp only [List.mem_cons, List.not_mem_nil, or_false] at hv; rcases hv with rfl | rfl | rfl <;> rfl) (fun F X E => ?_)
  have hR := RI_R E
  refine V_aload_n X dX4_allowsTaking_0 rfl ?_
  refine V_getr X flX4_18 (ltN (by decide) hN) rfl rfl dX4_allowsTaking_1 ?_
  refine V_iload_n X dX4_allowsTaking_4 rfl ?_
  refine V_ialdN X (ltN (by decide) hN) rfl (by omega) (by decide) dX4_allowsTaking_5 ?_
  refine V_bipush X (nI 9) dX4_allowsTaking_6 (by decide) ?_
  refine V_icmp_ne X 27 dX4_allowsTaking_8 (by decide) (fun h8 => ?_) (fun h8 => ?_)
  · refine V_aload_n X dX4_allowsTaking_27 rfl ?_
    refine V_iload_n X dX4_allowsTaking_28 rfl ?_
    refine V_iload_n X dX4_allowsTaking_29 rfl ?_
    refine V_cvi X (ltN (by decide) hN) rfl rfl rfl (kX4_mayHave hN (by omega)) cwX4_54 rfl (rm_ok hR (by decide) (by decide)) (Nat.le_of_ble_eq_true rfl) dX4_allowsTaking_30 ?_
    exact V_zret X E dX4_allowsTaking_33 (by first | exact Or.inl rfl | exact Or.inr rfl | exact bi_01 _) (by first | exact bi_congr ⟨fun q => Or.inl ⟨ts_nn h8, q⟩, fun q => q.elim (fun z => z.2) (fun z => absurd (ts_nn h8) z.1)⟩ | exact bi_congr ⟨fun q => Or.inr ⟨h8, q⟩, fun q => q.elim (fun z => absurd z.1 h8) (fun z => z.2)⟩) rfl
  · refine V_aload_n X dX4_allowsTaking_11 rfl ?_
    refine V_getr X flX4_24 (ltN (by decide) hN) rfl rfl dX4_allowsTaking_12 ?_
    refine V_iload_n X dX4_allowsTaking_15 rfl ?_
    refine V_ialdN X (ltN (by decide) hN) rfl (by omega) (by decide) dX4_allowsTaking_16 ?_
    refine V_aload_n X dX4_allowsTaking_17 rfl ?_
    refine V_getr X flX4_9 (ltN (by decide) hN) rfl rfl dX4_allowsTaking_18 ?_
    refine V_iload_n X dX4_allowsTaking_21 rfl ?_
    refine V_ialdN X (ltN (by decide) hN) rfl (by omega) (by decide) dX4_allowsTaking_22 ?_
    refine V_csi X (kX4_mayBeOnePlace ) cwX4_61 rfl (rm_ok hR (by decide) (by decide)) (Nat.le_of_ble_eq_true rfl) dX4_allowsTaking_23 ?_
    exact V_zret X E dX4_allowsTaking_26 (by first | exact Or.inl rfl | exact Or.inr rfl | exact bi_01 _) (by first | exact bi_congr ⟨fun q => Or.inl ⟨ts_nn h8, q⟩, fun q => q.elim (fun z => z.2) (fun z => absurd (ts_nn h8) z.1)⟩ | exact bi_congr ⟨fun q => Or.inr ⟨h8, q⟩, fun q => q.elim (fun z => absurd z.1 h8) (fun z => z.2)⟩) rfl

set_option maxRecDepth 100000 in
set_option maxHeartbeats 4000000 in
theorem kX4_allowsGiving {G : Cx} {S : Sx} (hN : 80 ≤ gN G) {a t b : Nat} (ha : a < 8) (ht : t < 10) (hb : b < 8) : CT G (1) yX4_allowsGiving cX4_allowsGiving 4 (some .boolean) [ra G 7, .int (nI a), .int (nI t), .int (nI b)] S (bi (agP S a t b)) (S) := by
  refine CT_of (by decide) (Nat.le_of_ble_eq_true rfl) (by intro v hv; simp only [List.mem_cons, List.not_mem_nil, or_false] at hv; rcases hv with rfl | rfl | rfl | rfl <;> rfl) (fun F X E => ?_)
  have hR := RI_R E
  refine V_iload_n X dX4_allowsGiving_0 rfl ?_
  refine V_iconst X (-1) dX4_allowsGiving_1 (by decide) ?_
  refine V_icmp_eq X 10 dX4_allowsGiving_2 (by decide) (fun h2 => ?_) (fun h2 => ?_)
  · exact absurd h2 (m1_ne (by omega))
  · refine V_iload_n X dX4_allowsGiving_5 rfl ?_
    refine V_iload_n X dX4_allowsGiving_6 rfl ?_
    refine V_cN_ne X 12 (by omega) (by omega) dX4_allowsGiving_7 (by decide) (fun h7 => ?_) (fun h7 => ?_)
    · refine V_aload_n X dX4_allowsGiving_12 rfl ?_
      refine V_iload_n X dX4_allowsGiving_13 rfl ?_
      refine V_iload_n X dX4_allowsGiving_14 rfl ?_
      refine V_cvi X (ltN (by decide) hN) rfl rfl rfl (kX4_mayHave hN (by omega)) cwX4_54 rfl (rm_ok hR (by decide) (by decide)) (Nat.le_of_ble_eq_true rfl) dX4_allowsGiving_15 ?_
      refine V_if_eq X 43 dX4_allowsGiving_18 (by decide) (fun h18 => ?_) (fun h18 => ?_)
      · refine V_iconst X (nI 0) dX4_allowsGiving_43 (by decide) ?_
        exact V_zret X E dX4_allowsGiving_44 (by first | exact Or.inl rfl | exact Or.inr rfl | exact bi_01 _) (by first | exact bi_t ⟨h7, bi_ne.mp h18, bi_ne.mp h36⟩ | exact bi_f (fun q => bi_eq.mp h36 q.2.2) | exact bi_f (fun q => bi_eq.mp h18 q.2.1) | exact bi_f (fun q => q.1 h7)) rfl
      · refine V_aload_n X dX4_allowsGiving_21 rfl ?_
        refine V_getr X flX4_9 (ltN (by decide) hN) rfl rfl dX4_allowsGiving_22 ?_
        refine V_iload_n X dX4_allowsGiving_25 rfl ?_
        refine V_ialdN X (ltN (by decide) hN) rfl (by omega) (by decide) dX4_allowsGiving_26 ?_
        refine V_aload_n X dX4_allowsGiving_27 rfl ?_
        refine V_getr X flX4_9 (ltN (by decide) hN) rfl rfl dX4_allowsGiving_28 ?_
        refine V_iload_n X dX4_allowsGiving_31 rfl ?_
        refine V_ialdN X (ltN (by decide) hN) rfl (by omega) (by decide) dX4_allowsGiving_32 ?_
        refine V_csi X (kX4_mayBeOnePlace ) cwX4_61 rfl (rm_ok hR (by decide) (by decide)) (Nat.le_of_ble_eq_true rfl) dX4_allowsGiving_33 ?_
        refine V_if_eq X 43 dX4_allowsGiving_36 (by decide) (fun h36 => ?_) (fun h36 => ?_)
        · refine V_iconst X (nI 0) dX4_allowsGiving_43 (by decide) ?_
          exact V_zret X E dX4_allowsGiving_44 (by first | exact Or.inl rfl | exact Or.inr rfl | exact bi_01 _) (by first | exact bi_t ⟨h7, bi_ne.mp h18, bi_ne.mp h36⟩ | exact bi_f (fun q => bi_eq.mp h36 q.2.2) | exact bi_f (fun q => bi_eq.mp h18 q.2.1) | exact bi_f (fun q => q.1 h7)) rfl
        · refine V_iconst X (nI 1) dX4_allowsGiving_39 (by decide) ?_
          refine V_goto X 44 dX4_allowsGiving_40 (by decide) ?_
          exact V_zret X E dX4_allowsGiving_44 (by first | exact Or.inl rfl | exact Or.inr rfl | exact bi_01 _) (by first | exact bi_t ⟨h7, bi_ne.mp h18, bi_ne.mp h36⟩ | exact bi_f (fun q => bi_eq.mp h36 q.2.2) | exact bi_f (fun q => bi_eq.mp h18 q.2.1) | exact bi_f (fun q => q.1 h7)) rfl
    · refine V_iconst X (nI 0) dX4_allowsGiving_10 (by decide) ?_
      exact V_zret X E dX4_allowsGiving_11 (by first | exact Or.inl rfl | exact Or.inr rfl | exact bi_01 _) (by first | exact bi_t ⟨h7, bi_ne.mp h18, bi_ne.mp h36⟩ | exact bi_f (fun q => bi_eq.mp h36 q.2.2) | exact bi_f (fun q => bi_eq.mp h18 q.2.1) | exact bi_f (fun q => q.1 h7)) rfl

set_option maxRecDepth 100000 in
set_option maxHeartbeats 4000000 in
theorem kX4_allowsGivingN {G : Cx} {S : Sx} (hN : 80 ≤ gN G) {x y : Int32} : CT G (1) yX4_allowsGiving cX4_allowsGiving 4 (some .boolean) [ra G 7, .int x, .int y, .int (-1)] S (nI 0) (S) := by
  refine CT_of (by decide) (Nat.le_of_ble_eq_true rfl) (by intro v hv; simp only [List.mem_cons, List.not_mem_nil, or_false] at hv; rcases hv with rfl | rfl | rfl | rfl <;> rfl) (fun F X E => ?_)
  have hR := RI_R E
  refine V_iload_n X dX4_allowsGiving_0 rfl ?_
  refine V_iconst X (-1) dX4_allowsGiving_1 (by decide) ?_
  refine V_icmp_eq X 10 dX4_allowsGiving_2 (by decide) (fun h2 => ?_) (fun h2 => ?_)
  · refine V_iconst X (nI 0) dX4_allowsGiving_10 (by decide) ?_
    exact V_zret X E dX4_allowsGiving_11 (by first | exact Or.inl rfl | exact Or.inr rfl | exact bi_01 _) rfl rfl
  · exact absurd rfl h2

/-- does the sentence hold by the choices -/
def alF (S : Sx) (s : Nat) (c : Int32) : Int32 :=
  if pp S s 0 c = -1 then nI 0
  else if S 2 (s * 5 + 1) = nI 31 then bi (atP S (pp S s 0 c).toNatClampNeg (S 2 (s * 5 + 2) - nI 10).toNatClampNeg)
  else if S 2 (s * 5 + 1) = nI 32 then bi (mhP S (pp S s 0 c) (S 2 (s * 5 + 2) - nI 10).toNatClampNeg)
  else if S 2 (s * 5 + 1) = nI 33 then (if pp S s 1 c = -1 then nI 0 else bi (agP S (pp S s 0 c).toNatClampNeg (S 2 (s * 5 + 2) - nI 10).toNatClampNeg (pp S s 1 c).toNatClampNeg))
  else nI 1
theorem alF_n {S : Sx} {s : Nat} {c : Int32} (h : pp S s 0 c = -1) : nI 0 = alF S s c := by unfold alF; rw [if_pos h]
theorem alF_31 {S : Sx} {s a t : Nat} {c : Int32} (ha : a < 8) (ht : t < 10) (h : pp S s 0 c = nI a) (hv : S 2 (s * 5 + 1) = nI 31) (et : S 2 (s * 5 + 2) - nI 10 = nI t) : bi (atP S a t) = alF S s c := by
  unfold alF; rw [if_neg (by rw [h]; exact m1_ne (by omega)), if_pos hv, h, et]; rw [nI_clamp (show a < 2 ^ 31 by omega), nI_clamp (show t < 2 ^ 31 by omega)]
theorem alF_32 {S : Sx} {s a t : Nat} {c : Int32} (ha : a < 8) (ht : t < 10) (h : pp S s 0 c = nI a) (hv : S 2 (s * 5 + 1) = nI 32) (et : S 2 (s * 5 + 2) - nI 10 = nI t) : bi (mhP S (nI a) t) = alF S s c := by
  unfold alF; rw [if_neg (by rw [h]; exact m1_ne (by omega)), if_neg (by rw [hv]; decide), if_pos hv, h, et]; rw [nI_clamp (show t < 2 ^ 31 by omega)]
theorem alF_33 {S : Sx} {s a t b : Nat} {c : Int32} (ha : a < 8) (ht : t < 10) (hb : b < 8) (h : pp S s 0 c = nI a) (hv : S 2 (s * 5 + 1) = nI 33) (et : S 2 (s * 5 + 2) - nI 10 = nI t) (h2 : pp S s 1 c = nI b) : bi (agP S a t b) = alF S s c := by
  unfold alF; rw [if_neg (by rw [h]; exact m1_ne (by omega)), if_neg (by rw [hv]; decide), if_neg (by rw [hv]; decide), if_pos hv, if_neg (by rw [h2]; exact m1_ne (by omega)), h, et, h2]; rw [nI_clamp (show a < 2 ^ 31 by omega), nI_clamp (show t < 2 ^ 31 by omega), nI_clamp (show b < 2 ^ 31 by omega)]
theorem alF_33n {S : Sx} {s a : Nat} {c : Int32} (ha : a < 8) (h : pp S s 0 c = nI a) (hv : S 2 (s * 5 + 1) = nI 33) (h2 : pp S s 1 c = -1) : nI 0 = alF S s c := by
  unfold alF; rw [if_neg (by rw [h]; exact m1_ne (by omega)), if_neg (by rw [hv]; decide), if_neg (by rw [hv]; decide), if_pos hv, if_pos h2]
theorem alF_30 {S : Sx} {s a : Nat} {c : Int32} (ha : a < 8) (h : pp S s 0 c = nI a) (hv : S 2 (s * 5 + 1) = nI 30) : nI 1 = alF S s c := by
  unfold alF; rw [if_neg (by rw [h]; exact m1_ne (by omega)), if_neg (by rw [hv]; decide), if_neg (by rw [hv]; decide), if_neg (by rw [hv]; decide)]

set_option maxRecDepth 100000 in
set_option maxHeartbeats 4000000 in
theorem kX4_allows {G : Cx} {S : Sx} (hN : 80 ≤ gN G) {s : Nat} {c : Int32} (hs : s < 14) (ok : okS S s) : CT G 3 yX4_allows cX4_allows 6 (some .boolean) [ra G 7, ra G 1, .int (nI s), .int c] S (alF S s c) S := by
  refine CT_of (by decide) (Nat.le_of_ble_eq_true rfl) (by intro v hv; simp only [List.mem_cons, List.not_mem_nil, or_false] at hv; rcases hv with rfl | rfl | rfl | rfl <;> rfl) (fun F X E => ?_)
  have hR := RI_R E
  refine V_aload_n X dX4_allows_0 rfl ?_
  refine V_iload_n X dX4_allows_1 rfl ?_
  refine V_iconst X (nI 0) dX4_allows_2 (by decide) ?_
  refine V_iload_n X dX4_allows_3 rfl ?_
  refine V_cvi X (ltN (by decide) hN) rfl rfl rfl (kX2_person hN (by omega) (by omega)) cwX4_37 rfl (rm_ok hR (by decide) (by decide)) (Nat.le_of_ble_eq_true rfl) dX4_allows_4 ?_
  refine V_istore X dX4_allows_7 (by rw [hR.2]; decide) ?_
  refine V_iload X dX4_allows_9 rfl ?_
  refine V_iconst X (-1) dX4_allows_11 (by decide) ?_
  refine V_icmp_ne X 17 dX4_allows_12 (by decide) (fun h12 => ?_) (fun h12 => ?_)
  · rcases prs_ok (c := c) (t := 2 * s + 0) ok.1 with e0 | ⟨a, ha, e0⟩
    · exact absurd e0 h12
    rw [e0]
    refine V_aload_n X dX4_allows_17 rfl ?_
    refine V_iload_n X dX4_allows_18 rfl ?_
    refine V_cvi X (ltN (by decide) hN) rfl rfl rfl (kX2_object hN (by omega)) cwX4_43 rfl (rm_ok hR (by decide) (by decide)) (Nat.le_of_ble_eq_true rfl) dX4_allows_19 ?_
    refine V_bipush X (nI 10) dX4_allows_22 (by decide) ?_
    refine V_isub X dX4_allows_24 ?_
    refine V_istore X dX4_allows_25 (by rw [hR.2]; decide) ?_
    refine V_aload_n X dX4_allows_27 rfl ?_
    refine V_iload_n X dX4_allows_28 rfl ?_
    refine V_cvi X (ltN (by decide) hN) rfl rfl rfl (kX2_verb hN (by omega)) cwX4_47 rfl (rm_ok hR (by decide) (by decide)) (Nat.le_of_ble_eq_true rfl) dX4_allows_29 ?_
    rcases sw31_3 (S 2 (s * 5 + 1)) with h32 | h32 | h32 | h32
    · refine V_tabIn X 28 60 dX4_allows_32 (by rw [h32]; decide) (by rw [h32]; decide) (by rw [h32]; rfl) (by decide) ?_
      obtain ⟨t, ht, et⟩ := okS_T ok h32 (by decide) (by decide)
      rw [et]
      refine V_aload_n X dX4_allows_60 rfl ?_
      refine V_iload X dX4_allows_61 rfl ?_
      refine V_iload X dX4_allows_63 rfl ?_
      refine V_cvi X (ltN (by decide) hN) rfl rfl rfl (kX4_allowsTaking hN ha ht) cwX4_50 rfl (rm_ok hR (by decide) (by decide)) (Nat.le_of_ble_eq_true rfl) dX4_allows_65 ?_
      exact V_zret X E dX4_allows_68 (by first | exact Or.inl rfl | exact Or.inr rfl | exact bi_01 _) (alF_31 ha ht e0 h32 et) rfl
    · refine V_tabIn X 37 69 dX4_allows_32 (by rw [h32]; decide) (by rw [h32]; decide) (by rw [h32]; rfl) (by decide) ?_
      obtain ⟨t, ht, et⟩ := okS_T ok h32 (by decide) (by decide)
      rw [et]
      refine V_aload_n X dX4_allows_69 rfl ?_
      refine V_iload X dX4_allows_70 rfl ?_
      refine V_iload X dX4_allows_72 rfl ?_
      refine V_cvi X (ltN (by decide) hN) rfl rfl rfl (kX4_mayHave hN ht) cwX4_54 rfl (rm_ok hR (by decide) (by decide)) (Nat.le_of_ble_eq_true rfl) dX4_allows_74 ?_
      exact V_zret X E dX4_allows_77 (by first | exact Or.inl rfl | exact Or.inr rfl | exact bi_01 _) (alF_32 ha ht e0 h32 et) rfl
    · refine V_tabIn X 46 78 dX4_allows_32 (by rw [h32]; decide) (by rw [h32]; decide) (by rw [h32]; rfl) (by decide) ?_
      obtain ⟨t, ht, et⟩ := okS_T ok h32 (by decide) (by decide)
      rw [et]
      refine V_aload_n X dX4_allows_78 rfl ?_
      refine V_iload X dX4_allows_79 rfl ?_
      refine V_iload X dX4_allows_81 rfl ?_
      refine V_aload_n X dX4_allows_83 rfl ?_
      refine V_iload_n X dX4_allows_84 rfl ?_
      refine V_iconst X (nI 1) dX4_allows_85 (by decide) ?_
      refine V_iload_n X dX4_allows_86 rfl ?_
      refine V_cvi X (ltN (by decide) hN) rfl rfl rfl (kX2_person hN (by omega) (by omega)) cwX4_37 rfl (rm_ok hR (by decide) (by decide)) (Nat.le_of_ble_eq_true rfl) dX4_allows_87 ?_
      rcases prs_ok (c := c) (t := 2 * s + 1) ok.2.1 with e1 | ⟨b, hb, e1⟩
      · rw [e1]
        refine V_cvi X (ltN (by decide) hN) rfl rfl rfl (kX4_allowsGivingN hN) cwX4_57 rfl (rm_ok hR (by decide) (by decide)) (Nat.le_of_ble_eq_true rfl) dX4_allows_90 ?_
        exact V_zret X E dX4_allows_93 (by first | exact Or.inl rfl | exact Or.inr rfl | exact bi_01 _) (alF_33n ha e0 h32 e1) rfl
      · rw [e1]
        refine V_cvi X (ltN (by decide) hN) rfl rfl rfl (kX4_allowsGiving hN ha ht hb) cwX4_57 rfl (rm_ok hR (by decide) (by decide)) (Nat.le_of_ble_eq_true rfl) dX4_allows_90 ?_
        exact V_zret X E dX4_allows_93 (by first | exact Or.inl rfl | exact Or.inr rfl | exact bi_01 _) (alF_33 ha ht hb e0 h32 et e1) rfl
    · refine V_tabOut X 94 dX4_allows_32 h32 (by decide) ?_
      refine V_iconst X (nI 1) dX4_allows_94 (by decide) ?_
      exact V_zret X E dX4_allows_95 (by first | exact Or.inl rfl | exact Or.inr rfl | exact bi_01 _) (alF_30 ha e0 (okS_30 ok h32)) rfl
  · refine V_iconst X (nI 0) dX4_allows_15 (by decide) ?_
    exact V_zret X E dX4_allows_16 (by first | exact Or.inl rfl | exact Or.inr rfl | exact bi_01 _) (alF_n (ts_nn h12)) rfl

set_option maxRecDepth 100000 in
set_option maxHeartbeats 4000000 in
theorem kX4_forgetAll {G : Cx} {S : Sx} (hN : 80 ≤ gN G)  : CV G (0) yX4_forgetAll cX4_forgetAll 2 [ra G 7] S (clr S) := by
  refine CV_of (by decide) (Nat.le_of_ble_eq_true rfl) (by intro v hv; simp only [List.mem_cons, List.not_mem_nil, or_false] at hv; rcases hv with rfl <;> rfl) (fun F X E => ?_)
  have hR := RV_R E
  have loop2 : ∀ (S1 : Sx), S1 = clA S 8 → ∀ (k i : Nat) (S2 : Sx), i ≤ 10 → 10 - i < k → S2 = clB S1 i → V F G S2 31 [some (ra G 7), some (.int (nI i))] [] := by
    intro S1 e1 k
    induction k with
    | zero => intro i S2 h1 h2; omega
    | succ k ih =>
      intro i S2 h1 h2 hs
      refine V_iload_n X dX4_forgetAll_31 rfl ?_
      refine V_bipush X (nI 10) dX4_forgetAll_32 (by decide) ?_
      refine V_cN_ge X 73 (by omega) (by omega) dX4_forgetAll_34 (by decide) (fun h34 => ?_) (fun h34 => ?_)
      · exact V_vret X E dX4_forgetAll_73 (by rw [hs, show i = 10 by omega, e1]; rfl)
      · refine V_aload_n X dX4_forgetAll_37 rfl ?_
        refine V_getr X flX4_18 (ltN (by decide) hN) rfl rfl dX4_forgetAll_38 ?_
        refine V_iload_n X dX4_forgetAll_41 rfl ?_
        refine V_bipush X (-2) dX4_forgetAll_42 (by decide) ?_
        refine V_iastN X (ltN (by decide) hN) rfl (by omega) (by decide) dX4_forgetAll_44 ?_
        refine V_aload_n X dX4_forgetAll_45 rfl ?_
        refine V_getr X flX4_21 (ltN (by decide) hN) rfl rfl dX4_forgetAll_46 ?_
        refine V_iload_n X dX4_forgetAll_49 rfl ?_
        refine V_iconst X (nI 0) dX4_forgetAll_50 (by decide) ?_
        refine V_iastN X (ltN (by decide) hN) rfl (by omega) (by decide) dX4_forgetAll_51 ?_
        refine V_aload_n X dX4_forgetAll_52 rfl ?_
        refine V_getr X flX4_24 (ltN (by decide) hN) rfl rfl dX4_forgetAll_53 ?_
        refine V_iload_n X dX4_forgetAll_56 rfl ?_
        refine V_bipush X (-2) dX4_forgetAll_57 (by decide) ?_
        refine V_iastN X (ltN (by decide) hN) rfl (by omega) (by decide) dX4_forgetAll_59 ?_
        refine V_aload_n X dX4_forgetAll_60 rfl ?_
        refine V_getr X flX4_27 (ltN (by decide) hN) rfl rfl dX4_forgetAll_61 ?_
        refine V_iload_n X dX4_forgetAll_64 rfl ?_
        refine V_iconst X (nI 0) dX4_forgetAll_65 (by decide) ?_
        refine V_iastN X (ltN (by decide) hN) rfl (by omega) (by decide) dX4_forgetAll_66 ?_
        refine V_iinc X (nI (_ + 1)) dX4_forgetAll_67 (by rw [hR.2]; decide) rfl (nI_add _ 1) ?_
        refine V_goto X 31 dX4_forgetAll_70 (by decide) ?_
        exact ih (i + 1) _ (by omega) (by omega) (by rw [hs, clB_s])
  have loop1 : (∀ S1 : Sx, S1 = clA S 8 → V F G S1 29 [some (ra G 7), some (.int (nI 8))] []) → ∀ (k i : Nat) (S2 : Sx), i ≤ 8 → 8 - i < k → S2 = clA S i → V F G S2 2 [some (ra G 7), some (.int (nI i))] [] := by
    intro kx k
    induction k with
    | zero => intro i S2 h1 h2; omega
    | succ k ih =>
      intro i S2 h1 h2 hs
      refine V_iload_n X dX4_forgetAll_2 rfl ?_
      refine V_bipush X (nI 8) dX4_forgetAll_3 (by decide) ?_
      refine V_cN_ge X 29 (by omega) (by omega) dX4_forgetAll_5 (by decide) (fun h5 => ?_) (fun h5 => ?_)
      · rw [show i = 8 by omega] at hs ⊢
        exact kx _ hs
      · refine V_aload_n X dX4_forgetAll_8 rfl ?_
        refine V_getr X flX4_9 (ltN (by decide) hN) rfl rfl dX4_forgetAll_9 ?_
        refine V_iload_n X dX4_forgetAll_12 rfl ?_
        refine V_bipush X (-2) dX4_forgetAll_13 (by decide) ?_
        refine V_iastN X (ltN (by decide) hN) rfl (by omega) (by decide) dX4_forgetAll_15 ?_
        refine V_aload_n X dX4_forgetAll_16 rfl ?_
        refine V_getr X flX4_15 (ltN (by decide) hN) rfl rfl dX4_forgetAll_17 ?_
        refine V_iload_n X dX4_forgetAll_20 rfl ?_
        refine V_iconst X (nI 0) dX4_forgetAll_21 (by decide) ?_
        refine V_iastN X (ltN (by decide) hN) rfl (by omega) (by decide) dX4_forgetAll_22 ?_
        refine V_iinc X (nI (_ + 1)) dX4_forgetAll_23 (by rw [hR.2]; decide) rfl (nI_add _ 1) ?_
        refine V_goto X 2 dX4_forgetAll_26 (by decide) ?_
        exact ih (i + 1) _ (by omega) (by omega) (by rw [hs, clA_s])
  refine V_iconst X (nI 0) dX4_forgetAll_0 (by decide) ?_
  refine V_istore_n X dX4_forgetAll_1 (by rw [hR.2]; decide) ?_
  refine loop1 (fun S1 e1 => ?_) 9 0 S (by omega) (by omega) (clA_0 S).symm
  refine V_iconst X (nI 0) dX4_forgetAll_29 (by decide) ?_
  refine V_istore_n X dX4_forgetAll_30 (by rw [hR.2]; decide) ?_
  exact loop2 S1 e1 11 0 S1 (by omega) (by omega) (clB_0 S1).symm
end
section
theorem st_at {S : Sx} {c i q j : Nat} {x : Int32} : st S c i x q j = if q = c ∧ j = i then x else S q j := by
  unfold st upd; by_cases h : q = c
  · subst h; by_cases h2 : j = i <;> simp [h2]
  · simp [h]
theorem sInf_ne {S : Sx} {a q : Nat} {p fr : Int32} (h8 : q ≠ 8) (h9 : q ≠ 9) : sInf S a p fr q = S q := by
  unfold sInf; split
  · rw [st_ne h9, st_ne h8]
  · rfl
theorem sHand_ne {S : Sx} {a t q : Nat} {bit : Int32} (h8 : q ≠ 10) (h9 : q ≠ 11) : sHand S a t bit q = S q := by
  unfold sHand; rw [st_ne h9, st_ne h8]
theorem sTell_ne {S : Sx} {s q : Nat} {c : Int32} (h : q < 8 ∨ 13 < q) : sTell S s c q = S q := by
  unfold sTell
  split
  · rfl
  split
  · unfold sTake; split
    · rfl
    · rw [sHand_ne (by omega) (by omega)]; split
      · exact sInf_ne (by omega) (by omega)
      · rfl
  split
  · unfold sDrop; rw [st_ne (by omega), st_ne (by omega), st_ne (by omega), st_ne (by omega)]
  split
  · split
    · rfl
    · unfold sGive; rw [sHand_ne (by omega) (by omega), sInf_ne (by omega) (by omega), sInf_ne (by omega) (by omega)]
  · unfold sGo; rw [st_ne (by omega), st_ne (by omega)]
theorem clr_ne {S : Sx} {q : Nat} (h : q < 8 ∨ 13 < q) : clr S q = S q := by
  funext j; unfold clr clB clA
  rw [if_neg (by omega), if_neg (by omega), if_neg (by omega), if_neg (by omega)]
theorem goT_ne {S : Sx} {c : Int32} {q : Nat} (h : q < 8 ∨ 13 < q) : ∀ k, goT S c k q = S q
  | 0 => clr_ne h
  | k + 1 => (sTell_ne h).trans (goT_ne h k)
theorem okS_congr {S S' : Sx} {s : Nat} (h2 : S' 2 = S 2) (h3 : S' 3 = S 3) (h : okS S s) : okS S' s := by
  unfold okS at *; rw [h2, h3]; exact h

set_option maxRecDepth 100000 in
set_option maxHeartbeats 4000000 in
theorem kX4_goThrough {G : Cx} {S : Sx} (hN : 80 ≤ gN G) {k : Nat} {c : Int32} (hk : k ≤ 14) (hok : ∀ s, s < k → okS S s) : CV G (4) yX4_goThrough cX4_goThrough 5 [ra G 7, ra G 1, .int (nI k), .int c] S (goT S c k) := by
  refine CV_of (by decide) (Nat.le_of_ble_eq_true rfl) (by intro v hv; simp only [List.mem_cons, List.not_mem_nil, or_false] at hv; rcases hv with rfl | rfl | rfl | rfl <;> rfl) (fun F X E => ?_)
  have hR := RV_R E
  have loop : ∀ (f i : Nat) (S1 : Sx), i ≤ k → k - i < f → S1 = goT S c i → V F G S1 7 [some (ra G 7), some (ra G 1), some (.int (nI k)), some (.int c), some (.int (nI i))] [] := by
    intro f
    induction f with
    | zero => intro i S1 h1 h2; omega
    | succ f ih =>
      intro i S1 h1 h2 hs
      refine V_iload X dX4_goThrough_7 rfl ?_
      refine V_iload_n X dX4_goThrough_9 rfl ?_
      refine V_cN_ge X 27 (by omega) (by omega) dX4_goThrough_10 (by decide) (fun h10 => ?_) (fun h10 => ?_)
      · exact V_vret X E dX4_goThrough_27 (by rw [hs, show i = k by omega])
      · refine V_aload_n X dX4_goThrough_13 rfl ?_
        refine V_aload_n X dX4_goThrough_14 rfl ?_
        refine V_iload X dX4_goThrough_15 rfl ?_
        refine V_iload_n X dX4_goThrough_17 rfl ?_
        refine V_cvv X (ltN (by decide) hN) rfl rfl rfl (kX4_tell hN (by omega) (okS_congr (by rw [hs]; exact goT_ne (by omega) i) (by rw [hs]; exact goT_ne (by omega) i) (hok i (by omega)))) cwX4_33 rfl (rm_ok hR (by decide) (by decide)) (Nat.le_of_ble_eq_true rfl) dX4_goThrough_18 ?_
        refine V_iinc X (nI (_ + 1)) dX4_goThrough_21 (by rw [hR.2]; decide) rfl (nI_add _ 1) ?_
        refine V_goto X 7 dX4_goThrough_24 (by decide) ?_
        exact ih (i + 1) _ (by omega) (by omega) (by rw [hs]; rfl)
  refine V_aload_n X dX4_goThrough_0 rfl ?_
  refine V_cvv X (ltN (by decide) hN) rfl rfl rfl (kX4_forgetAll hN) cwX4_30 rfl (rm_ok hR (by decide) (by decide)) (Nat.le_of_ble_eq_true rfl) dX4_goThrough_1 ?_
  refine V_iconst X (nI 0) dX4_goThrough_4 (by decide) ?_
  refine V_istore X dX4_goThrough_5 (by rw [hR.2]; decide) ?_
  exact loop (k + 1) 0 _ (by omega) (by omega) rfl

def acN (k : Nat) : Nat := if k = 1 ∨ k = 2 then 10 else 8
def acF (x : Int32) : Int32 := if x = nI 1 ∨ x = nI 2 then nI 10 else nI 8
theorem acF_n {k : Nat} (hk : k < 2147483648) : acF (nI k) = nI (acN k) := by
  unfold acF acN
  by_cases h : k = 1 ∨ k = 2
  · rw [if_pos h, if_pos]; rcases h with rfl | rfl; exact Or.inl rfl; exact Or.inr rfl
  · rw [if_neg h, if_neg]; intro q; rcases q with q | q
    · exact h (Or.inl ((nI_eq hk (by decide)).mp q))
    · exact h (Or.inr ((nI_eq hk (by decide)).mp q))
def qix (k a : Nat) : Nat := if k = 0 then a else if k = 1 then 8 + a else if k = 2 then 18 + a else 28 + a
abbrev okQ (x y : Int32) : Prop := 0 ≤ x.toInt ∧ x.toInt < 4 ∧ 0 ≤ y.toInt ∧ y.toInt < acN x.toNatClampNeg
def qnF (x y : Int32) : Int32 := if okQ x y then nI (qix x.toNatClampNeg y.toNatClampNeg) else -1
theorem okQ_n {k a : Nat} (hk : k < 2147483648) (ha : a < 2147483648) : okQ (nI k) (nI a) ↔ k < 4 ∧ a < acN k := by
  unfold okQ; rw [nI_toInt hk, nI_toInt ha, nI_clamp hk]; omega
theorem okQ_q {k a : Nat} : (k < 4 ∧ a < acN k) ↔ qOk k a := by
  unfold acN qOk; split <;> omega
theorem qnF_n {k a : Nat} (h : qOk k a) : qnF (nI k) (nI a) = nI (qix k a) := by
  have h1 : k < 4 ∧ a < 10 := by unfold qOk at h; omega
  unfold qnF; rw [if_pos ((okQ_n (by omega) (by omega)).mpr (okQ_q.mpr h)), nI_clamp (by omega), nI_clamp (by omega)]
theorem okQ_nat {x y : Int32} (h : okQ x y) : ∃ k a, qOk k a ∧ x = nI k ∧ y = nI a := by
  obtain ⟨h1, h2, h3, h4⟩ := h
  have e1 : x = nI x.toNatClampNeg := i_of (by have := Int32.toNat_toInt x; omega) (by have := Int32.toNat_toInt x; omega)
  have hac : acN x.toNatClampNeg ≤ 10 := by unfold acN; split <;> omega
  have e2 : y = nI y.toNatClampNeg := i_of (by have := Int32.toNat_toInt y; omega) (by have := Int32.toNat_toInt y; omega)
  refine ⟨x.toNatClampNeg, y.toNatClampNeg, ?_, e1, e2⟩
  have := Int32.toNat_toInt x
  have := Int32.toNat_toInt y
  exact okQ_q.mp ⟨by omega, by omega⟩
theorem qix_36 {k a : Nat} (h : qOk k a) : qix k a < 36 := by unfold qOk at h; unfold qix; split <;> (try split) <;> (try split) <;> omega
theorem qnF_no {x y : Int32} (h : ¬ okQ x y) : (-1 : Int32) = qnF x y := by unfold qnF; rw [if_neg h]
theorem qnF_or (x y : Int32) : (¬ okQ x y ∧ qnF x y = -1) ∨ ∃ k a, qOk k a ∧ x = nI k ∧ y = nI a ∧ qnF x y = nI (qix k a) := by
  by_cases h : okQ x y
  · obtain ⟨k, a, hq, rfl, rfl⟩ := okQ_nat h
    exact Or.inr ⟨k, a, hq, rfl, rfl, qnF_n hq⟩
  · exact Or.inl ⟨h, (qnF_no h).symm⟩

set_option maxRecDepth 100000 in
set_option maxHeartbeats 4000000 in
theorem kX5_aboutCount {G : Cx} {S : Sx}  {x : Int32} : CT G (0) yX5_aboutCount cX5_aboutCount 1 (some .int) [.int x] S (acF x) (S) := by
  refine CT_of (by decide) (Nat.le_of_ble_eq_true rfl) (by intro v hv; simp only [List.mem_cons, List.not_mem_nil, or_false] at hv; rcases hv with rfl <;> rfl) (fun F X E => ?_)
  have hR := RI_R E
  refine V_iload_n X dX5_aboutCount_0 rfl ?_
  refine V_iconst X (nI 1) dX5_aboutCount_1 (by decide) ?_
  refine V_icmp_eq X 10 dX5_aboutCount_2 (by decide) (fun h2 => ?_) (fun h2 => ?_)
  · refine V_bipush X (nI 10) dX5_aboutCount_10 (by decide) ?_
    refine V_goto X 17 dX5_aboutCount_12 (by decide) ?_
    exact V_iret X E dX5_aboutCount_17 (by unfold acF; first | exact (if_pos (Or.inl h2)).symm | exact (if_pos (Or.inr (ts_nn h7))).symm | exact (if_neg (fun q => q.elim h2 h7)).symm) rfl
  · refine V_iload_n X dX5_aboutCount_5 rfl ?_
    refine V_iconst X (nI 2) dX5_aboutCount_6 (by decide) ?_
    refine V_icmp_ne X 15 dX5_aboutCount_7 (by decide) (fun h7 => ?_) (fun h7 => ?_)
    · refine V_bipush X (nI 8) dX5_aboutCount_15 (by decide) ?_
      exact V_iret X E dX5_aboutCount_17 (by unfold acF; first | exact (if_pos (Or.inl h2)).symm | exact (if_pos (Or.inr (ts_nn h7))).symm | exact (if_neg (fun q => q.elim h2 h7)).symm) rfl
    · refine V_bipush X (nI 10) dX5_aboutCount_10 (by decide) ?_
      refine V_goto X 17 dX5_aboutCount_12 (by decide) ?_
      exact V_iret X E dX5_aboutCount_17 (by unfold acF; first | exact (if_pos (Or.inl h2)).symm | exact (if_pos (Or.inr (ts_nn h7))).symm | exact (if_neg (fun q => q.elim h2 h7)).symm) rfl

theorem nb' {y : Int32} {w : Nat} (h0 : ¬ y < 0) (h : ¬ nI w ≤ y) (hw : w < 2147483648) : ∃ j, j < w ∧ y = nI j := by
  obtain ⟨j, hj, rfl⟩ := nI_of h0
  exact ⟨j, Nat.lt_of_not_le (fun z => h ((nI_leI hw hj).mpr z)), rfl⟩
set_option maxRecDepth 100000 in
set_option maxHeartbeats 4000000 in
theorem kX5_questionNumber {G : Cx} {S : Sx} {x y : Int32} : CT G 1 yX5_questionNumber cX5_questionNumber 2 (some .int) [.int x, .int y] S (qnF x y) S := by
  refine CT_of (by decide) (Nat.le_of_ble_eq_true rfl) (by intro v hv; simp only [List.mem_cons, List.not_mem_nil, or_false] at hv; rcases hv with rfl | rfl <;> rfl) (fun F X E => ?_)
  have hR := RI_R E
  by_cases hq0 : okQ x y
  · obtain ⟨k, a, hq, rfl, rfl⟩ := okQ_nat hq0
    have hka : k < 4 ∧ a < acN k := okQ_q.mpr hq
    have hac : acN k ≤ 10 := by unfold acN; split <;> omega
    rw [qnF_n hq] at E
    refine V_iload_n X dX5_questionNumber_0 rfl ?_
    refine V_iN_lt X 21 (by omega) dX5_questionNumber_1 (by decide) ?_
    refine V_iload_n X dX5_questionNumber_4 rfl ?_
    refine V_iconst X (nI 4) dX5_questionNumber_5 (by decide) ?_
    refine V_cN_ge X 21 (by omega) (by omega) dX5_questionNumber_6 (by decide) (fun h6 => ?_) (fun h6 => ?_)
    · omega
    · refine V_iload_n X dX5_questionNumber_9 rfl ?_
      refine V_iN_lt X 21 (by omega) dX5_questionNumber_10 (by decide) ?_
      refine V_iload_n X dX5_questionNumber_13 rfl ?_
      refine V_iload_n X dX5_questionNumber_14 rfl ?_
      refine V_csi X (kX5_aboutCount ) cwX5_190 rfl (rm_ok hR (by decide) (by decide)) (Nat.le_of_ble_eq_true rfl) dX5_questionNumber_15 ?_
      refine V_top (nI (acN k)) (acF_n (by omega)) ?_
      refine V_cN_lt X 23 (by omega) (by omega) dX5_questionNumber_18 (by decide) (fun h18 => ?_) (fun h18 => ?_)
      · refine V_iload_n X dX5_questionNumber_23 rfl ?_
        rcases (show k = 0 ∨ k = 1 ∨ k = 2 ∨ 2 < k by omega) with rfl | rfl | rfl | h24
        · refine V_tabIn X 28 52 dX5_questionNumber_24 (by decide) (by decide) rfl (by decide) ?_
          refine V_iload_n X dX5_questionNumber_52 rfl ?_
          exact V_iret X E dX5_questionNumber_53 (by unfold qix; first | rfl | (rw [if_neg (by omega), if_neg (by omega), if_neg (by omega)])) rfl
        · refine V_tabIn X 30 54 dX5_questionNumber_24 (by decide) (by decide) rfl (by decide) ?_
          refine V_bipush X (nI 8) dX5_questionNumber_54 (by decide) ?_
          refine V_iload_n X dX5_questionNumber_56 rfl ?_
          refine V_addN X dX5_questionNumber_57 ?_
          exact V_iret X E dX5_questionNumber_58 (by unfold qix; first | rfl | (rw [if_neg (by omega), if_neg (by omega), if_neg (by omega)])) rfl
        · refine V_tabIn X 35 59 dX5_questionNumber_24 (by decide) (by decide) rfl (by decide) ?_
          refine V_bipush X (nI 18) dX5_questionNumber_59 (by decide) ?_
          refine V_iload_n X dX5_questionNumber_61 rfl ?_
          refine V_addN X dX5_questionNumber_62 ?_
          exact V_iret X E dX5_questionNumber_63 (by unfold qix; first | rfl | (rw [if_neg (by omega), if_neg (by omega), if_neg (by omega)])) rfl
        · refine V_tabOut X 64 dX5_questionNumber_24 (Or.inr (by rw [nI_toInt (by omega)]; omega)) (by decide) ?_
          refine V_bipush X (nI 28) dX5_questionNumber_64 (by decide) ?_
          refine V_iload_n X dX5_questionNumber_66 rfl ?_
          refine V_addN X dX5_questionNumber_67 ?_
          exact V_iret X E dX5_questionNumber_68 (by unfold qix; first | rfl | (rw [if_neg (by omega), if_neg (by omega), if_neg (by omega)])) rfl
      · omega
  · refine V_iload_n X dX5_questionNumber_0 rfl ?_
    refine V_if_lt X 21 dX5_questionNumber_1 (by decide) (fun h1 => ?_) (fun h1 => ?_)
    · refine V_iconst X (-1) dX5_questionNumber_21 (by decide) ?_
      exact V_iret X E dX5_questionNumber_22 (qnF_no hq0) rfl
    · refine V_iload_n X dX5_questionNumber_4 rfl ?_
      refine V_iconst X (nI 4) dX5_questionNumber_5 (by decide) ?_
      refine V_icmp_ge X 21 dX5_questionNumber_6 (by decide) (fun h6 => ?_) (fun h6 => ?_)
      · refine V_iconst X (-1) dX5_questionNumber_21 (by decide) ?_
        exact V_iret X E dX5_questionNumber_22 (qnF_no hq0) rfl
      · refine V_iload_n X dX5_questionNumber_9 rfl ?_
        refine V_if_lt X 21 dX5_questionNumber_10 (by decide) (fun h10 => ?_) (fun h10 => ?_)
        · refine V_iconst X (-1) dX5_questionNumber_21 (by decide) ?_
          exact V_iret X E dX5_questionNumber_22 (qnF_no hq0) rfl
        · refine V_iload_n X dX5_questionNumber_13 rfl ?_
          refine V_iload_n X dX5_questionNumber_14 rfl ?_
          refine V_csi X (kX5_aboutCount ) cwX5_190 rfl (rm_ok hR (by decide) (by decide)) (Nat.le_of_ble_eq_true rfl) dX5_questionNumber_15 ?_
          refine V_icmp_lt X 23 dX5_questionNumber_18 (by decide) (fun h18 => ?_) (fun h18 => ?_)
          · exfalso
            apply hq0
            obtain ⟨k, hk, rfl⟩ := nb' h1 h6 (by decide)
            rw [acF_n (by omega)] at h18
            have hac : acN k ≤ 10 := by unfold acN; split <;> omega
            obtain ⟨a, ha, rfl⟩ := nb h10 h18 (by omega)
            exact (okQ_n (by omega) (by omega)).mpr ⟨hk, ha⟩
          · refine V_iconst X (-1) dX5_questionNumber_21 (by decide) ?_
            exact V_iret X E dX5_questionNumber_22 (qnF_no hq0) rfl

set_option maxRecDepth 100000 in
set_option maxHeartbeats 4000000 in
theorem kX1_begin {G : Cx} {S : Sx} (hN : 80 ≤ gN G) {k q : Nat} {v b : Int32} (hk : k < 15) (hq : q < 36) : CV G (1) yX1_begin cX1_begin 5 [ra G 14, .int (nI k), .int (nI q), .int v, .int b] S (st (st (st S (35 + k) q v) (50 + k) q (bcF b)) (65 + k) q b) := by
  refine CV_of (by decide) (Nat.le_of_ble_eq_true rfl) (by intro v hv; simp only [List.mem_cons, List.not_mem_nil, or_false] at hv; rcases hv with rfl | rfl | rfl | rfl | rfl <;> rfl) (fun F X E => ?_)
  have hR := RV_R E
  refine V_aload_n X dX1_begin_0 rfl ?_
  refine V_getr X flX1_11 (ltN (by decide) hN) rfl rfl dX1_begin_1 ?_
  refine V_iload_n X dX1_begin_4 rfl ?_
  refine V_aaldN X (ltN (by decide) hN) rfl (by omega) dX1_begin_5 ?_
  refine V_iload_n X dX1_begin_6 rfl ?_
  refine V_iload_n X dX1_begin_7 rfl ?_
  refine V_iastN X (ltN (by omega) hN) (ds_fnd (by omega) (by omega)) (by omega) (by decide) dX1_begin_8 ?_
  refine V_aload_n X dX1_begin_9 rfl ?_
  refine V_getr X flX1_16 (ltN (by decide) hN) rfl rfl dX1_begin_10 ?_
  refine V_iload_n X dX1_begin_13 rfl ?_
  refine V_aaldN X (ltN (by decide) hN) rfl (by omega) dX1_begin_14 ?_
  refine V_iload_n X dX1_begin_15 rfl ?_
  refine V_iload X dX1_begin_16 rfl ?_
  refine V_csi X (kJ6_bitCount_0f7a4 ) cwX1_45 rfl (rm_ok hR (by decide) (by decide)) (Nat.le_of_ble_eq_true rfl) dX1_begin_18 ?_
  refine V_iastN X (ltN (by omega) hN) (ds_fnd (by omega) (by omega)) (by omega) (by decide) dX1_begin_21 ?_
  refine V_aload_n X dX1_begin_22 rfl ?_
  refine V_getr X flX1_19 (ltN (by decide) hN) rfl rfl dX1_begin_23 ?_
  refine V_iload_n X dX1_begin_26 rfl ?_
  refine V_aaldN X (ltN (by decide) hN) rfl (by omega) dX1_begin_27 ?_
  refine V_iload_n X dX1_begin_28 rfl ?_
  refine V_iload X dX1_begin_29 rfl ?_
  refine V_iastN X (ltN (by omega) hN) (ds_fnd (by omega) (by omega)) (by omega) (by decide) dX1_begin_31 ?_
  exact V_vret X E dX1_begin_32 rfl

def mx (x y : Int32) : Int32 := if x < y then y else x
def jn1 (S : Sx) (k q : Nat) (v : Int32) : Sx := if S (35 + k) q = v then S else st S (35 + k) q (-3)
def jnF (S : Sx) (k q : Nat) (v b : Int32) : Sx := st (st (jn1 S k q v) (50 + k) q (mx (S (50 + k) q) (bcF b))) (65 + k) q (S (65 + k) q &&& b)
theorem jn1_ne {S : Sx} {k q c : Nat} {v : Int32} (h : c ≠ 35 + k) : jn1 S k q v c = S c := by unfold jn1; split; rfl; exact st_ne h
set_option maxRecDepth 100000 in
set_option maxHeartbeats 4000000 in
theorem kX1_join {G : Cx} {S : Sx} (hN : 80 ≤ gN G) {k q : Nat} {v b : Int32} (hk : k < 15) (hq : q < 36) : CV G (1) yX1_join cX1_join 5 [ra G 14, .int (nI k), .int (nI q), .int v, .int b] S (jnF S k q v b) := by
  refine CV_of (by decide) (Nat.le_of_ble_eq_true rfl) (by intro v hv; simp only [List.mem_cons, List.not_mem_nil, or_false] at hv; rcases hv with rfl | rfl | rfl | rfl | rfl <;> rfl) (fun F X E => ?_)
  have hR := RV_R E
  refine V_aload_n X dX1_join_0 rfl ?_
  refine V_getr X flX1_11 (ltN (by decide) hN) rfl rfl dX1_join_1 ?_
  refine V_iload_n X dX1_join_4 rfl ?_
  refine V_aaldN X (ltN (by decide) hN) rfl (by omega) dX1_join_5 ?_
  refine V_iload_n X dX1_join_6 rfl ?_
  refine V_ialdN X (ltN (by omega) hN) (ds_fnd (by omega) (by omega)) (by omega) (by decide) dX1_join_7 ?_
  refine V_iload_n X dX1_join_8 rfl ?_
  refine V_icmp_eq X 22 dX1_join_9 (by decide) (fun h9 => ?_) (fun h9 => ?_)
  · refine V_aload_n X dX1_join_22 rfl ?_
    refine V_getr X flX1_16 (ltN (by decide) hN) rfl rfl dX1_join_23 ?_
    refine V_iload_n X dX1_join_26 rfl ?_
    refine V_aaldN X (ltN (by decide) hN) rfl (by omega) dX1_join_27 ?_
    refine V_iload_n X dX1_join_28 rfl ?_
    refine V_aload_n X dX1_join_29 rfl ?_
    refine V_getr X flX1_16 (ltN (by decide) hN) rfl rfl dX1_join_30 ?_
    refine V_iload_n X dX1_join_33 rfl ?_
    refine V_aaldN X (ltN (by decide) hN) rfl (by omega) dX1_join_34 ?_
    refine V_iload_n X dX1_join_35 rfl ?_
    refine V_ialdN X (ltN (by omega) hN) (ds_fnd (by omega) (by omega)) (by omega) (by decide) dX1_join_36 ?_
    refine V_iload X dX1_join_37 rfl ?_
    refine V_csi X (kJ6_bitCount_0f7a4 ) cwX1_45 rfl (rm_ok hR (by decide) (by decide)) (Nat.le_of_ble_eq_true rfl) dX1_join_39 ?_
    refine V_imax X hR (by decide) (Nat.le_of_ble_eq_true rfl) cwX1_50 dX1_join_42 ?_
    refine V_iastN X (ltN (by omega) hN) (ds_fnd (by omega) (by omega)) (by omega) (by decide) dX1_join_45 ?_
    refine V_aload_n X dX1_join_46 rfl ?_
    refine V_getr X flX1_19 (ltN (by decide) hN) rfl rfl dX1_join_47 ?_
    refine V_iload_n X dX1_join_50 rfl ?_
    refine V_aaldN X (ltN (by decide) hN) rfl (by omega) dX1_join_51 ?_
    refine V_iload_n X dX1_join_52 rfl ?_
    refine V_dup2 X dX1_join_53 ?_
    refine V_ialdN X (ltN (by omega) hN) (ds_fnd (by omega) (by omega)) (by omega) (by decide) dX1_join_54 ?_
    refine V_iload X dX1_join_55 rfl ?_
    refine V_iand X dX1_join_57 ?_
    refine V_iastN X (ltN (by omega) hN) (ds_fnd (by omega) (by omega)) (by omega) (by decide) dX1_join_58 ?_
    exact V_vret X E dX1_join_59 (by unfold jnF; first | (rw [show jn1 S k q v = S from if_pos h9, st_ne (by omega)]; rfl) | (rw [show jn1 S k q v = st S (35 + k) q (-3) from if_neg h9, st_ne (by omega), st_ne (by omega), st_ne (by omega)]; rfl))
  · refine V_aload_n X dX1_join_12 rfl ?_
    refine V_getr X flX1_11 (ltN (by decide) hN) rfl rfl dX1_join_13 ?_
    refine V_iload_n X dX1_join_16 rfl ?_
    refine V_aaldN X (ltN (by decide) hN) rfl (by omega) dX1_join_17 ?_
    refine V_iload_n X dX1_join_18 rfl ?_
    refine V_bipush X (-3) dX1_join_19 (by decide) ?_
    refine V_iastN X (ltN (by omega) hN) (ds_fnd (by omega) (by omega)) (by omega) (by decide) dX1_join_21 ?_
    refine V_aload_n X dX1_join_22 rfl ?_
    refine V_getr X flX1_16 (ltN (by decide) hN) rfl rfl dX1_join_23 ?_
    refine V_iload_n X dX1_join_26 rfl ?_
    refine V_aaldN X (ltN (by decide) hN) rfl (by omega) dX1_join_27 ?_
    refine V_iload_n X dX1_join_28 rfl ?_
    refine V_aload_n X dX1_join_29 rfl ?_
    refine V_getr X flX1_16 (ltN (by decide) hN) rfl rfl dX1_join_30 ?_
    refine V_iload_n X dX1_join_33 rfl ?_
    refine V_aaldN X (ltN (by decide) hN) rfl (by omega) dX1_join_34 ?_
    refine V_iload_n X dX1_join_35 rfl ?_
    refine V_ialdN X (ltN (by omega) hN) (ds_fnd (by omega) (by omega)) (by omega) (by decide) dX1_join_36 ?_
    refine V_iload X dX1_join_37 rfl ?_
    refine V_csi X (kJ6_bitCount_0f7a4 ) cwX1_45 rfl (rm_ok hR (by decide) (by decide)) (Nat.le_of_ble_eq_true rfl) dX1_join_39 ?_
    refine V_imax X hR (by decide) (Nat.le_of_ble_eq_true rfl) cwX1_50 dX1_join_42 ?_
    refine V_iastN X (ltN (by omega) hN) (ds_fnd (by omega) (by omega)) (by omega) (by decide) dX1_join_45 ?_
    refine V_aload_n X dX1_join_46 rfl ?_
    refine V_getr X flX1_19 (ltN (by decide) hN) rfl rfl dX1_join_47 ?_
    refine V_iload_n X dX1_join_50 rfl ?_
    refine V_aaldN X (ltN (by decide) hN) rfl (by omega) dX1_join_51 ?_
    refine V_iload_n X dX1_join_52 rfl ?_
    refine V_dup2 X dX1_join_53 ?_
    refine V_ialdN X (ltN (by omega) hN) (ds_fnd (by omega) (by omega)) (by omega) (by decide) dX1_join_54 ?_
    refine V_iload X dX1_join_55 rfl ?_
    refine V_iand X dX1_join_57 ?_
    refine V_iastN X (ltN (by omega) hN) (ds_fnd (by omega) (by omega)) (by omega) (by decide) dX1_join_58 ?_
    exact V_vret X E dX1_join_59 (by unfold jnF; first | (rw [show jn1 S k q v = S from if_pos h9, st_ne (by omega)]; rfl) | (rw [show jn1 S k q v = st S (35 + k) q (-3) from if_neg h9, st_ne (by omega), st_ne (by omega), st_ne (by omega)]; rfl))

def qk (q : Nat) : Nat := if q < 8 then 0 else if q < 18 then 1 else if q < 28 then 2 else 3
def qa (q : Nat) : Nat := if q < 8 then q else if q < 18 then q - 8 else if q < 28 then q - 18 else q - 28
def vq (S : Sx) (q : Nat) : Int32 := vl S (qk q) (qa q)
def bq (S : Sx) (q : Nat) : Int32 := bs S (qk q) (qa q)
def qb (k : Nat) : Nat := if k = 0 then 0 else if k = 1 then 8 else if k = 2 then 18 else if k = 3 then 28 else 36
theorem qb_s {k : Nat} (h : k < 4) : qb (k + 1) = qb k + acN k := by rcases (show k = 0 ∨ k = 1 ∨ k = 2 ∨ k = 3 by omega) with rfl | rfl | rfl | rfl <;> decide
theorem qix_b {k a : Nat} (h : k < 4) : qix k a = qb k + a := by rcases (show k = 0 ∨ k = 1 ∨ k = 2 ∨ k = 3 by omega) with rfl | rfl | rfl | rfl <;> simp [qix, qb]
theorem qk_b {k a : Nat} (h : qOk k a) : qk (qb k + a) = k ∧ qa (qb k + a) = a := by
  have h4 := h.1
  unfold qOk at h
  rcases (show k = 0 ∨ k = 1 ∨ k = 2 ∨ k = 3 by omega) with rfl | rfl | rfl | rfl
  · simp only [qk, qa, qb]; refine ⟨?_, ?_⟩ <;> simp <;> omega
  · simp only [qk, qa, qb]; refine ⟨?_, ?_⟩ <;> simp <;> (repeat' split) <;> omega
  · simp only [qk, qa, qb]; refine ⟨?_, ?_⟩ <;> simp <;> (repeat' split) <;> omega
  · simp only [qk, qa, qb]; refine ⟨?_, ?_⟩ <;> simp <;> (repeat' split) <;> omega
/-- what is heard of the first i questions -/
def hrF (S : Sx) (k fb i : Nat) : Sx := fun c q => if q < i then (if c = 35 + k then (if fb = 0 then (if S c q = vq S q then S c q else -3) else vq S q) else if c = 50 + k then (if fb = 0 then mx (S c q) (bcF (bq S q)) else bcF (bq S q)) else if c = 65 + k then (if fb = 0 then S c q &&& bq S q else bq S q) else S c q) else S c q
theorem hrF_0 (S : Sx) (k fb : Nat) : hrF S k fb 0 = S := by funext c q; simp [hrF]
theorem hrF_ne {S : Sx} {k fb i c : Nat} (h1 : c ≠ 35 + k) (h2 : c ≠ 50 + k) (h3 : c ≠ 65 + k) : hrF S k fb i c = S c := by funext q; simp [hrF, h1, h2, h3]
theorem hrF_w {S : Sx} {k fb i c : Nat} (hc : c < 35) : hrF S k fb i c = S c := hrF_ne (by omega) (by omega) (by omega)
theorem vl_congr {S S' : Sx} (h : ∀ c, 8 ≤ c → c ≤ 13 → S' c = S c) (k a : Nat) : vl S' k a = vl S k a := by
  unfold vl tpl; rw [h 8 (by decide) (by decide), h 10 (by decide) (by decide), h 12 (by decide) (by decide)]
theorem hbs_congr {S S' : Sx} (h : ∀ c, 8 ≤ c → c ≤ 13 → S' c = S c) (x : Int32) : ∀ n, hbs S' x n = hbs S x n
  | 0 => rfl
  | n + 1 => by unfold hbs; rw [h 10 (by decide) (by decide), h 11 (by decide) (by decide), hbs_congr h x n]
theorem bs_congr {S S' : Sx} (h : ∀ c, 8 ≤ c → c ≤ 13 → S' c = S c) (k a : Nat) : bs S' k a = bs S k a := by
  unfold bs tpb tpl; rw [h 8 (by decide) (by decide), h 9 (by decide) (by decide), h 10 (by decide) (by decide), h 11 (by decide) (by decide), h 12 (by decide) (by decide), h 13 (by decide) (by decide), hbs_congr h]
theorem hrF_at {S : Sx} {k fb i c q : Nat} (h : i ≤ q) : hrF S k fb i c q = S c q := by unfold hrF; rw [if_neg (by omega)]
theorem hrF_s1 {S : Sx} {k i : Nat} {v b : Int32} (hv : v = vq S i) (hb : b = bq S i) : st (st (st (hrF S k 1 i) (35 + k) i v) (50 + k) i (bcF b)) (65 + k) i b = hrF S k 1 (i + 1) := by
  funext c q
  simp only [st_at]
  by_cases hq : q = i
  · subst hq
    by_cases h1 : c = 65 + k
    · subst h1; simp [hrF, hb] <;> omega
    · by_cases h2 : c = 50 + k
      · subst h2; simp [hrF, hb] <;> omega
      · by_cases h3 : c = 35 + k
        · subst h3; simp [hrF, hv] <;> omega
        · simp [hrF, h1, h2, h3]
  · have e : (q < i + 1) = (q < i) := propext ⟨fun _ => by omega, fun _ => by omega⟩
    simp [hrF, hq, e]
theorem hrF_s0 {S : Sx} {k i : Nat} {v b : Int32} (hv : v = vq S i) (hb : b = bq S i) : jnF (hrF S k 0 i) k i v b = hrF S k 0 (i + 1) := by
  funext c q
  unfold jnF
  simp only [st_at, hrF_at (Nat.le_refl i)]
  have hj : jn1 (hrF S k 0 i) k i v c q = if c = 35 + k ∧ q = i then (if S c q = v then S c q else -3) else hrF S k 0 i c q := by
    unfold jn1
    rw [hrF_at (Nat.le_refl i)]
    by_cases hc : c = 35 + k ∧ q = i
    · obtain ⟨rfl, rfl⟩ := hc
      by_cases hh : S (35 + k) q = v
      · simp [hh, hrF]
      · simp [hh, st_at]
    · by_cases hh : S (35 + k) i = v
      · simp [hh, hc]
      · simp [hh, st_at, hc]
  rw [hj]
  by_cases hq : q = i
  · subst hq
    by_cases h1 : c = 65 + k
    · subst h1; simp [hrF, hb] <;> omega
    · by_cases h2 : c = 50 + k
      · subst h2; simp [hrF, hb] <;> omega
      · by_cases h3 : c = 35 + k
        · subst h3; simp [hrF, hv] <;> omega
        · simp [hrF, h1, h2, h3]
  · have e : (q < i + 1) = (q < i) := propext ⟨fun _ => by omega, fun _ => by omega⟩
    simp [hrF, hq, e]

set_option maxRecDepth 100000 in
set_option maxHeartbeats 4000000 in
theorem kX1_hear {G : Cx} {S : Sx} (hN : 80 ≤ gN G) {k fb : Nat} (hk : k < 15) (hfb1 : fb < 2) : CV G (4) yX1_hear cX1_hear 7 [ra G 14, .int (nI k), ra G 7, .int (nI fb)] S (hrF S k fb 36) := by
  refine CV_of (by decide) (Nat.le_of_ble_eq_true rfl) (by intro v hv; simp only [List.mem_cons, List.not_mem_nil, or_false] at hv; rcases hv with rfl | rfl | rfl | rfl <;> rfl) (fun F X E => ?_)
  have hR := RV_R E
  have loopA : ∀ (kd : Nat) (hkd : kd < 4), (∀ (S2 : Sx) (w : Option Value), S2 = hrF S k fb (qb kd + acN kd) → V F G S2 90 [some (ra G 14), some (.int (nI k)), some (ra G 7), some (.int (nI fb)), some (.int (nI kd)), some (.int (nI (acN kd))), w] []) → ∀ (f a : Nat) (S1 : Sx) (w : Option Value), a ≤ acN kd → acN kd - a < f → S1 = hrF S k fb (qb kd + a) → V F G S1 12 [some (ra G 14), some (.int (nI k)), some (ra G 7), some (.int (nI fb)), some (.int (nI kd)), some (.int (nI a)), w] [] := by
    intro kd hkd kx f
    induction f with
    | zero => intro a S1 w h1 h2; omega
    | succ f ih =>
      intro a S1 w h1 h2 hs
      have hac : acN kd ≤ 10 := by unfold acN; split <;> omega
      refine V_iload X dX1_hear_12 rfl ?_
      refine V_iload X dX1_hear_14 rfl ?_
      refine V_cti X (kX5_aboutCount ) cwX1_22 rfl (rm_ok hR (by decide) (by decide)) (Nat.le_of_ble_eq_true rfl) dX1_hear_16 ?_
      refine V_top (nI (acN kd)) (acF_n (by omega)) ?_
      refine V_cN_ge X 90 (by omega) (by omega) dX1_hear_19 (by decide) (fun h19 => ?_) (fun h19 => ?_)
      · rw [show a = acN kd by omega] at hs ⊢
        exact kx _ _ hs
      · have hq : qOk kd a := okQ_q.mp ⟨hkd, h19⟩
        have hb2 : qb kd + a < 36 := by rw [← qix_b hkd]; exact qix_36 hq
        have hqk := qk_b hq
        refine V_iload X dX1_hear_22 rfl ?_
        refine V_iload X dX1_hear_24 rfl ?_
        refine V_cti X (kX5_questionNumber ) cwX1_26 rfl (rm_ok hR (by decide) (by decide)) (Nat.le_of_ble_eq_true rfl) dX1_hear_26 ?_
        refine V_top (nI (qb kd + a)) (by rw [qnF_n hq, qix_b hkd]) ?_
        refine V_istore X dX1_hear_29 (by rw [hR.2]; decide) ?_
        refine V_iload_n X dX1_hear_31 rfl ?_
        refine V_iN_eq X 61 (by omega) dX1_hear_32 (by decide) (fun h32 => ?_) (fun h32 => ?_)
        · have hfb : fb = 0 := h32
          refine V_aload_n X dX1_hear_61 rfl ?_
          refine V_iload_n X dX1_hear_62 rfl ?_
          refine V_iload X dX1_hear_63 rfl ?_
          refine V_aload_n X dX1_hear_65 rfl ?_
          refine V_iload X dX1_hear_66 rfl ?_
          refine V_iload X dX1_hear_68 rfl ?_
          refine V_cvi X (ltN (by decide) hN) rfl rfl rfl (kX4_value hN hq) cwX1_30 rfl (rm_ok hR (by decide) (by decide)) (Nat.le_of_ble_eq_true rfl) dX1_hear_70 ?_
          refine V_aload_n X dX1_hear_73 rfl ?_
          refine V_iload X dX1_hear_74 rfl ?_
          refine V_iload X dX1_hear_76 rfl ?_
          refine V_cvi X (ltN (by decide) hN) rfl rfl rfl (kX4_basis hN hq) cwX1_35 rfl (rm_ok hR (by decide) (by decide)) (Nat.le_of_ble_eq_true rfl) dX1_hear_78 ?_
          refine V_cvv X (ltN (by decide) hN) rfl rfl rfl (kX1_join hN (by omega) (by omega)) cwX1_42 rfl (rm_ok hR (by decide) (by decide)) (Nat.le_of_ble_eq_true rfl) dX1_hear_81 ?_
          refine V_iinc X (nI (_ + 1)) dX1_hear_84 (by rw [hR.2]; decide) rfl (nI_add _ 1) ?_
          refine V_goto X 12 dX1_hear_87 (by decide) ?_
          exact ih (a + 1) _ _ (by omega) (by omega) (by subst hs; rw [show qb kd + (a + 1) = qb kd + a + 1 by omega]; subst hfb; exact hrF_s0 (by unfold vq; rw [hqk.1, hqk.2]; exact vl_congr (fun c _ _ => hrF_w (by omega)) _ _) (by unfold bq; rw [hqk.1, hqk.2]; exact bs_congr (fun c _ _ => hrF_w (by omega)) _ _))
        · have hfb : fb = 1 := by omega
          refine V_aload_n X dX1_hear_35 rfl ?_
          refine V_iload_n X dX1_hear_36 rfl ?_
          refine V_iload X dX1_hear_37 rfl ?_
          refine V_aload_n X dX1_hear_39 rfl ?_
          refine V_iload X dX1_hear_40 rfl ?_
          refine V_iload X dX1_hear_42 rfl ?_
          refine V_cvi X (ltN (by decide) hN) rfl rfl rfl (kX4_value hN hq) cwX1_30 rfl (rm_ok hR (by decide) (by decide)) (Nat.le_of_ble_eq_true rfl) dX1_hear_44 ?_
          refine V_aload_n X dX1_hear_47 rfl ?_
          refine V_iload X dX1_hear_48 rfl ?_
          refine V_iload X dX1_hear_50 rfl ?_
          refine V_cvi X (ltN (by decide) hN) rfl rfl rfl (kX4_basis hN hq) cwX1_35 rfl (rm_ok hR (by decide) (by decide)) (Nat.le_of_ble_eq_true rfl) dX1_hear_52 ?_
          refine V_cvv X (ltN (by decide) hN) rfl rfl rfl (kX1_begin hN (by omega) (by omega)) cwX1_38 rfl (rm_ok hR (by decide) (by decide)) (Nat.le_of_ble_eq_true rfl) dX1_hear_55 ?_
          refine V_goto X 84 dX1_hear_58 (by decide) ?_
          refine V_iinc X (nI (_ + 1)) dX1_hear_84 (by rw [hR.2]; decide) rfl (nI_add _ 1) ?_
          refine V_goto X 12 dX1_hear_87 (by decide) ?_
          exact ih (a + 1) _ _ (by omega) (by omega) (by subst hs; rw [show qb kd + (a + 1) = qb kd + a + 1 by omega]; subst hfb; exact hrF_s1 (by unfold vq; rw [hqk.1, hqk.2]; exact vl_congr (fun c _ _ => hrF_w (by omega)) _ _) (by unfold bq; rw [hqk.1, hqk.2]; exact bs_congr (fun c _ _ => hrF_w (by omega)) _ _))
  have loopB : ∀ (f kd : Nat) (S1 : Sx) (v w : Option Value), kd ≤ 4 → 4 - kd < f → S1 = hrF S k fb (qb kd) → V F G S1 3 [some (ra G 14), some (.int (nI k)), some (ra G 7), some (.int (nI fb)), some (.int (nI kd)), v, w] [] := by
    intro f
    induction f with
    | zero => intro kd S1 v w h1 h2; omega
    | succ f ih =>
      intro kd S1 v w h1 h2 hs
      refine V_iload X dX1_hear_3 rfl ?_
      refine V_iconst X (nI 4) dX1_hear_5 (by decide) ?_
      refine V_cN_ge X 96 (by omega) (by omega) dX1_hear_6 (by decide) (fun h6 => ?_) (fun h6 => ?_)
      · exact V_vret X E dX1_hear_96 (by rw [hs, show kd = 4 by omega]; rfl)
      · refine V_iconst X (nI 0) dX1_hear_9 (by decide) ?_
        refine V_istore X dX1_hear_10 (by rw [hR.2]; decide) ?_
        refine loopA kd h6 (fun S2 w2 e2 => ?_) 11 0 S1 w (by omega) (by have : acN kd ≤ 10 := (by unfold acN; split <;> omega); omega) hs
        refine V_iinc X (nI (_ + 1)) dX1_hear_90 (by rw [hR.2]; decide) rfl (nI_add _ 1) ?_
        refine V_goto X 3 dX1_hear_93 (by decide) ?_
        rw [← qb_s h6] at e2
        exact ih (kd + 1) S2 _ _ (by omega) (by omega) e2
  refine V_iconst X (nI 0) dX1_hear_0 (by decide) ?_
  refine V_istore X dX1_hear_1 (by rw [hR.2]; decide) ?_
  exact loopB 5 0 S none none (by omega) (by omega) (hrF_0 S k fb).symm

def clF (S : Sx) (k i : Nat) : Sx := fun c q => if c = 65 + k ∧ q < i ∧ S (35 + k) q < 0 then nI 0 else S c q
theorem clF_0 (S : Sx) (k : Nat) : clF S k 0 = S := by funext c q; simp [clF]
theorem clF_a {S : Sx} {k i q : Nat} : clF S k i (35 + k) q = S (35 + k) q := by unfold clF; rw [if_neg (by omega)]
theorem clF_st {S : Sx} {k i : Nat} (h : S (35 + k) i < 0) : st (clF S k i) (65 + k) i (nI 0) = clF S k (i + 1) := by
  funext c q; simp only [st_at, clF]
  by_cases hc : c = 65 + k
  · subst hc; by_cases hq : q = i
    · subst hq; simp [h]
    · have e : (q < i + 1) = (q < i) := propext ⟨fun _ => by omega, fun _ => by omega⟩
      simp [hq, e]
  · simp [hc]
theorem clF_sn {S : Sx} {k i : Nat} (h : ¬ S (35 + k) i < 0) : clF S k i = clF S k (i + 1) := by
  funext c q; simp only [clF]
  by_cases hq : q = i
  · subst hq; simp [h]
  · have e : (q < i + 1) = (q < i) := propext ⟨fun _ => by omega, fun _ => by omega⟩
    simp [e]
def anC (f : Nat → Int32) : Nat → Nat
  | 0 => 0
  | q + 1 => if f q < 0 then anC f q else anC f q + 1
def dbC (f : Nat → Int32) : Nat → Nat
  | 0 => 0
  | q + 1 => if f q = -3 then dbC f q + 1 else dbC f q

set_option maxRecDepth 100000 in
set_option maxHeartbeats 4000000 in
theorem kX1_close {G : Cx} {S : Sx} (hN : 80 ≤ gN G) {k : Nat} (hk : k < 15) : CV G (0) yX1_close cX1_close 3 [ra G 14, .int (nI k)] S (clF S k 36) := by
  refine CV_of (by decide) (Nat.le_of_ble_eq_true rfl) (by intro v hv; simp only [List.mem_cons, List.not_mem_nil, or_false] at hv; rcases hv with rfl | rfl <;> rfl) (fun F X E => ?_)
  have hR := RV_R E
  have loop : ∀ (f i : Nat) (S1 : Sx), i ≤ 36 → 36 - i < f → S1 = clF S k i → V F G S1 2 [some (ra G 14), some (.int (nI k)), some (.int (nI i))] [] := by
    intro f
    induction f with
    | zero => intro i S1 h1 h2; omega
    | succ f ih =>
      intro i S1 h1 h2 hs
      refine V_iload_n X dX1_close_2 rfl ?_
      refine V_bipush X (nI 36) dX1_close_3 (by decide) ?_
      refine V_cN_ge X 34 (by omega) (by omega) dX1_close_5 (by decide) (fun h5 => ?_) (fun h5 => ?_)
      · exact V_vret X E dX1_close_34 (by rw [hs, show i = 36 by omega])
      · refine V_aload_n X dX1_close_8 rfl ?_
        refine V_getr X flX1_11 (ltN (by decide) hN) rfl rfl dX1_close_9 ?_
        refine V_iload_n X dX1_close_12 rfl ?_
        refine V_aaldN X (ltN (by decide) hN) rfl (by omega) dX1_close_13 ?_
        refine V_iload_n X dX1_close_14 rfl ?_
        refine V_ialdN X (ltN (by omega) hN) (ds_fnd (by omega) (by omega)) (by omega) (by decide) dX1_close_15 ?_
        refine V_if_ge X 28 dX1_close_16 (by decide) (fun h16 => ?_) (fun h16 => ?_)
        · refine V_iinc X (nI (_ + 1)) dX1_close_28 (by rw [hR.2]; decide) rfl (nI_add _ 1) ?_
          refine V_goto X 2 dX1_close_31 (by decide) ?_
          exact ih (i + 1) _ (by omega) (by omega) (by rw [hs, clF_a] at h16; rw [hs]; first | exact clF_st (Int32.not_le.mp h16) | exact clF_sn (Int32.not_lt.mpr h16))
        · refine V_aload_n X dX1_close_19 rfl ?_
          refine V_getr X flX1_19 (ltN (by decide) hN) rfl rfl dX1_close_20 ?_
          refine V_iload_n X dX1_close_23 rfl ?_
          refine V_aaldN X (ltN (by decide) hN) rfl (by omega) dX1_close_24 ?_
          refine V_iload_n X dX1_close_25 rfl ?_
          refine V_iconst X (nI 0) dX1_close_26 (by decide) ?_
          refine V_iastN X (ltN (by omega) hN) (ds_fnd (by omega) (by omega)) (by omega) (by decide) dX1_close_27 ?_
          refine V_iinc X (nI (_ + 1)) dX1_close_28 (by rw [hR.2]; decide) rfl (nI_add _ 1) ?_
          refine V_goto X 2 dX1_close_31 (by decide) ?_
          exact ih (i + 1) _ (by omega) (by omega) (by rw [hs, clF_a] at h16; rw [hs]; first | exact clF_st (Int32.not_le.mp h16) | exact clF_sn (Int32.not_lt.mpr h16))
  refine V_iconst X (nI 0) dX1_close_0 (by decide) ?_
  refine V_istore_n X dX1_close_1 (by rw [hR.2]; decide) ?_
  exact loop 37 0 S (by omega) (by omega) (clF_0 S k).symm

set_option maxRecDepth 100000 in
set_option maxHeartbeats 4000000 in
theorem kX1_answered {G : Cx} {S : Sx} (hN : 80 ≤ gN G) {k : Nat} (hk : k < 15) : CT G (0) yX1_answered cX1_answered 4 (some .int) [ra G 14, .int (nI k)] S (nI (anC (S (35 + k)) 36)) (S) := by
  refine CT_of (by decide) (Nat.le_of_ble_eq_true rfl) (by intro v hv; simp only [List.mem_cons, List.not_mem_nil, or_false] at hv; rcases hv with rfl | rfl <;> rfl) (fun F X E => ?_)
  have hR := RI_R E
  have loop : ∀ (f i z : Nat), i ≤ 36 → 36 - i < f → z = anC (S (35 + k)) i → V F G S 4 [some (ra G 14), some (.int (nI k)), some (.int (nI z)), some (.int (nI i))] [] := by
    intro f
    induction f with
    | zero => intro i z h1 h2; omega
    | succ f ih =>
      intro i z h1 h2 hz
      refine V_iload_n X dX1_answered_4 rfl ?_
      refine V_bipush X (nI 36) dX1_answered_5 (by decide) ?_
      refine V_cN_ge X 30 (by omega) (by omega) dX1_answered_7 (by decide) (fun h7 => ?_) (fun h7 => ?_)
      · refine V_iload_n X dX1_answered_30 rfl ?_
        exact V_iret X E dX1_answered_31 (by rw [hz, show i = 36 by omega]) rfl
      · refine V_aload_n X dX1_answered_10 rfl ?_
        refine V_getr X flX1_11 (ltN (by decide) hN) rfl rfl dX1_answered_11 ?_
        refine V_iload_n X dX1_answered_14 rfl ?_
        refine V_aaldN X (ltN (by decide) hN) rfl (by omega) dX1_answered_15 ?_
        refine V_iload_n X dX1_answered_16 rfl ?_
        refine V_ialdN X (ltN (by omega) hN) (ds_fnd (by omega) (by omega)) (by omega) (by decide) dX1_answered_17 ?_
        refine V_if_lt X 24 dX1_answered_18 (by decide) (fun h18 => ?_) (fun h18 => ?_)
        · refine V_iinc X (nI (_ + 1)) dX1_answered_24 (by rw [hR.2]; decide) rfl (nI_add _ 1) ?_
          refine V_goto X 4 dX1_answered_27 (by decide) ?_
          exact ih (i + 1) _ (by omega) (by omega) (by rw [hz]; first | exact (if_pos h18).symm | exact (if_neg h18).symm)
        · refine V_iinc X (nI (_ + 1)) dX1_answered_21 (by rw [hR.2]; decide) rfl (nI_add _ 1) ?_
          refine V_iinc X (nI (_ + 1)) dX1_answered_24 (by rw [hR.2]; decide) rfl (nI_add _ 1) ?_
          refine V_goto X 4 dX1_answered_27 (by decide) ?_
          exact ih (i + 1) _ (by omega) (by omega) (by rw [hz]; first | exact (if_pos h18).symm | exact (if_neg h18).symm)
  refine V_iconst X (nI 0) dX1_answered_0 (by decide) ?_
  refine V_istore_n X dX1_answered_1 (by rw [hR.2]; decide) ?_
  refine V_iconst X (nI 0) dX1_answered_2 (by decide) ?_
  refine V_istore_n X dX1_answered_3 (by rw [hR.2]; decide) ?_
  exact loop 37 0 0 (by omega) (by omega) rfl

set_option maxRecDepth 100000 in
set_option maxHeartbeats 4000000 in
theorem kX1_doubted {G : Cx} {S : Sx} (hN : 80 ≤ gN G) {k : Nat} (hk : k < 15) : CT G (0) yX1_doubted cX1_doubted 4 (some .int) [ra G 14, .int (nI k)] S (nI (dbC (S (35 + k)) 36)) (S) := by
  refine CT_of (by decide) (Nat.le_of_ble_eq_true rfl) (by intro v hv; simp only [List.mem_cons, List.not_mem_nil, or_false] at hv; rcases hv with rfl | rfl <;> rfl) (fun F X E => ?_)
  have hR := RI_R E
  have loop : ∀ (f i z : Nat), i ≤ 36 → 36 - i < f → z = dbC (S (35 + k)) i → V F G S 4 [some (ra G 14), some (.int (nI k)), some (.int (nI z)), some (.int (nI i))] [] := by
    intro f
    induction f with
    | zero => intro i z h1 h2; omega
    | succ f ih =>
      intro i z h1 h2 hz
      refine V_iload_n X dX1_doubted_4 rfl ?_
      refine V_bipush X (nI 36) dX1_doubted_5 (by decide) ?_
      refine V_cN_ge X 32 (by omega) (by omega) dX1_doubted_7 (by decide) (fun h7 => ?_) (fun h7 => ?_)
      · refine V_iload_n X dX1_doubted_32 rfl ?_
        exact V_iret X E dX1_doubted_33 (by rw [hz, show i = 36 by omega]) rfl
      · refine V_aload_n X dX1_doubted_10 rfl ?_
        refine V_getr X flX1_11 (ltN (by decide) hN) rfl rfl dX1_doubted_11 ?_
        refine V_iload_n X dX1_doubted_14 rfl ?_
        refine V_aaldN X (ltN (by decide) hN) rfl (by omega) dX1_doubted_15 ?_
        refine V_iload_n X dX1_doubted_16 rfl ?_
        refine V_ialdN X (ltN (by omega) hN) (ds_fnd (by omega) (by omega)) (by omega) (by decide) dX1_doubted_17 ?_
        refine V_bipush X (-3) dX1_doubted_18 (by decide) ?_
        refine V_icmp_ne X 26 dX1_doubted_20 (by decide) (fun h20 => ?_) (fun h20 => ?_)
        · refine V_iinc X (nI (_ + 1)) dX1_doubted_26 (by rw [hR.2]; decide) rfl (nI_add _ 1) ?_
          refine V_goto X 4 dX1_doubted_29 (by decide) ?_
          exact ih (i + 1) _ (by omega) (by omega) (by rw [hz]; first | exact (if_pos (ts_nn h20)).symm | exact (if_neg h20).symm)
        · refine V_iinc X (nI (_ + 1)) dX1_doubted_23 (by rw [hR.2]; decide) rfl (nI_add _ 1) ?_
          refine V_iinc X (nI (_ + 1)) dX1_doubted_26 (by rw [hR.2]; decide) rfl (nI_add _ 1) ?_
          refine V_goto X 4 dX1_doubted_29 (by decide) ?_
          exact ih (i + 1) _ (by omega) (by omega) (by rw [hz]; first | exact (if_pos (ts_nn h20)).symm | exact (if_neg h20).symm)
  refine V_iconst X (nI 0) dX1_doubted_0 (by decide) ?_
  refine V_istore_n X dX1_doubted_1 (by rw [hR.2]; decide) ?_
  refine V_iconst X (nI 0) dX1_doubted_2 (by decide) ?_
  refine V_istore_n X dX1_doubted_3 (by rw [hR.2]; decide) ?_
  exact loop 37 0 0 (by omega) (by omega) rfl
end
section
def ofB (f : Nat → Int32) (x : Int32) (z : Nat) : Bool := (List.range z).any (fun i => decide (x &&& (f i ^^^ -1) = 0))
theorem ofB_t {f : Nat → Int32} {x : Int32} {z i : Nat} (h : i < z) (e : x &&& (f i ^^^ -1) = 0) : ofB f x z = true := List.any_eq_true.mpr ⟨i, List.mem_range.mpr h, decide_eq_true e⟩
theorem ofB_f {f : Nat → Int32} {x : Int32} {z : Nat} (h : ∀ i, i < z → ¬ x &&& (f i ^^^ -1) = 0) : ofB f x z = false := by
  rw [← Bool.not_eq_true]; intro q
  obtain ⟨i, hi, e⟩ := List.any_eq_true.mp q
  exact h i (List.mem_range.mp hi) (of_decide_eq_true e)
def ofS (S : Sx) (x : Int32) : Nat → Sx × Nat
  | 0 => (S, 0)
  | i + 1 => if (ofS S x i).1 19 i &&& (x ^^^ -1) = 0 then ofS S x i else (st (ofS S x i).1 19 (ofS S x i).2 ((ofS S x i).1 19 i), (ofS S x i).2 + 1)
theorem ofS_le (S : Sx) (x : Int32) : ∀ i, (ofS S x i).2 ≤ i
  | 0 => Nat.le_refl _
  | i + 1 => by have := ofS_le S x i; unfold ofS; split <;> simp <;> omega
theorem ofS_18 (S : Sx) (x : Int32) : ∀ i, (ofS S x i).1 18 = S 18
  | 0 => rfl
  | i + 1 => by unfold ofS; split; exact ofS_18 S x i; dsimp only; rw [st_ne (by decide)]; exact ofS_18 S x i
def ofE (S : Sx) (k : Nat) (x : Int32) : Sx := if k < 36 then st (st (st S 19 k x) 18 1 (nI (k + 1))) 18 2 (S 18 2 ||| x) else S
def ofF (S : Sx) (x : Int32) (z : Nat) : Sx := if ofB (S 19) x z then S else ofE (ofS S x z).1 (ofS S x z).2 x

set_option maxRecDepth 100000 in
set_option maxHeartbeats 4000000 in
theorem kX0_clear {G : Cx} {S : Sx} (hN : 80 ≤ gN G)  : CV G (0) yX0_clear cX0_clear 1 [ra G 18] S (st (st S 18 1 (nI 0)) 18 2 (nI 0)) := by
  refine CV_of (by decide) (Nat.le_of_ble_eq_true rfl) (by intro v hv; simp only [List.mem_cons, List.not_mem_nil, or_false] at hv; rcases hv with rfl <;> rfl) (fun F X E => ?_)
  have hR := RV_R E
  refine V_aload_n X dX0_clear_0 rfl ?_
  refine V_iconst X (nI 0) dX0_clear_1 (by decide) ?_
  refine V_puti X fpX0_15 (ltN (by decide) hN) rfl rfl dX0_clear_2 ?_
  refine V_aload_n X dX0_clear_5 rfl ?_
  refine V_iconst X (nI 0) dX0_clear_6 (by decide) ?_
  refine V_puti X fpX0_19 (ltN (by decide) hN) rfl rfl dX0_clear_7 ?_
  exact V_vret X E dX0_clear_10 rfl

set_option maxRecDepth 100000 in
set_option maxHeartbeats 4000000 in
theorem kX0_offer {G : Cx} {S : Sx} (hN : 80 ≤ gN G) {x : Int32} {z : Nat} (hz : S 18 1 = nI z) (hz36 : z ≤ 36) : CV G (0) yX0_offer cX0_offer 4 [ra G 18, .int x] S (ofF S x z) := by
  refine CV_of (by decide) (Nat.le_of_ble_eq_true rfl) (by intro v hv; simp only [List.mem_cons, List.not_mem_nil, or_false] at hv; rcases hv with rfl | rfl <;> rfl) (fun F X E => ?_)
  have hR := RV_R E
  have loop2 : ofB (S 19) x z = false → ∀ (f i k : Nat) (S1 : Sx), i ≤ z → z - i < f → S1 = (ofS S x i).1 → k = (ofS S x i).2 → V F G S1 34 [some (ra G 18), some (.int x), some (.int (nI k)), some (.int (nI i))] [] := by
    intro hb f
    induction f with
    | zero => intro i k S1 h1 h2; omega
    | succ f ih =>
      intro i k S1 h1 h2 hs1 hk1
      have hki := ofS_le S x i
      refine V_iload_n X dX0_offer_34 rfl ?_
      refine V_aload_n X dX0_offer_35 rfl ?_
      refine V_geti X flX0_15 (ltN (by decide) hN) rfl rfl dX0_offer_36 ?_
      refine V_top (nI (z)) (by first | (rw [hs1, ofS_18]; exact hz) | exact hz) ?_
      refine V_cN_ge X 76 (by omega) (by omega) dX0_offer_39 (by decide) (fun h39 => ?_) (fun h39 => ?_)
      · refine V_iload_n X dX0_offer_76 rfl ?_
        refine V_bipush X (nI 36) dX0_offer_77 (by decide) ?_
        refine V_cN_ge X 106 (by omega) (by omega) dX0_offer_79 (by decide) (fun h79 => ?_) (fun h79 => ?_)
        · exact V_vret X E dX0_offer_106 (by unfold ofF ofE; rw [if_neg (by rw [hb]; decide), show z = i by omega]; first | (rw [← hk1, if_pos (by omega), hs1]; rfl) | (rw [← hk1, if_neg (by omega), hs1]))
        · refine V_aload_n X dX0_offer_82 rfl ?_
          refine V_getr X flX0_9 (ltN (by decide) hN) rfl rfl dX0_offer_83 ?_
          refine V_iload_n X dX0_offer_86 rfl ?_
          refine V_iload_n X dX0_offer_87 rfl ?_
          refine V_iastN X (ltN (by decide) hN) rfl (by omega) (by decide) dX0_offer_88 ?_
          refine V_aload_n X dX0_offer_89 rfl ?_
          refine V_iload_n X dX0_offer_90 rfl ?_
          refine V_iconst X (nI 1) dX0_offer_91 (by decide) ?_
          refine V_addN X dX0_offer_92 ?_
          refine V_puti X fpX0_15 (ltN (by decide) hN) rfl rfl dX0_offer_93 ?_
          refine V_aload_n X dX0_offer_96 rfl ?_
          refine V_dupr X dX0_offer_97 ?_
          refine V_geti X flX0_19 (ltN (by decide) hN) rfl rfl dX0_offer_98 ?_
          refine V_iload_n X dX0_offer_101 rfl ?_
          refine V_ior X dX0_offer_102 ?_
          refine V_puti X fpX0_19 (ltN (by decide) hN) rfl rfl dX0_offer_103 ?_
          exact V_vret X E dX0_offer_106 (by unfold ofF ofE; rw [if_neg (by rw [hb]; decide), show z = i by omega]; first | (rw [← hk1, if_pos (by omega), hs1]; rfl) | (rw [← hk1, if_neg (by omega), hs1]))
      · refine V_aload_n X dX0_offer_42 rfl ?_
        refine V_getr X flX0_9 (ltN (by decide) hN) rfl rfl dX0_offer_43 ?_
        refine V_iload_n X dX0_offer_46 rfl ?_
        refine V_ialdN X (ltN (by decide) hN) rfl (by omega) (by decide) dX0_offer_47 ?_
        refine V_iload_n X dX0_offer_48 rfl ?_
        refine V_iconst X (-1) dX0_offer_49 (by decide) ?_
        refine V_ixor X dX0_offer_50 ?_
        refine V_iand X dX0_offer_51 ?_
        refine V_if_eq X 70 dX0_offer_52 (by decide) (fun h52 => ?_) (fun h52 => ?_)
        · refine V_iinc X (nI (_ + 1)) dX0_offer_70 (by rw [hR.2]; decide) rfl (nI_add _ 1) ?_
          refine V_goto X 34 dX0_offer_73 (by decide) ?_
          exact ih (i + 1) _ _ (by omega) (by omega) (by rw [ofS, if_pos (by rw [← hs1]; exact h52)]; exact hs1) (by rw [ofS, if_pos (by rw [← hs1]; exact h52)]; exact hk1)
        · refine V_aload_n X dX0_offer_55 rfl ?_
          refine V_getr X flX0_9 (ltN (by decide) hN) rfl rfl dX0_offer_56 ?_
          refine V_iload_n X dX0_offer_59 rfl ?_
          refine V_aload_n X dX0_offer_60 rfl ?_
          refine V_getr X flX0_9 (ltN (by decide) hN) rfl rfl dX0_offer_61 ?_
          refine V_iload_n X dX0_offer_64 rfl ?_
          refine V_ialdN X (ltN (by decide) hN) rfl (by omega) (by decide) dX0_offer_65 ?_
          refine V_iastN X (ltN (by decide) hN) rfl (by have := ofS_le S x i; omega) (by decide) dX0_offer_66 ?_
          refine V_iinc X (nI (_ + 1)) dX0_offer_67 (by rw [hR.2]; decide) rfl (nI_add _ 1) ?_
          refine V_iinc X (nI (_ + 1)) dX0_offer_70 (by rw [hR.2]; decide) rfl (nI_add _ 1) ?_
          refine V_goto X 34 dX0_offer_73 (by decide) ?_
          exact ih (i + 1) _ _ (by omega) (by omega) (by rw [ofS, if_neg (by rw [← hs1]; exact h52), hk1, hs1]) (by rw [ofS, if_neg (by rw [← hs1]; exact h52), hk1])
  have loop1 : (∀ v, (∀ j, j < z → ¬ x &&& (S 19 j ^^^ -1) = 0) → V F G S 30 [some (ra G 18), some (.int x), v, none] []) → ∀ (f i : Nat), i ≤ z → z - i < f → (∀ j, j < i → ¬ x &&& (S 19 j ^^^ -1) = 0) → V F G S 2 [some (ra G 18), some (.int x), some (.int (nI i)), none] [] := by
    intro kx f
    induction f with
    | zero => intro i h1 h2; omega
    | succ f ih =>
      intro i h1 h2 hb
      refine V_iload_n X dX0_offer_2 rfl ?_
      refine V_aload_n X dX0_offer_3 rfl ?_
      refine V_geti X flX0_15 (ltN (by decide) hN) rfl rfl dX0_offer_4 ?_
      refine V_top (nI (z)) (by first | exact hz | (simp only [st_at]; simp; exact hz)) ?_
      refine V_cN_ge X 30 (by omega) (by omega) dX0_offer_7 (by decide) (fun h7 => ?_) (fun h7 => ?_)
      · exact kx _ (fun j hj => hb j (by omega))
      · refine V_iload_n X dX0_offer_10 rfl ?_
        refine V_aload_n X dX0_offer_11 rfl ?_
        refine V_getr X flX0_9 (ltN (by decide) hN) rfl rfl dX0_offer_12 ?_
        refine V_iload_n X dX0_offer_15 rfl ?_
        refine V_ialdN X (ltN (by decide) hN) rfl (by omega) (by decide) dX0_offer_16 ?_
        refine V_iconst X (-1) dX0_offer_17 (by decide) ?_
        refine V_ixor X dX0_offer_18 ?_
        refine V_iand X dX0_offer_19 ?_
        refine V_if_ne X 24 dX0_offer_20 (by decide) (fun h20 => ?_) (fun h20 => ?_)
        · refine V_iinc X (nI (_ + 1)) dX0_offer_24 (by rw [hR.2]; decide) rfl (nI_add _ 1) ?_
          refine V_goto X 2 dX0_offer_27 (by decide) ?_
          exact ih (i + 1) (by omega) (by omega) (fun j hj => by rcases Nat.lt_succ_iff_lt_or_eq.mp hj with q | q; exact hb j q; subst q; exact h20)
        · exact V_vret X E dX0_offer_23 (by unfold ofF; rw [if_pos (ofB_t h7 (ts_nn h20))])
  refine V_iconst X (nI 0) dX0_offer_0 (by decide) ?_
  refine V_istore_n X dX0_offer_1 (by rw [hR.2]; decide) ?_
  refine loop1 (fun v hb => ?_) (z + 1) 0 (by omega) (by omega) (fun j hj => absurd hj (by omega))
  refine V_iconst X (nI 0) dX0_offer_30 (by decide) ?_
  refine V_istore_n X dX0_offer_31 (by rw [hR.2]; decide) ?_
  refine V_iconst X (nI 0) dX0_offer_32 (by decide) ?_
  refine V_istore_n X dX0_offer_33 (by rw [hR.2]; decide) ?_
  exact loop2 (ofB_f hb) (z + 1) 0 0 S (by omega) (by omega) rfl rfl

def hoC (f : Nat → Int32) (x : Int32) : Nat → Nat
  | 0 => 0
  | k + 1 => if f k &&& x = 0 then hoC f x k else hoC f x k + 1
theorem hoC_le (f : Nat → Int32) (x : Int32) : ∀ k, hoC f x k ≤ k
  | 0 => Nat.le_refl _
  | k + 1 => by have := hoC_le f x k; unfold hoC; split <;> omega
def wdF (f : Nat → Int32) (x : Int32) : Nat → Int32
  | 0 => nI 0
  | k + 1 => mx (wdF f x k) (bcF (f k &&& x))
def rrF (f : Nat → Int32) (z : Nat) (l : Int32) : Nat → Int32 × Nat
  | 0 => (nI 0, 37)
  | b + 1 => if (if (l >>> (nI b &&& 31)) &&& nI 1 = 0 then (rrF f z l b).2 else hoC f (nI 1 <<< (nI b &&& 31)) z) < (rrF f z l b).2 then (nI 1 <<< (nI b &&& 31), (if (l >>> (nI b &&& 31)) &&& nI 1 = 0 then (rrF f z l b).2 else hoC f (nI 1 <<< (nI b &&& 31)) z)) else rrF f z l b
theorem rrF_le (f : Nat → Int32) (z : Nat) (l : Int32) : ∀ b, (rrF f z l b).2 ≤ 37
  | 0 => Nat.le_refl _
  | b + 1 => by
    have := rrF_le f z l b
    unfold rrF
    generalize (if (l >>> (nI b &&& 31)) &&& nI 1 = 0 then (rrF f z l b).2 else hoC f (nI 1 <<< (nI b &&& 31)) z) = h
    by_cases q : h < (rrF f z l b).2
    · rw [if_pos q]; exact Nat.le_trans (Nat.le_of_lt q) this
    · rw [if_neg q]; exact this

set_option maxRecDepth 100000 in
set_option maxHeartbeats 4000000 in
theorem kX0_holdersOf {G : Cx} {S : Sx} (hN : 80 ≤ gN G) {x : Int32} {z : Nat} (hz36 : z ≤ 36) : CT G (0) yX0_holdersOf cX0_holdersOf 5 (some .int) [ra G 19, .int (nI z), .int x] S (nI (hoC (S 19) x z)) (S) := by
  refine CT_of (by decide) (Nat.le_of_ble_eq_true rfl) (by intro v hv; simp only [List.mem_cons, List.not_mem_nil, or_false] at hv; rcases hv with rfl | rfl | rfl <;> rfl) (fun F X E => ?_)
  have hR := RI_R E
  have loop : ∀ (f i c : Nat), i ≤ z → z - i < f → c = hoC (S 19) x i → V F G S 5 [some (ra G 19), some (.int (nI z)), some (.int x), some (.int (nI c)), some (.int (nI i))] [] := by
    intro f
    induction f with
    | zero => intro i c h1 h2; omega
    | succ f ih =>
      intro i c h1 h2 hc
      refine V_iload X dX0_holdersOf_5 rfl ?_
      refine V_iload_n X dX0_holdersOf_7 rfl ?_
      refine V_cN_ge X 29 (by omega) (by omega) dX0_holdersOf_8 (by decide) (fun h8 => ?_) (fun h8 => ?_)
      · refine V_iload_n X dX0_holdersOf_29 rfl ?_
        exact V_iret X E dX0_holdersOf_30 (by rw [hc, show i = z by omega]) rfl
      · refine V_aload_n X dX0_holdersOf_11 rfl ?_
        refine V_iload X dX0_holdersOf_12 rfl ?_
        refine V_ialdN X (ltN (by decide) hN) rfl (by omega) (by decide) dX0_holdersOf_14 ?_
        refine V_iload_n X dX0_holdersOf_15 rfl ?_
        refine V_iand X dX0_holdersOf_16 ?_
        refine V_if_eq X 23 dX0_holdersOf_17 (by decide) (fun h17 => ?_) (fun h17 => ?_)
        · refine V_iinc X (nI (_ + 1)) dX0_holdersOf_23 (by rw [hR.2]; decide) rfl (nI_add _ 1) ?_
          refine V_goto X 5 dX0_holdersOf_26 (by decide) ?_
          exact ih (i + 1) _ (by omega) (by omega) (by rw [hc]; first | exact (if_pos h17).symm | exact (if_neg h17).symm)
        · refine V_iinc X (nI (_ + 1)) dX0_holdersOf_20 (by rw [hR.2]; decide) rfl (nI_add _ 1) ?_
          refine V_iinc X (nI (_ + 1)) dX0_holdersOf_23 (by rw [hR.2]; decide) rfl (nI_add _ 1) ?_
          refine V_goto X 5 dX0_holdersOf_26 (by decide) ?_
          exact ih (i + 1) _ (by omega) (by omega) (by rw [hc]; first | exact (if_pos h17).symm | exact (if_neg h17).symm)
  refine V_iconst X (nI 0) dX0_holdersOf_0 (by decide) ?_
  refine V_istore_n X dX0_holdersOf_1 (by rw [hR.2]; decide) ?_
  refine V_iconst X (nI 0) dX0_holdersOf_2 (by decide) ?_
  refine V_istore X dX0_holdersOf_3 (by rw [hR.2]; decide) ?_
  exact loop (z + 1) 0 0 (by omega) (by omega) rfl

set_option maxRecDepth 100000 in
set_option maxHeartbeats 4000000 in
theorem kX0_widest {G : Cx} {S : Sx} (hN : 80 ≤ gN G) {x : Int32} {z : Nat} (hz36 : z ≤ 36) : CT G (1) yX0_widest cX0_widest 5 (some .int) [ra G 19, .int (nI z), .int x] S (wdF (S 19) x z) (S) := by
  refine CT_of (by decide) (Nat.le_of_ble_eq_true rfl) (by intro v hv; simp only [List.mem_cons, List.not_mem_nil, or_false] at hv; rcases hv with rfl | rfl | rfl <;> rfl) (fun F X E => ?_)
  have hR := RI_R E
  have loop : ∀ (f i : Nat) (c : Int32), i ≤ z → z - i < f → c = wdF (S 19) x i → V F G S 5 [some (ra G 19), some (.int (nI z)), some (.int x), some (.int c), some (.int (nI i))] [] := by
    intro f
    induction f with
    | zero => intro i c h1 h2; omega
    | succ f ih =>
      intro i c h1 h2 hc
      refine V_iload X dX0_widest_5 rfl ?_
      refine V_iload_n X dX0_widest_7 rfl ?_
      refine V_cN_ge X 31 (by omega) (by omega) dX0_widest_8 (by decide) (fun h8 => ?_) (fun h8 => ?_)
      · refine V_iload_n X dX0_widest_31 rfl ?_
        exact V_iret X E dX0_widest_32 (by rw [hc, show i = z by omega]) rfl
      · refine V_iload_n X dX0_widest_11 rfl ?_
        refine V_aload_n X dX0_widest_12 rfl ?_
        refine V_iload X dX0_widest_13 rfl ?_
        refine V_ialdN X (ltN (by decide) hN) rfl (by omega) (by decide) dX0_widest_15 ?_
        refine V_iload_n X dX0_widest_16 rfl ?_
        refine V_iand X dX0_widest_17 ?_
        refine V_csi X (kJ6_bitCount_0f7a4 ) cwX0_30 rfl (rm_ok hR (by decide) (by decide)) (Nat.le_of_ble_eq_true rfl) dX0_widest_18 ?_
        refine V_imax X hR (by decide) (Nat.le_of_ble_eq_true rfl) cwX0_39 dX0_widest_21 ?_
        refine V_istore_n X dX0_widest_24 (by rw [hR.2]; decide) ?_
        refine V_iinc X (nI (_ + 1)) dX0_widest_25 (by rw [hR.2]; decide) rfl (nI_add _ 1) ?_
        refine V_goto X 5 dX0_widest_28 (by decide) ?_
        exact ih (i + 1) _ (by omega) (by omega) (by rw [hc]; rfl)
  refine V_iconst X (nI 0) dX0_widest_0 (by decide) ?_
  refine V_istore_n X dX0_widest_1 (by rw [hR.2]; decide) ?_
  refine V_iconst X (nI 0) dX0_widest_2 (by decide) ?_
  refine V_istore X dX0_widest_3 (by rw [hR.2]; decide) ?_
  exact loop (z + 1) 0 _ (by omega) (by omega) rfl

set_option maxRecDepth 100000 in
set_option maxHeartbeats 4000000 in
theorem kX0_rarest {G : Cx} {S : Sx} (hN : 80 ≤ gN G) {x : Int32} {z : Nat} (hz36 : z ≤ 36) : CT G (1) yX0_rarest cX0_rarest 7 (some .int) [ra G 19, .int (nI z), .int x] S ((rrF (S 19) z x 14).1) (S) := by
  refine CT_of (by decide) (Nat.le_of_ble_eq_true rfl) (by intro v hv; simp only [List.mem_cons, List.not_mem_nil, or_false] at hv; rcases hv with rfl | rfl | rfl <;> rfl) (fun F X E => ?_)
  have hR := RI_R E
  have loop : ∀ (f b : Nat) (c : Int32) (w : Nat) (v : Option Value), b ≤ 14 → 14 - b < f → c = (rrF (S 19) z x b).1 → w = (rrF (S 19) z x b).2 → V F G S 9 [some (ra G 19), some (.int (nI z)), some (.int x), some (.int c), some (.int (nI w)), some (.int (nI b)), v] [] := by
    intro f
    induction f with
    | zero => intro b c w v h1 h2; omega
    | succ f ih =>
      intro b c w v h1 h2 hc hw
      refine V_iload X dX0_rarest_9 rfl ?_
      refine V_bipush X (nI 14) dX0_rarest_11 (by decide) ?_
      refine V_cN_ge X 63 (by (have := rrF_le (S 19) z x b; have := hoC_le (S 19) (nI 1 <<< (nI b &&& 31)) z; omega)) (by (have := rrF_le (S 19) z x b; have := hoC_le (S 19) (nI 1 <<< (nI b &&& 31)) z; omega)) dX0_rarest_13 (by decide) (fun h13 => ?_) (fun h13 => ?_)
      · refine V_iload_n X dX0_rarest_63 rfl ?_
        exact V_iret X E dX0_rarest_64 (by rw [hc, show b = 14 by omega]) rfl
      · refine V_iload_n X dX0_rarest_16 rfl ?_
        refine V_iload X dX0_rarest_17 rfl ?_
        refine V_ishr X dX0_rarest_19 ?_
        refine V_iconst X (nI 1) dX0_rarest_20 (by decide) ?_
        refine V_iand X dX0_rarest_21 ?_
        refine V_if_ne X 30 dX0_rarest_22 (by decide) (fun h22 => ?_) (fun h22 => ?_)
        · refine V_aload_n X dX0_rarest_30 rfl ?_
          refine V_iload_n X dX0_rarest_31 rfl ?_
          refine V_iconst X (nI 1) dX0_rarest_32 (by decide) ?_
          refine V_iload X dX0_rarest_33 rfl ?_
          refine V_ishl X dX0_rarest_35 ?_
          refine V_csi X (kX0_holdersOf hN hz36) cwX0_45 rfl (rm_ok hR (by decide) (by decide)) (Nat.le_of_ble_eq_true rfl) dX0_rarest_36 ?_
          refine V_istore X dX0_rarest_39 (by rw [hR.2]; decide) ?_
          refine V_iload X dX0_rarest_41 rfl ?_
          refine V_iload X dX0_rarest_43 rfl ?_
          refine V_cN_ge X 57 (by (have := rrF_le (S 19) z x b; have := hoC_le (S 19) (nI 1 <<< (nI b &&& 31)) z; omega)) (by (have := rrF_le (S 19) z x b; have := hoC_le (S 19) (nI 1 <<< (nI b &&& 31)) z; omega)) dX0_rarest_45 (by decide) (fun h45 => ?_) (fun h45 => ?_)
          · refine V_iinc X (nI (_ + 1)) dX0_rarest_57 (by rw [hR.2]; decide) rfl (nI_add _ 1) ?_
            refine V_goto X 9 dX0_rarest_60 (by decide) ?_
            exact ih (b + 1) _ _ _ (by omega) (by omega) (by rw [rrF, if_neg (by rw [(if_neg h22), ← hw]; omega)]; exact hc) (by rw [rrF, if_neg (by rw [(if_neg h22), ← hw]; omega)]; exact hw)
          · refine V_iload X dX0_rarest_48 rfl ?_
            refine V_istore X dX0_rarest_50 (by rw [hR.2]; decide) ?_
            refine V_iconst X (nI 1) dX0_rarest_52 (by decide) ?_
            refine V_iload X dX0_rarest_53 rfl ?_
            refine V_ishl X dX0_rarest_55 ?_
            refine V_istore_n X dX0_rarest_56 (by rw [hR.2]; decide) ?_
            refine V_iinc X (nI (_ + 1)) dX0_rarest_57 (by rw [hR.2]; decide) rfl (nI_add _ 1) ?_
            refine V_goto X 9 dX0_rarest_60 (by decide) ?_
            exact ih (b + 1) _ _ _ (by omega) (by omega) (by rw [rrF, if_pos (by rw [(if_neg h22), ← hw]; exact h45)]) (by rw [rrF, if_pos (by rw [(if_neg h22), ← hw]; exact h45)]; exact (if_neg h22).symm)
        · refine V_iload X dX0_rarest_25 rfl ?_
          refine V_goto X 39 dX0_rarest_27 (by decide) ?_
          refine V_istore X dX0_rarest_39 (by rw [hR.2]; decide) ?_
          refine V_iload X dX0_rarest_41 rfl ?_
          refine V_iload X dX0_rarest_43 rfl ?_
          refine V_cN_ge X 57 (by (have := rrF_le (S 19) z x b; have := hoC_le (S 19) (nI 1 <<< (nI b &&& 31)) z; omega)) (by (have := rrF_le (S 19) z x b; have := hoC_le (S 19) (nI 1 <<< (nI b &&& 31)) z; omega)) dX0_rarest_45 (by decide) (fun h45 => ?_) (fun h45 => ?_)
          · refine V_iinc X (nI (_ + 1)) dX0_rarest_57 (by rw [hR.2]; decide) rfl (nI_add _ 1) ?_
            refine V_goto X 9 dX0_rarest_60 (by decide) ?_
            exact ih (b + 1) _ _ _ (by omega) (by omega) (by rw [rrF, if_neg (by rw [(if_pos (ts_nn h22)), ← hw]; omega)]; exact hc) (by rw [rrF, if_neg (by rw [(if_pos (ts_nn h22)), ← hw]; omega)]; exact hw)
          · refine V_iload X dX0_rarest_48 rfl ?_
            refine V_istore X dX0_rarest_50 (by rw [hR.2]; decide) ?_
            refine V_iconst X (nI 1) dX0_rarest_52 (by decide) ?_
            refine V_iload X dX0_rarest_53 rfl ?_
            refine V_ishl X dX0_rarest_55 ?_
            refine V_istore_n X dX0_rarest_56 (by rw [hR.2]; decide) ?_
            refine V_iinc X (nI (_ + 1)) dX0_rarest_57 (by rw [hR.2]; decide) rfl (nI_add _ 1) ?_
            refine V_goto X 9 dX0_rarest_60 (by decide) ?_
            exact absurd h45 (Nat.lt_irrefl _)
  refine V_iconst X (nI 0) dX0_rarest_0 (by decide) ?_
  refine V_istore_n X dX0_rarest_1 (by rw [hR.2]; decide) ?_
  refine V_bipush X (nI 37) dX0_rarest_2 (by decide) ?_
  refine V_istore X dX0_rarest_4 (by rw [hR.2]; decide) ?_
  refine V_iconst X (nI 0) dX0_rarest_6 (by decide) ?_
  refine V_istore X dX0_rarest_7 (by rw [hR.2]; decide) ?_
  exact loop 15 0 _ _ _ (by omega) (by omega) rfl rfl

def bb (b : Bool) : Int32 := if b then nI 1 else nI 0
theorem bb_0 {b : Bool} : bb b = 0 ↔ b = false := by cases b <;> decide
theorem bb_n {b : Bool} : bb b ≠ 0 ↔ b = true := by cases b <;> decide
theorem bb_01 (b : Bool) : bb b = 0 ∨ bb b = 1 := by cases b <;> decide
def sfF (f : Nat → Int32) (z : Nat) : Nat → Int32 → Bool
  | 0, l => decide (l = 0)
  | p + 1, l => if l = 0 then true else if nI (p + 1) * wdF f l z < bcF l then false else (List.range z).any (fun i => !decide (f i &&& (rrF f z l 14).1 = 0) && sfF f z p (l &&& (f i ^^^ -1)))
theorem bcF_pos0 : ∀ a, a < 128 → ∀ b, b < 128 → 128 * a + b ≠ 0 → 0 < bcF (nI (128 * a + b)) := by decide +kernel
theorem bcF_pos {m : Nat} (h : m < 16384) (h0 : m ≠ 0) : 0 < bcF (nI m) := by
  have := bcF_pos0 (m / 128) (by omega) (m % 128) (by omega) (by omega)
  rwa [show 128 * (m / 128) + m % 128 = m by omega] at this
theorem and_nat {m : Nat} (hm : m < 16384) (y : Int32) : ∃ k, k < 16384 ∧ nI m &&& y = nI k := by
  refine ⟨m &&& y.toBitVec.toNat, Nat.lt_of_le_of_lt Nat.and_le_left hm, ?_⟩
  apply Int32.toBitVec_inj.mp
  apply BitVec.eq_of_toNat_eq
  rw [Int32.toBitVec_and, BitVec.toNat_and, pk_tn (by omega), pk_tn (Nat.lt_of_le_of_lt Nat.and_le_left (by omega))]

theorem anyT {f : Nat → Int32} {h : Int32} {g : Int32 → Bool} {l : Int32} {z i : Nat} (hi : i < z) (h1 : ¬ f i &&& h = 0) (h2 : g (l &&& (f i ^^^ -1)) = true) : (List.range z).any (fun i => !decide (f i &&& h = 0) && g (l &&& (f i ^^^ -1))) = true :=
  List.any_eq_true.mpr ⟨i, List.mem_range.mpr hi, by rw [h2, decide_eq_false h1]; rfl⟩
theorem anyF {f : Nat → Int32} {h : Int32} {g : Int32 → Bool} {l : Int32} {z : Nat} (ha : ∀ i, i < z → (f i &&& h = 0 ∨ g (l &&& (f i ^^^ -1)) = false)) : (List.range z).any (fun i => !decide (f i &&& h = 0) && g (l &&& (f i ^^^ -1))) = false := by
  rw [← Bool.not_eq_true]; intro q
  obtain ⟨i, hi, e⟩ := List.any_eq_true.mp q
  rcases ha i (List.mem_range.mp hi) with q | q
  · rw [decide_eq_true q] at e; cases e
  · rw [q, Bool.and_false] at e; cases e
set_option maxRecDepth 100000 in
set_option maxHeartbeats 4000000 in
theorem kX0_suffice {G : Cx} {S : Sx} (hN : 80 ≤ gN G) {z : Nat} (hz36 : z ≤ 36) : ∀ (p : Nat), p < 20 → ∀ (l : Int32), (∃ m, m < 16384 ∧ l = nI m) → CT G (2 + p) yX0_suffice cX0_suffice 6 (some .boolean) [ra G 19, .int (nI z), .int l, .int (nI p)] S (bb (sfF (S 19) z p l)) S := by
  intro p
  induction p with
  | zero =>
    intro hp l hl
    have hpos : ¬ l = 0 → 0 < bcF l := by
      obtain ⟨m, hm, rfl⟩ := hl
      intro h; exact bcF_pos hm (fun q => h (by rw [q]; rfl))
    refine CT_of (by decide) (Nat.le_of_ble_eq_true rfl) (by intro v hv; simp only [List.mem_cons, List.not_mem_nil, or_false] at hv; rcases hv with rfl | rfl | rfl | rfl <;> rfl) (fun F X E => ?_)
    have hR := RI_R E
    refine V_iload_n X dX0_suffice_0 rfl ?_
    refine V_if_ne X 6 dX0_suffice_1 (by decide) (fun h1 => ?_) (fun h1 => ?_)
    · have hl0 : ¬ l = 0 := h1
      refine V_iload_n X dX0_suffice_6 rfl ?_
      refine V_aload_n X dX0_suffice_7 rfl ?_
      refine V_iload_n X dX0_suffice_8 rfl ?_
      refine V_iload_n X dX0_suffice_9 rfl ?_
      refine V_csi X (kX0_widest hN hz36) cwX0_26 rfl (rm_ok hR (by omega) (by decide)) (Nat.le_of_ble_eq_true rfl) dX0_suffice_10 ?_
      refine V_imul X dX0_suffice_13 ?_
      refine V_iload_n X dX0_suffice_14 rfl ?_
      refine V_csi X (kJ6_bitCount_0f7a4 ) cwX0_30 rfl (rm_ok hR (by omega) (by decide)) (Nat.le_of_ble_eq_true rfl) dX0_suffice_15 ?_
      refine V_icmp_ge X 23 dX0_suffice_18 (by decide) (fun h18 => ?_) (fun h18 => ?_)
      · exact absurd (by rw [nI_0, Int32.zero_mul]; exact (hpos hl0)) (Int32.not_lt.mpr h18)
      · refine V_iconst X (nI 0) dX0_suffice_21 (by decide) ?_
        exact V_zret X E dX0_suffice_22 (by first | exact Or.inl rfl | exact Or.inr rfl) (by rw [sfF, decide_eq_false hl0]; rfl) rfl
    · refine V_iconst X (nI 1) dX0_suffice_4 (by decide) ?_
      exact V_zret X E dX0_suffice_5 (by first | exact Or.inl rfl | exact Or.inr rfl) (by rw [sfF, decide_eq_true (ts_nn h1)]; rfl) rfl
  | succ p ih =>
    intro hp l hl
    have ih := ih (by omega)
    have hl2 : ∀ y : Int32, ∃ m, m < 16384 ∧ l &&& y = nI m := by
      obtain ⟨m, hm, rfl⟩ := hl
      exact fun y => and_nat hm y
    refine CT_of (by decide) (Nat.le_of_ble_eq_true rfl) (by intro v hv; simp only [List.mem_cons, List.not_mem_nil, or_false] at hv; rcases hv with rfl | rfl | rfl | rfl <;> rfl) (fun F X E => ?_)
    have hR := RI_R E
    refine V_iload_n X dX0_suffice_0 rfl ?_
    refine V_if_ne X 6 dX0_suffice_1 (by decide) (fun h1 => ?_) (fun h1 => ?_)
    · have hl0 : ¬ l = 0 := h1
      refine V_iload_n X dX0_suffice_6 rfl ?_
      refine V_aload_n X dX0_suffice_7 rfl ?_
      refine V_iload_n X dX0_suffice_8 rfl ?_
      refine V_iload_n X dX0_suffice_9 rfl ?_
      refine V_csi X (kX0_widest hN hz36) cwX0_26 rfl (rm_ok hR (by omega) (by decide)) (Nat.le_of_ble_eq_true rfl) dX0_suffice_10 ?_
      refine V_imul X dX0_suffice_13 ?_
      refine V_iload_n X dX0_suffice_14 rfl ?_
      refine V_csi X (kJ6_bitCount_0f7a4 ) cwX0_30 rfl (rm_ok hR (by omega) (by decide)) (Nat.le_of_ble_eq_true rfl) dX0_suffice_15 ?_
      refine V_icmp_ge X 23 dX0_suffice_18 (by decide) (fun h18 => ?_) (fun h18 => ?_)
      · have h18 : bcF l ≤ nI (p + 1) * wdF (S 19) l z := h18
        refine V_aload_n X dX0_suffice_23 rfl ?_
        refine V_iload_n X dX0_suffice_24 rfl ?_
        refine V_iload_n X dX0_suffice_25 rfl ?_
        refine V_csi X (kX0_rarest hN hz36) cwX0_36 rfl (rm_ok hR (by omega) (by decide)) (Nat.le_of_ble_eq_true rfl) dX0_suffice_26 ?_
        refine V_istore X dX0_suffice_29 (by rw [hR.2]; decide) ?_
        refine V_iconst X (nI 0) dX0_suffice_31 (by decide) ?_
        refine V_istore X dX0_suffice_32 (by rw [hR.2]; decide) ?_
        have loop : ∀ (f i : Nat), i ≤ z → z - i < f → (∀ j, j < i → (S 19 j &&& (rrF (S 19) z l 14).1 = 0 ∨ sfF (S 19) z p (l &&& (S 19 j ^^^ -1)) = false)) → V F G S 34 [some (ra G 19), some (.int (nI z)), some (.int l), some (.int (nI (p + 1))), some (.int (rrF (S 19) z l 14).1), some (.int (nI i))] [] := by
          intro f
          induction f with
          | zero => intro i h1 h2; omega
          | succ f ih2 =>
            intro i h5 h6 hall
            refine V_iload X dX0_suffice_34 rfl ?_
            refine V_iload_n X dX0_suffice_36 rfl ?_
            refine V_cN_ge X 77 (by omega) (by omega) dX0_suffice_37 (by decide) (fun h37 => ?_) (fun h37 => ?_)
            · refine V_iconst X (nI 0) dX0_suffice_77 (by decide) ?_
              exact V_zret X E dX0_suffice_78 (by first | exact Or.inl rfl | exact Or.inr rfl) (by rw [sfF, if_neg hl0, if_neg (Int32.not_lt.mpr h18), anyF (fun j hj => hall j (by omega))]; rfl) rfl
            · refine V_aload_n X dX0_suffice_40 rfl ?_
              refine V_iload X dX0_suffice_41 rfl ?_
              refine V_ialdN X (ltN (by decide) hN) rfl (by omega) (by decide) dX0_suffice_43 ?_
              refine V_iload X dX0_suffice_44 rfl ?_
              refine V_iand X dX0_suffice_46 ?_
              refine V_if_eq X 71 dX0_suffice_47 (by decide) (fun h47 => ?_) (fun h47 => ?_)
              · refine V_iinc X (nI (_ + 1)) dX0_suffice_71 (by rw [hR.2]; decide) rfl (nI_add _ 1) ?_
                refine V_goto X 34 dX0_suffice_74 (by decide) ?_
                exact ih2 (i + 1) (by omega) (by omega) (fun j hj => by rcases Nat.lt_succ_iff_lt_or_eq.mp hj with q | q; exact hall j q; subst q; exact Or.inl h47)
              · refine V_aload_n X dX0_suffice_50 rfl ?_
                refine V_iload_n X dX0_suffice_51 rfl ?_
                refine V_iload_n X dX0_suffice_52 rfl ?_
                refine V_aload_n X dX0_suffice_53 rfl ?_
                refine V_iload X dX0_suffice_54 rfl ?_
                refine V_ialdN X (ltN (by decide) hN) rfl (by omega) (by decide) dX0_suffice_56 ?_
                refine V_iconst X (-1) dX0_suffice_57 (by decide) ?_
                refine V_ixor X dX0_suffice_58 ?_
                refine V_iand X dX0_suffice_59 ?_
                refine V_iload_n X dX0_suffice_60 rfl ?_
                refine V_iconst X (nI 1) dX0_suffice_61 (by decide) ?_
                refine V_subN X dX0_suffice_62 (by omega) ?_
                refine V_csi X ((ih _ (hl2 (S 19 i ^^^ -1)))) cwX0_22 rfl (rm_ok hR (by omega) (by decide)) (Nat.le_of_ble_eq_true rfl) dX0_suffice_63 ?_
                refine V_if_eq X 71 dX0_suffice_66 (by decide) (fun h66 => ?_) (fun h66 => ?_)
                · refine V_iinc X (nI (_ + 1)) dX0_suffice_71 (by rw [hR.2]; decide) rfl (nI_add _ 1) ?_
                  refine V_goto X 34 dX0_suffice_74 (by decide) ?_
                  exact ih2 (i + 1) (by omega) (by omega) (fun j hj => by rcases Nat.lt_succ_iff_lt_or_eq.mp hj with q | q; exact hall j q; subst q; exact Or.inr (bb_0.mp h66))
                · refine V_iconst X (nI 1) dX0_suffice_69 (by decide) ?_
                  exact V_zret X E dX0_suffice_70 (by first | exact Or.inl rfl | exact Or.inr rfl) (by rw [sfF, if_neg hl0, if_neg (Int32.not_lt.mpr h18), anyT h37 h47 (bb_n.mp h66)]; rfl) rfl
        exact loop (z + 1) 0 (by omega) (by omega) (fun j hj => absurd hj (by omega))
      · refine V_iconst X (nI 0) dX0_suffice_21 (by decide) ?_
        exact V_zret X E dX0_suffice_22 (by first | exact Or.inl rfl | exact Or.inr rfl) (by rw [sfF, if_neg hl0, if_pos (Int32.not_le.mp h18)]; rfl) rfl
    · refine V_iconst X (nI 1) dX0_suffice_4 (by decide) ?_
      exact V_zret X E dX0_suffice_5 (by first | exact Or.inl rfl | exact Or.inr rfl) (by rw [sfF, if_pos (ts_nn h1)]; rfl) rfl

def lsF (f : Nat → Int32) (z : Nat) (a : Int32) : Nat → Nat → Nat
  | 0, p => p
  | k + 1, p => if sfF f z p a then p else lsF f z a k (p + 1)
set_option maxRecDepth 100000 in
set_option maxHeartbeats 4000000 in
theorem kX0_least {G : Cx} {S : Sx} (hN : 80 ≤ gN G) {z r : Nat} {a : Int32} (hz : S 18 1 = nI z) (hz36 : z ≤ 36) (ha : S 18 2 = a) (hl : ∃ m, m < 16384 ∧ a = nI m) (hr : lsF (S 19) z a 14 0 = r) : CT G (20) yX0_least cX0_least 2 (some .int) [ra G 18] S (nI r) (S) := by
  subst ha
  refine CT_of (by decide) (Nat.le_of_ble_eq_true rfl) (by intro v hv; simp only [List.mem_cons, List.not_mem_nil, or_false] at hv; rcases hv with rfl <;> rfl) (fun F X E => ?_)
  have hR := RI_R E
  have loop : ∀ (k p : Nat), p + k = 14 → lsF (S 19) z (S 18 2) k p = r → V F G S 2 [some (ra G 18), some (.int (nI p))] [] := by
    intro k
    induction k with
    | zero =>
      intro p hp hr
      refine V_iload_n X dX0_least_2 rfl ?_
      refine V_bipush X (nI 14) dX0_least_3 (by decide) ?_
      refine V_cN_ge X 35 (by omega) (by omega) dX0_least_5 (by decide) (fun h5 => ?_) (fun h5 => ?_)
      · refine V_bipush X (nI 14) dX0_least_35 (by decide) ?_
        exact V_iret X E dX0_least_37 (by rw [← hr, lsF, show p = 14 by omega]) rfl
      · omega
    | succ k ih =>
      intro p hp hr
      refine V_iload_n X dX0_least_2 rfl ?_
      refine V_bipush X (nI 14) dX0_least_3 (by decide) ?_
      refine V_cN_ge X 35 (by omega) (by omega) dX0_least_5 (by decide) (fun h5 => ?_) (fun h5 => ?_)
      · refine V_bipush X (nI 14) dX0_least_35 (by decide) ?_
        exact absurd h5 (by omega)
      · refine V_aload_n X dX0_least_8 rfl ?_
        refine V_getr X flX0_9 (ltN (by decide) hN) rfl rfl dX0_least_9 ?_
        refine V_aload_n X dX0_least_12 rfl ?_
        refine V_geti X flX0_15 (ltN (by decide) hN) rfl rfl dX0_least_13 ?_
        refine V_top (nI (z)) (by first | exact hz | (simp only [st_at]; simp; exact hz)) ?_
        refine V_aload_n X dX0_least_16 rfl ?_
        refine V_geti X flX0_19 (ltN (by decide) hN) rfl rfl dX0_least_17 ?_
        refine V_iload_n X dX0_least_20 rfl ?_
        refine V_csi X (kX0_suffice hN hz36 p (by omega) _ hl) cwX0_22 rfl (rm_ok hR (by omega) (by decide)) (Nat.le_of_ble_eq_true rfl) dX0_least_21 ?_
        refine V_if_eq X 29 dX0_least_24 (by decide) (fun h24 => ?_) (fun h24 => ?_)
        · refine V_iinc X (nI (_ + 1)) dX0_least_29 (by rw [hR.2]; decide) rfl (nI_add _ 1) ?_
          refine V_goto X 2 dX0_least_32 (by decide) ?_
          exact ih (p + 1) (by omega) (by rw [← hr, lsF, if_neg (by rw [bb_0.mp h24]; decide)])
        · refine V_iload_n X dX0_least_27 rfl ?_
          exact V_iret X E dX0_least_28 (by rw [lsF, if_pos (bb_n.mp h24)] at hr; exact congrArg nI hr) rfl
  refine V_iconst X (nI 0) dX0_least_0 (by decide) ?_
  refine V_istore_n X dX0_least_1 (by rw [hR.2]; decide) ?_
  exact loop 14 0 rfl hr
end
section
abbrev pfP (n : Nat) (x : Int32) : Prop := 0 ≤ x.toInt ∧ x.toInt ≤ n
abbrev rdP (z : Nat) (x : Int32) : Prop := 0 ≤ x.toInt ∧ x.toInt < z
theorem pf_nat {n : Nat} {x : Int32} (hn : n < 2147483648) (h : pfP n x) : ∃ k, k ≤ n ∧ x = nI k := ⟨x.toInt.toNat, by have := h.1; have := h.2; omega, i_of (by have := h.1; omega) (by have := h.1; have := h.2; omega)⟩
theorem rd_nat {n : Nat} {x : Int32} (hn : n < 2147483648) (h : rdP n x) : ∃ k, k < n ∧ x = nI k := ⟨x.toInt.toNat, by have := h.1; have := h.2; omega, i_of (by have := h.1; omega) (by have := h.1; have := h.2; omega)⟩
theorem gek {x : Int32} {k : Nat} (hk : k < 2147483648) (h : nI k ≤ x) : (k : Int) ≤ x.toInt := by have := i_le.mp h; rwa [t_k k hk] at this
theorem ngek {x : Int32} {k : Nat} (hk : k < 2147483648) (h : ¬ nI k ≤ x) : x.toInt < (k : Int) := by rw [i_le, t_k k hk] at h; omega

set_option maxRecDepth 100000 in
set_option maxHeartbeats 4000000 in
theorem kX5_hasPrefix {G : Cx} {S : Sx} (hN : 80 ≤ gN G) {x : Int32} {n : Nat} (hn : S 1 2 = nI n) (hn14 : n ≤ 14) : CT G (0) yX5_hasPrefix cX5_hasPrefix 2 (some .boolean) [ra G 0, .int x] S (bi (pfP n x)) (S) := by
  refine CT_of (by decide) (Nat.le_of_ble_eq_true rfl) (by intro v hv; simp only [List.mem_cons, List.not_mem_nil, or_false] at hv; rcases hv with rfl | rfl <;> rfl) (fun F X E => ?_)
  have hR := RI_R E
  refine V_iload_n X dX5_hasPrefix_0 rfl ?_
  refine V_if_lt X 19 dX5_hasPrefix_1 (by decide) (fun h1 => ?_) (fun h1 => ?_)
  · refine V_iconst X (nI 0) dX5_hasPrefix_19 (by decide) ?_
    exact V_zret X E dX5_hasPrefix_20 (by first | exact Or.inl rfl | exact Or.inr rfl | exact bi_01 _) (bi_f (fun q => by have := lt0 h1; have := q.1; omega)) rfl
  · refine V_iload_n X dX5_hasPrefix_4 rfl ?_
    refine V_aload_n X dX5_hasPrefix_5 rfl ?_
    refine V_getr X flX5_12 (ltN (by decide) hN) rfl rfl dX5_hasPrefix_6 ?_
    refine V_getNi X fnX5_73 (ltN (by decide) hN) rfl rfl dX5_hasPrefix_9 ?_
    refine V_top (nI (n)) (by first | exact hn | (simp only [st_at]; simp; exact hn)) ?_
    refine V_icmp_gt X 19 dX5_hasPrefix_12 (by decide) (fun h12 => ?_) (fun h12 => ?_)
    · refine V_iconst X (nI 0) dX5_hasPrefix_19 (by decide) ?_
      exact V_zret X E dX5_hasPrefix_20 (by first | exact Or.inl rfl | exact Or.inr rfl | exact bi_01 _) (by first | exact bi_t ⟨nlt0 h1, ngtk (by omega) h12⟩ | exact bi_f (fun q => by have := gtk (by omega) h12; have := q.2; omega)) rfl
    · refine V_iconst X (nI 1) dX5_hasPrefix_15 (by decide) ?_
      refine V_goto X 20 dX5_hasPrefix_16 (by decide) ?_
      exact V_zret X E dX5_hasPrefix_20 (by first | exact Or.inl rfl | exact Or.inr rfl | exact bi_01 _) (by first | exact bi_t ⟨nlt0 h1, ngtk (by omega) h12⟩ | exact bi_f (fun q => by have := gtk (by omega) h12; have := q.2; omega)) rfl

set_option maxRecDepth 100000 in
set_option maxHeartbeats 4000000 in
theorem kX5_hasReading {G : Cx} {S : Sx} (hN : 80 ≤ gN G) {x : Int32} {n z : Nat} (hn : S 1 2 = nI n) (hn14 : n ≤ 14) (hz : S 6 n = nI z) (hz64 : z ≤ 64) : CT G (1) yX5_hasReading cX5_hasReading 2 (some .boolean) [ra G 0, .int x] S (bi (rdP z x)) (S) := by
  refine CT_of (by decide) (Nat.le_of_ble_eq_true rfl) (by intro v hv; simp only [List.mem_cons, List.not_mem_nil, or_false] at hv; rcases hv with rfl | rfl <;> rfl) (fun F X E => ?_)
  have hR := RI_R E
  refine V_iload_n X dX5_hasReading_0 rfl ?_
  refine V_if_lt X 26 dX5_hasReading_1 (by decide) (fun h1 => ?_) (fun h1 => ?_)
  · refine V_iconst X (nI 0) dX5_hasReading_26 (by decide) ?_
    exact V_zret X E dX5_hasReading_27 (by first | exact Or.inl rfl | exact Or.inr rfl | exact bi_01 _) (bi_f (fun q => by have := lt0 h1; have := q.1; omega)) rfl
  · refine V_iload_n X dX5_hasReading_4 rfl ?_
    refine V_aload_n X dX5_hasReading_5 rfl ?_
    refine V_getr X flX5_19 (ltN (by decide) hN) rfl rfl dX5_hasReading_6 ?_
    refine V_aload_n X dX5_hasReading_9 rfl ?_
    refine V_getr X flX5_12 (ltN (by decide) hN) rfl rfl dX5_hasReading_10 ?_
    refine V_getNi X fnX5_73 (ltN (by decide) hN) rfl rfl dX5_hasReading_13 ?_
    refine V_top (nI (n)) (by first | exact hn | (simp only [st_at]; simp; exact hn)) ?_
    refine V_cvi X (ltN (by decide) hN) rfl rfl rfl (kX3_size hN (by omega)) cwX5_69 rfl (rm_ok hR (by decide) (by decide)) (Nat.le_of_ble_eq_true rfl) dX5_hasReading_16 ?_
    refine V_top (nI (z)) (hz) ?_
    refine V_icmp_ge X 26 dX5_hasReading_19 (by decide) (fun h19 => ?_) (fun h19 => ?_)
    · refine V_iconst X (nI 0) dX5_hasReading_26 (by decide) ?_
      exact V_zret X E dX5_hasReading_27 (by first | exact Or.inl rfl | exact Or.inr rfl | exact bi_01 _) (by first | exact bi_t ⟨nlt0 h1, ngek (by omega) h19⟩ | exact bi_f (fun q => by have := gek (by omega) h19; have := q.2; omega)) rfl
    · refine V_iconst X (nI 1) dX5_hasReading_22 (by decide) ?_
      refine V_goto X 27 dX5_hasReading_23 (by decide) ?_
      exact V_zret X E dX5_hasReading_27 (by first | exact Or.inl rfl | exact Or.inr rfl | exact bi_01 _) (by first | exact bi_t ⟨nlt0 h1, ngek (by omega) h19⟩ | exact bi_f (fun q => by have := gek (by omega) h19; have := q.2; omega)) rfl

set_option maxRecDepth 100000 in
set_option maxHeartbeats 4000000 in
theorem kX5_rightAnswer {G : Cx} {S : Sx} (hN : 80 ≤ gN G) {q n : Nat} (hn : S 1 2 = nI n) (hn14 : n ≤ 14) (hq : q < 36) : CT G (0) yX5_rightAnswer cX5_rightAnswer 2 (some .int) [ra G 0, .int (nI q)] S (S (35 + n) q) (S) := by
  refine CT_of (by decide) (Nat.le_of_ble_eq_true rfl) (by intro v hv; simp only [List.mem_cons, List.not_mem_nil, or_false] at hv; rcases hv with rfl | rfl <;> rfl) (fun F X E => ?_)
  have hR := RI_R E
  refine V_aload_n X dX5_rightAnswer_0 rfl ?_
  refine V_getr X flX5_33 (ltN (by decide) hN) rfl rfl dX5_rightAnswer_1 ?_
  refine V_getNr X fnX5_90 (ltN (by decide) hN) rfl rfl dX5_rightAnswer_4 ?_
  refine V_aload_n X dX5_rightAnswer_7 rfl ?_
  refine V_getr X flX5_12 (ltN (by decide) hN) rfl rfl dX5_rightAnswer_8 ?_
  refine V_getNi X fnX5_73 (ltN (by decide) hN) rfl rfl dX5_rightAnswer_11 ?_
  refine V_top (nI (n)) (by first | exact hn | (simp only [st_at]; simp; exact hn)) ?_
  refine V_aaldN X (ltN (by decide) hN) rfl (by omega) dX5_rightAnswer_14 ?_
  refine V_iload_n X dX5_rightAnswer_15 rfl ?_
  refine V_ialdN X (ltN (by omega) hN) (ds_fnd (by omega) (by omega)) (by omega) (by decide) dX5_rightAnswer_16 ?_
  exact V_iret X E dX5_rightAnswer_17 rfl rfl

def waF (S : Sx) (q : Nat) (x : Int32) (n : Nat) : Bool := (List.range n).any (fun k => decide (S (35 + k) q = x))
theorem waF_t {S : Sx} {q n i : Nat} {x : Int32} (h : i < n) (e : S (35 + i) q = x) : waF S q x n = true := List.any_eq_true.mpr ⟨i, List.mem_range.mpr h, decide_eq_true e⟩
theorem waF_f {S : Sx} {q n : Nat} {x : Int32} (h : ∀ i, i < n → ¬ S (35 + i) q = x) : waF S q x n = false := by
  rw [← Bool.not_eq_true]; intro z
  obtain ⟨i, hi, e⟩ := List.any_eq_true.mp z
  exact h i (List.mem_range.mp hi) (of_decide_eq_true e)

set_option maxRecDepth 100000 in
set_option maxHeartbeats 4000000 in
theorem kX5_wasAnswer {G : Cx} {S : Sx} (hN : 80 ≤ gN G) {q n : Nat} {x : Int32} (hn : S 1 2 = nI n) (hn14 : n ≤ 14) (hq : q < 36) : CT G (0) yX5_wasAnswer cX5_wasAnswer 4 (some .boolean) [ra G 0, .int (nI q), .int x] S (bb (waF S q x n)) (S) := by
  refine CT_of (by decide) (Nat.le_of_ble_eq_true rfl) (by intro v hv; simp only [List.mem_cons, List.not_mem_nil, or_false] at hv; rcases hv with rfl | rfl | rfl <;> rfl) (fun F X E => ?_)
  have hR := RI_R E
  have loop : ∀ (f i : Nat), i ≤ n → n - i < f → (∀ j, j < i → ¬ S (35 + j) q = x) → V F G S 2 [some (ra G 0), some (.int (nI q)), some (.int x), some (.int (nI i))] [] := by
    intro f
    induction f with
    | zero => intro i h1 h2; omega
    | succ f ih =>
      intro i h1 h2 hall
      refine V_iload_n X dX5_wasAnswer_2 rfl ?_
      refine V_aload_n X dX5_wasAnswer_3 rfl ?_
      refine V_getr X flX5_12 (ltN (by decide) hN) rfl rfl dX5_wasAnswer_4 ?_
      refine V_getNi X fnX5_73 (ltN (by decide) hN) rfl rfl dX5_wasAnswer_7 ?_
      refine V_top (nI (n)) (by first | exact hn | (simp only [st_at]; simp; exact hn)) ?_
      refine V_cN_ge X 36 (by omega) (by omega) dX5_wasAnswer_10 (by decide) (fun h10 => ?_) (fun h10 => ?_)
      · refine V_iconst X (nI 0) dX5_wasAnswer_36 (by decide) ?_
        exact V_zret X E dX5_wasAnswer_37 (by first | exact Or.inl rfl | exact Or.inr rfl | exact bi_01 _) (by rw [waF_f (fun j hj => hall j (by omega))]; rfl) rfl
      · refine V_aload_n X dX5_wasAnswer_13 rfl ?_
        refine V_getr X flX5_33 (ltN (by decide) hN) rfl rfl dX5_wasAnswer_14 ?_
        refine V_getNr X fnX5_90 (ltN (by decide) hN) rfl rfl dX5_wasAnswer_17 ?_
        refine V_iload_n X dX5_wasAnswer_20 rfl ?_
        refine V_aaldN X (ltN (by decide) hN) rfl (by omega) dX5_wasAnswer_21 ?_
        refine V_iload_n X dX5_wasAnswer_22 rfl ?_
        refine V_ialdN X (ltN (by omega) hN) (ds_fnd (by omega) (by omega)) (by omega) (by decide) dX5_wasAnswer_23 ?_
        refine V_iload_n X dX5_wasAnswer_24 rfl ?_
        refine V_icmp_ne X 30 dX5_wasAnswer_25 (by decide) (fun h25 => ?_) (fun h25 => ?_)
        · refine V_iinc X (nI (_ + 1)) dX5_wasAnswer_30 (by rw [hR.2]; decide) rfl (nI_add _ 1) ?_
          refine V_goto X 2 dX5_wasAnswer_33 (by decide) ?_
          exact ih (i + 1) (by omega) (by omega) (fun j hj => by rcases Nat.lt_succ_iff_lt_or_eq.mp hj with z | z; exact hall j z; subst z; exact h25)
        · refine V_iconst X (nI 1) dX5_wasAnswer_28 (by decide) ?_
          exact V_zret X E dX5_wasAnswer_29 (by first | exact Or.inl rfl | exact Or.inr rfl | exact bi_01 _) (by rw [waF_t h10 (ts_nn h25)]; rfl) rfl
  refine V_iconst X (nI 0) dX5_wasAnswer_0 (by decide) ?_
  refine V_istore_n X dX5_wasAnswer_1 (by rw [hR.2]; decide) ?_
  exact loop (n + 1) 0 (by omega) (by omega) (fun j hj => absurd hj (by omega))

def cbF (r nm fs : Int32) : Nat → Nat → Int32 → Int32
  | 0, _, _ => -1
  | k + 1, b, a => if (nm >>> (nI b &&& 31)) &&& nI 1 = 0 then cbF r nm fs k (b + 1) a else if fs + nI b = r then cbF r nm fs k (b + 1) a else if a = 0 then fs + nI b else cbF r nm fs k (b + 1) (a + Int32.ofInt (-1))

set_option maxRecDepth 100000 in
set_option maxHeartbeats 4000000 in
theorem kX5_choiceBut {G : Cx} {S : Sx}  {x nm fs i r : Int32} (hr : cbF x nm fs 8 0 i = r) : CT G (0) yX5_choiceBut cX5_choiceBut 6 (some .int) [.int x, .int nm, .int fs, .int i] S (r) (S) := by
  refine CT_of (by decide) (Nat.le_of_ble_eq_true rfl) (by intro v hv; simp only [List.mem_cons, List.not_mem_nil, or_false] at hv; rcases hv with rfl | rfl | rfl | rfl <;> rfl) (fun F X E => ?_)
  have hR := RI_R E
  have loop : ∀ (k b : Nat) (a : Int32), b + k = 8 → cbF x nm fs k b a = r → V F G S 6 [some (.int x), some (.int nm), some (.int fs), some (.int i), some (.int a), some (.int (nI b))] [] := by
    intro k
    induction k with
    | zero =>
      intro b a hb hr
      refine V_iload X dX5_choiceBut_6 rfl ?_
      refine V_bipush X (nI 8) dX5_choiceBut_8 (by decide) ?_
      refine V_cN_ge X 49 (by omega) (by omega) dX5_choiceBut_10 (by decide) (fun h10 => ?_) (fun h10 => ?_)
      · refine V_iconst X (-1) dX5_choiceBut_49 (by decide) ?_
        exact V_iret X E dX5_choiceBut_50 hr rfl
      · omega
    | succ k ih =>
      intro b a hb hr
      refine V_iload X dX5_choiceBut_6 rfl ?_
      refine V_bipush X (nI 8) dX5_choiceBut_8 (by decide) ?_
      refine V_cN_ge X 49 (by omega) (by omega) dX5_choiceBut_10 (by decide) (fun h10 => ?_) (fun h10 => ?_)
      · refine V_iconst X (-1) dX5_choiceBut_49 (by decide) ?_
        exact absurd h10 (by omega)
      · refine V_iload_n X dX5_choiceBut_13 rfl ?_
        refine V_iload X dX5_choiceBut_14 rfl ?_
        refine V_ishr X dX5_choiceBut_16 ?_
        refine V_iconst X (nI 1) dX5_choiceBut_17 (by decide) ?_
        refine V_iand X dX5_choiceBut_18 ?_
        refine V_if_eq X 43 dX5_choiceBut_19 (by decide) (fun h19 => ?_) (fun h19 => ?_)
        · refine V_iinc X (nI (_ + 1)) dX5_choiceBut_43 (by rw [hR.2]; decide) rfl (nI_add _ 1) ?_
          refine V_goto X 6 dX5_choiceBut_46 (by decide) ?_
          exact ih (b + 1) _ (by omega) (by rw [← hr, cbF, if_pos h19])
        · refine V_iload_n X dX5_choiceBut_22 rfl ?_
          refine V_iload X dX5_choiceBut_23 rfl ?_
          refine V_iadd X dX5_choiceBut_25 ?_
          refine V_iload_n X dX5_choiceBut_26 rfl ?_
          refine V_icmp_eq X 43 dX5_choiceBut_27 (by decide) (fun h27 => ?_) (fun h27 => ?_)
          · refine V_iinc X (nI (_ + 1)) dX5_choiceBut_43 (by rw [hR.2]; decide) rfl (nI_add _ 1) ?_
            refine V_goto X 6 dX5_choiceBut_46 (by decide) ?_
            exact ih (b + 1) _ (by omega) (by rw [← hr, cbF, if_neg h19, if_pos h27])
          · refine V_iload X dX5_choiceBut_30 rfl ?_
            refine V_if_ne X 40 dX5_choiceBut_32 (by decide) (fun h32 => ?_) (fun h32 => ?_)
            · refine V_iinc X _ dX5_choiceBut_40 (by rw [hR.2]; decide) rfl rfl ?_
              refine V_iinc X (nI (_ + 1)) dX5_choiceBut_43 (by rw [hR.2]; decide) rfl (nI_add _ 1) ?_
              refine V_goto X 6 dX5_choiceBut_46 (by decide) ?_
              exact ih (b + 1) _ (by omega) (by rw [← hr, cbF, if_neg h19, if_neg h27, if_neg h32])
            · refine V_iload_n X dX5_choiceBut_35 rfl ?_
              refine V_iload X dX5_choiceBut_36 rfl ?_
              refine V_iadd X dX5_choiceBut_38 ?_
              exact V_iret X E dX5_choiceBut_39 (by rw [cbF, if_neg h19, if_neg h27, if_pos (ts_nn h32)] at hr; exact hr) rfl
  refine V_iload_n X dX5_choiceBut_0 rfl ?_
  refine V_istore X dX5_choiceBut_1 (by rw [hR.2]; decide) ?_
  refine V_iconst X (nI 0) dX5_choiceBut_3 (by decide) ?_
  refine V_istore X dX5_choiceBut_4 (by rw [hR.2]; decide) ?_
  exact loop 8 0 i rfl hr

def cbt (s w : Nat) (c : Int32) : Int32 := c <<< (nI (2 * s + w) &&& 31)
set_option maxRecDepth 100000 in
set_option maxHeartbeats 4000000 in
theorem kX5_choiceBit {G : Cx} {S : Sx}  {s w : Nat} {c : Int32} : CT G (0) yX5_choiceBit cX5_choiceBit 3 (some .int) [.int (nI s), .int (nI w), .int c] S (cbt s w c) (S) := by
  refine CT_of (by decide) (Nat.le_of_ble_eq_true rfl) (by intro v hv; simp only [List.mem_cons, List.not_mem_nil, or_false] at hv; rcases hv with rfl | rfl | rfl <;> rfl) (fun F X E => ?_)
  have hR := RI_R E
  refine V_iload_n X dX5_choiceBit_0 rfl ?_
  refine V_iconst X (nI 2) dX5_choiceBit_1 (by decide) ?_
  refine V_iload_n X dX5_choiceBit_2 rfl ?_
  refine V_mulN X dX5_choiceBit_3 ?_
  refine V_iload_n X dX5_choiceBit_4 rfl ?_
  refine V_addN X dX5_choiceBit_5 ?_
  refine V_ishl X dX5_choiceBit_6 ?_
  exact V_iret X E dX5_choiceBit_7 rfl rfl

def okF (k : Nat) (x : Int32) : Int32 := if k = 2 then bi (isP x ∨ x = nI 9) else if k = 3 then bi (¬ x < 0 ∧ ¬ nI 10 < x) else bi (isL x)
theorem okF_01 (k : Nat) (x : Int32) : okF k x = 0 ∨ okF k x = 1 := by unfold okF; split; exact bi_01 _; split; exact bi_01 _; exact bi_01 _
set_option maxRecDepth 100000 in
set_option maxHeartbeats 4000000 in
theorem kX5_isOfKind {G : Cx} {S : Sx} {k : Nat} {x : Int32} (hk : k < 4) : CT G 1 yX5_isOfKind cX5_isOfKind 2 (some .boolean) [.int (nI k), .int x] S (okF k x) S := by
  refine CT_of (by decide) (Nat.le_of_ble_eq_true rfl) (by intro v hv; simp only [List.mem_cons, List.not_mem_nil, or_false] at hv; rcases hv with rfl | rfl <;> rfl) (fun F X E => ?_)
  have hR := RI_R E
  refine V_iload_n X dX5_isOfKind_0 rfl ?_
  rcases (show k = 0 ∨ k = 1 ∨ k = 2 ∨ k = 3 by omega) with rfl | rfl | rfl | rfl
  · refine V_look X 62 63 dX5_isOfKind_1 (by decide) (by decide) (by decide) ?_
    refine V_iload_n X dX5_isOfKind_63 rfl ?_
    refine V_csi X (kX5_isPlace ) cwX5_196 rfl (rm_ok hR (by decide) (by decide)) (Nat.le_of_ble_eq_true rfl) dX5_isOfKind_64 ?_
    exact V_zret X E dX5_isOfKind_67 (by first | exact Or.inl rfl | exact Or.inr rfl | exact bi_01 _) rfl rfl
  · refine V_look X 62 63 dX5_isOfKind_1 (by decide) (by decide) (by decide) ?_
    refine V_iload_n X dX5_isOfKind_63 rfl ?_
    refine V_csi X (kX5_isPlace ) cwX5_196 rfl (rm_ok hR (by decide) (by decide)) (Nat.le_of_ble_eq_true rfl) dX5_isOfKind_64 ?_
    exact V_zret X E dX5_isOfKind_67 (by first | exact Or.inl rfl | exact Or.inr rfl | exact bi_01 _) rfl rfl
  · refine V_look X 27 28 dX5_isOfKind_1 (by decide) (by decide) (by decide) ?_
    refine V_iload_n X dX5_isOfKind_28 rfl ?_
    refine V_csi X (kX5_isPerson ) cwX5_193 rfl (rm_ok hR (by decide) (by decide)) (Nat.le_of_ble_eq_true rfl) dX5_isOfKind_29 ?_
    refine V_if_ne X 41 dX5_isOfKind_32 (by decide) (fun h32 => ?_) (fun h32 => ?_)
    · refine V_iconst X (nI 1) dX5_isOfKind_41 (by decide) ?_
      refine V_goto X 46 dX5_isOfKind_42 (by decide) ?_
      exact V_zret X E dX5_isOfKind_46 (by first | exact Or.inl rfl | exact Or.inr rfl | exact bi_01 _) (bi_t (Or.inl (bi_ne.mp h32))) rfl
    · refine V_iload_n X dX5_isOfKind_35 rfl ?_
      refine V_bipush X (nI 9) dX5_isOfKind_36 (by decide) ?_
      refine V_icmp_ne X 45 dX5_isOfKind_38 (by decide) (fun h38 => ?_) (fun h38 => ?_)
      · refine V_iconst X (nI 0) dX5_isOfKind_45 (by decide) ?_
        exact V_zret X E dX5_isOfKind_46 (by first | exact Or.inl rfl | exact Or.inr rfl | exact bi_01 _) (by first | exact bi_t (Or.inr (ts_nn h38)) | exact bi_f (fun q => q.elim (fun z => h32 (bi_ne.mpr z)) h38)) rfl
      · refine V_iconst X (nI 1) dX5_isOfKind_41 (by decide) ?_
        refine V_goto X 46 dX5_isOfKind_42 (by decide) ?_
        exact V_zret X E dX5_isOfKind_46 (by first | exact Or.inl rfl | exact Or.inr rfl | exact bi_01 _) (by first | exact bi_t (Or.inr (ts_nn h38)) | exact bi_f (fun q => q.elim (fun z => h32 (bi_ne.mpr z)) h38)) rfl
  · refine V_look X 46 47 dX5_isOfKind_1 (by decide) (by decide) (by decide) ?_
    refine V_iload_n X dX5_isOfKind_47 rfl ?_
    refine V_if_lt X 61 dX5_isOfKind_48 (by decide) (fun h48 => ?_) (fun h48 => ?_)
    · refine V_iconst X (nI 0) dX5_isOfKind_61 (by decide) ?_
      exact V_zret X E dX5_isOfKind_62 (by first | exact Or.inl rfl | exact Or.inr rfl | exact bi_01 _) (bi_f (fun q => q.1 h48)) rfl
    · refine V_iload_n X dX5_isOfKind_51 rfl ?_
      refine V_bipush X (nI 10) dX5_isOfKind_52 (by decide) ?_
      refine V_icmp_gt X 61 dX5_isOfKind_54 (by decide) (fun h54 => ?_) (fun h54 => ?_)
      · refine V_iconst X (nI 0) dX5_isOfKind_61 (by decide) ?_
        exact V_zret X E dX5_isOfKind_62 (by first | exact Or.inl rfl | exact Or.inr rfl | exact bi_01 _) (by first | exact bi_t ⟨h48, h54⟩ | exact bi_f (fun q => q.2 h54)) rfl
      · refine V_iconst X (nI 1) dX5_isOfKind_57 (by decide) ?_
        refine V_goto X 62 dX5_isOfKind_58 (by decide) ?_
        exact V_zret X E dX5_isOfKind_62 (by first | exact Or.inl rfl | exact Or.inr rfl | exact bi_01 _) (by first | exact bi_t ⟨h48, h54⟩ | exact bi_f (fun q => q.2 h54)) rfl

def faS (S : Sx) (k : Nat) : Nat → Sx
  | 0 => S
  | r + 1 => hrF (goT (faS S k r) (S (20 + k) r) k) k (if r = 0 then 1 else 0) 36
theorem faS_ne {S : Sx} {k q : Nat} (h : q < 8 ∨ (14 ≤ q ∧ q < 35)) : ∀ r, faS S k r q = S q
  | 0 => rfl
  | r + 1 => by unfold faS; rw [hrF_w (by omega), goT_ne (by omega)]; exact faS_ne h r

set_option maxRecDepth 100000 in
set_option maxHeartbeats 4000000 in
theorem kX5_findAnswers {G : Cx} {S : Sx} (hN : 80 ≤ gN G) {k z : Nat} (hk : k ≤ 14) (hz : S 6 k = nI z) (hz64 : z ≤ 64) (hok : ∀ s, s < k → okS S s) : CV G (5) yX5_findAnswers cX5_findAnswers 3 [ra G 0, .int (nI k)] S (clF (faS S k z) k 36) := by
  refine CV_of (by decide) (Nat.le_of_ble_eq_true rfl) (by intro v hv; simp only [List.mem_cons, List.not_mem_nil, or_false] at hv; rcases hv with rfl | rfl <;> rfl) (fun F X E => ?_)
  have hR := RV_R E
  have loop : ∀ (f r : Nat) (S1 : Sx), r ≤ z → z - r < f → S1 = faS S k r → V F G S1 2 [some (ra G 0), some (.int (nI k)), some (.int (nI r))] [] := by
    intro f
    induction f with
    | zero => intro r S1 h1 h2; omega
    | succ f ih =>
      intro r S1 h1 h2 hs
      have hch : S1 (20 + k) r = S (20 + k) r := by rw [hs, faS_ne (by omega)]
      refine V_iload_n X dX5_findAnswers_2 rfl ?_
      refine V_aload_n X dX5_findAnswers_3 rfl ?_
      refine V_getr X flX5_19 (ltN (by decide) hN) rfl rfl dX5_findAnswers_4 ?_
      refine V_iload_n X dX5_findAnswers_7 rfl ?_
      refine V_cvi X (ltN (by decide) hN) rfl rfl rfl (kX3_size hN (by omega)) cwX5_69 rfl (rm_ok hR (by decide) (by decide)) (Nat.le_of_ble_eq_true rfl) dX5_findAnswers_8 ?_
      refine V_top (nI (z)) (by rw [hs, faS_ne (by omega)]; exact hz) ?_
      refine V_cN_ge X 62 (by omega) (by omega) dX5_findAnswers_11 (by decide) (fun h11 => ?_) (fun h11 => ?_)
      · refine V_aload_n X dX5_findAnswers_62 rfl ?_
        refine V_getr X flX5_33 (ltN (by decide) hN) rfl rfl dX5_findAnswers_63 ?_
        refine V_iload_n X dX5_findAnswers_66 rfl ?_
        refine V_cvv X (ltN (by decide) hN) rfl rfl rfl (kX1_close hN (by omega)) cwX5_187 rfl (rm_ok hR (by decide) (by decide)) (Nat.le_of_ble_eq_true rfl) dX5_findAnswers_67 ?_
        exact V_vret X E dX5_findAnswers_70 (by rw [hs, show r = z by omega])
      · refine V_aload_n X dX5_findAnswers_14 rfl ?_
        refine V_getr X flX5_26 (ltN (by decide) hN) rfl rfl dX5_findAnswers_15 ?_
        refine V_aload_n X dX5_findAnswers_18 rfl ?_
        refine V_getr X flX5_12 (ltN (by decide) hN) rfl rfl dX5_findAnswers_19 ?_
        refine V_iload_n X dX5_findAnswers_22 rfl ?_
        refine V_aload_n X dX5_findAnswers_23 rfl ?_
        refine V_getr X flX5_19 (ltN (by decide) hN) rfl rfl dX5_findAnswers_24 ?_
        refine V_iload_n X dX5_findAnswers_27 rfl ?_
        refine V_iload_n X dX5_findAnswers_28 rfl ?_
        refine V_cvi X (ltN (by decide) hN) rfl rfl rfl (kX3_choices hN (by omega) (by omega)) cwX5_80 rfl (rm_ok hR (by decide) (by decide)) (Nat.le_of_ble_eq_true rfl) dX5_findAnswers_29 ?_
        refine V_cvv X (ltN (by decide) hN) rfl rfl rfl (kX4_goThrough hN hk (fun s hs2 => okS_congr (by rw [hs]; exact faS_ne (by omega) r) (by rw [hs]; exact faS_ne (by omega) r) (hok s hs2))) cwX5_97 rfl (rm_ok hR (by decide) (by decide)) (Nat.le_of_ble_eq_true rfl) dX5_findAnswers_32 ?_
        refine V_aload_n X dX5_findAnswers_35 rfl ?_
        refine V_getr X flX5_33 (ltN (by decide) hN) rfl rfl dX5_findAnswers_36 ?_
        refine V_iload_n X dX5_findAnswers_39 rfl ?_
        refine V_aload_n X dX5_findAnswers_40 rfl ?_
        refine V_getr X flX5_26 (ltN (by decide) hN) rfl rfl dX5_findAnswers_41 ?_
        refine V_iload_n X dX5_findAnswers_44 rfl ?_
        refine V_iN_ne X 52 (by omega) dX5_findAnswers_45 (by decide) (fun h45 => ?_) (fun h45 => ?_)
        · refine V_iconst X (nI 0) dX5_findAnswers_52 (by decide) ?_
          refine V_cvv X (ltN (by decide) hN) rfl rfl rfl (kX1_hear hN (by omega) (by omega)) cwX5_183 rfl (rm_ok hR (by decide) (by decide)) (Nat.le_of_ble_eq_true rfl) dX5_findAnswers_53 ?_
          refine V_iinc X (nI (_ + 1)) dX5_findAnswers_56 (by rw [hR.2]; decide) rfl (nI_add _ 1) ?_
          refine V_goto X 2 dX5_findAnswers_59 (by decide) ?_
          exact ih (r + 1) _ (by omega) (by omega) (by rw [faS, hch, hs]; first | rw [if_pos h45] | rw [if_neg h45])
        · refine V_iconst X (nI 1) dX5_findAnswers_48 (by decide) ?_
          refine V_goto X 53 dX5_findAnswers_49 (by decide) ?_
          refine V_cvv X (ltN (by decide) hN) rfl rfl rfl (kX1_hear hN (by omega) (by omega)) cwX5_183 rfl (rm_ok hR (by decide) (by decide)) (Nat.le_of_ble_eq_true rfl) dX5_findAnswers_53 ?_
          refine V_iinc X (nI (_ + 1)) dX5_findAnswers_56 (by rw [hR.2]; decide) rfl (nI_add _ 1) ?_
          refine V_goto X 2 dX5_findAnswers_59 (by decide) ?_
          exact ih (r + 1) _ (by omega) (by omega) (by rw [faS, hch, hs]; first | rw [if_pos h45] | rw [if_neg h45])
  refine V_iconst X (nI 0) dX5_findAnswers_0 (by decide) ?_
  refine V_istore_n X dX5_findAnswers_1 (by rw [hR.2]; decide) ?_
  exact loop (z + 1) 0 S (by omega) (by omega) rfl
end
section
def adS (S : Sx) (k z : Nat) (c : Int32) : Sx := st (st S (20 + k) z c) 6 k (nI (z + 1))
/-- the candidates of a sentence are tried one behind the other -/
def ewF (s : Nat) : List Int32 → Sx → Nat → Sx × Nat × Bool
  | [], S, z => (S, z, true)
  | c :: l, S, z => if alF S s c = 0 then ewF s l S z else if z < 64 then ewF s l (adS S (s + 1) z c) (z + 1) else (S, z, false)
def lg (s : Nat) (ch : Int32) (i j : Nat) : Int32 := (ch ||| cbt s 0 (nI i)) ||| cbt s 1 (nI j)
def cin (s : Nat) (ch : Int32) (i : Nat) : Nat → Nat → List Int32
  | 0, _ => []
  | m + 1, j => lg s ch i j :: cin s ch i m (j + 1)
def cou (s : Nat) (ch : Int32) (nr : Nat) : Nat → Nat → List Int32
  | 0, _ => []
  | m + 1, i => cin s ch i nr 0 ++ cou s ch nr m (i + 1)
def ewI (S : Sx) (s z : Nat) : Prop := okS S s ∧ S 6 (s + 1) = nI z ∧ z ≤ 64
theorem adS_ne {S : Sx} {k z q : Nat} {c : Int32} (h6 : q ≠ 6) (hk : q ≠ 20 + k) : adS S k z c q = S q := by unfold adS; rw [st_ne h6, st_ne hk]
theorem adS_6 {S : Sx} {k z j : Nat} {c : Int32} : adS S k z c 6 j = if j = k then nI (z + 1) else S 6 j := by
  unfold adS; rw [st_at]
  by_cases h : j = k
  · simp [h]
  · simp [h, st_at]
    intro h; omega
theorem ewI_s {S : Sx} {s z : Nat} {c : Int32} (h : ewI S s z) (hz : z < 64) : ewI (adS S (s + 1) z c) s (z + 1) :=
  ⟨okS_congr (adS_ne (by omega) (by omega)) (adS_ne (by omega) (by omega)) h.1, by rw [adS_6, if_pos rfl], by omega⟩

set_option maxRecDepth 100000 in
set_option maxHeartbeats 4000000 in
theorem kX5_extendWay {G : Cx} {S : Sx} (hN : 80 ≤ gN G) {s ns nr z : Nat} {ch : Int32} {R : Sx × Nat × Bool} (hs : s ≤ 13) (hns : bcF (S 3 (2 * s + 0)) = nI ns) (hnr : (if S 2 (s * 5 + 1) = nI 33 then bcF (S 3 (2 * s + 1)) else nI 1) = nI nr) (hns8 : ns ≤ 8) (hnr8 : nr ≤ 8) (hinv : ewI S s z) (hR0 : ewF s (cou s ch nr ns 0) S z = R) : CT G (4) yX5_extendWay cX5_extendWay 8 (some .boolean) [ra G 0, .int (nI s), .int ch] S (bb R.2.2) (R.1) := by
  refine CT_of (by decide) (Nat.le_of_ble_eq_true rfl) (by intro v hv; simp only [List.mem_cons, List.not_mem_nil, or_false] at hv; rcases hv with rfl | rfl | rfl <;> rfl) (fun F X E => ?_)
  have hR := RI_R E
  have loopA : ∀ (i : Nat), i < ns → (∀ (S2 : Sx) (z2 : Nat) (u w : Option Value), ewI S2 s z2 → ewF s (cou s ch nr (ns - (i + 1)) (i + 1)) S2 z2 = R → V F G S2 122 [some (ra G 0), some (.int (nI s)), some (.int ch), some (.int (nI ns)), some (.int (nI nr)), some (.int (nI i)), u, w] []) → ∀ (f j : Nat) (S1 : Sx) (z : Nat) (w : Option Value), j ≤ nr → nr - j < f → ewI S1 s z → ewF s (cin s ch i (nr - j) j ++ cou s ch nr (ns - (i + 1)) (i + 1)) S1 z = R → V F G S1 56 [some (ra G 0), some (.int (nI s)), some (.int ch), some (.int (nI ns)), some (.int (nI nr)), some (.int (nI i)), some (.int (nI j)), w] [] := by
    intro i hi kx f
    induction f with
    | zero => intro j S1 z w h1 h2; omega
    | succ f ih =>
      intro j S1 z w h1 h2 hinv hr
      refine V_iload X dX5_extendWay_56 rfl ?_
      refine V_iload X dX5_extendWay_58 rfl ?_
      refine V_cN_ge X 122 (by omega) (by omega) dX5_extendWay_60 (by decide) (fun h60 => ?_) (fun h60 => ?_)
      · exact kx _ _ _ _ hinv (by rw [show nr - j = 0 by omega, cin, List.nil_append] at hr; exact hr)
      · have hnj : nr - j = (nr - (j + 1)) + 1 := by omega
        refine V_iload_n X dX5_extendWay_63 rfl ?_
        refine V_iload_n X dX5_extendWay_64 rfl ?_
        refine V_iconst X (nI 0) dX5_extendWay_65 (by decide) ?_
        refine V_iload X dX5_extendWay_66 rfl ?_
        refine V_csi X (kX5_choiceBit ) cwX5_174 rfl (rm_ok hR (by decide) (by decide)) (Nat.le_of_ble_eq_true rfl) dX5_extendWay_68 ?_
        refine V_ior X dX5_extendWay_71 ?_
        refine V_iload_n X dX5_extendWay_72 rfl ?_
        refine V_iconst X (nI 1) dX5_extendWay_73 (by decide) ?_
        refine V_iload X dX5_extendWay_74 rfl ?_
        refine V_csi X (kX5_choiceBit ) cwX5_174 rfl (rm_ok hR (by decide) (by decide)) (Nat.le_of_ble_eq_true rfl) dX5_extendWay_76 ?_
        refine V_ior X dX5_extendWay_79 ?_
        refine V_istore X dX5_extendWay_80 (by rw [hR.2]; decide) ?_
        refine V_aload_n X dX5_extendWay_82 rfl ?_
        refine V_getr X flX5_26 (ltN (by decide) hN) rfl rfl dX5_extendWay_83 ?_
        refine V_aload_n X dX5_extendWay_86 rfl ?_
        refine V_getr X flX5_12 (ltN (by decide) hN) rfl rfl dX5_extendWay_87 ?_
        refine V_iload_n X dX5_extendWay_90 rfl ?_
        refine V_iload X dX5_extendWay_91 rfl ?_
        refine V_cvi X (ltN (by decide) hN) rfl rfl rfl (kX4_allows hN (by omega) hinv.1) cwX5_177 rfl (rm_ok hR (by decide) (by decide)) (Nat.le_of_ble_eq_true rfl) dX5_extendWay_93 ?_
        refine V_if_eq X 116 dX5_extendWay_96 (by decide) (fun h96 => ?_) (fun h96 => ?_)
        · have h96 : alF S1 s (lg s ch i j) = 0 := h96
          refine V_iinc X (nI (_ + 1)) dX5_extendWay_116 (by rw [hR.2]; decide) rfl (nI_add _ 1) ?_
          refine V_goto X 56 dX5_extendWay_119 (by decide) ?_
          exact ih (j + 1) _ _ _ (by omega) (by omega) hinv (by rw [hnj, cin, List.cons_append, ewF, if_pos h96] at hr; exact hr)
        · have h96 : ¬ alF S1 s (lg s ch i j) = 0 := h96
          refine V_aload_n X dX5_extendWay_99 rfl ?_
          refine V_getr X flX5_19 (ltN (by decide) hN) rfl rfl dX5_extendWay_100 ?_
          refine V_iload_n X dX5_extendWay_103 rfl ?_
          refine V_iconst X (nI 1) dX5_extendWay_104 (by decide) ?_
          refine V_addN X dX5_extendWay_105 ?_
          refine V_iload X dX5_extendWay_106 rfl ?_
          refine V_cvi X (ltN (by decide) hN) rfl rfl rfl (kX3_add hN (by omega) hinv.2.1 hinv.2.2) cwX5_181 rfl (rm_ok hR (by decide) (by decide)) (Nat.le_of_ble_eq_true rfl) dX5_extendWay_108 ?_
          refine V_if_ne X 116 dX5_extendWay_111 (by decide) (fun h111 => ?_) (fun h111 => ?_)
          · have hz1 := bi_ne.mp h111
            rw [if_pos hz1]
            refine V_iinc X (nI (_ + 1)) dX5_extendWay_116 (by rw [hR.2]; decide) rfl (nI_add _ 1) ?_
            refine V_goto X 56 dX5_extendWay_119 (by decide) ?_
            exact ih (j + 1) _ _ _ (by omega) (by omega) (ewI_s hinv hz1) (by rw [hnj, cin, List.cons_append, ewF, if_neg h96, if_pos hz1] at hr; exact hr)
          · have hz0 := bi_eq.mp (ts_nn h111)
            rw [if_neg hz0]
            refine V_iconst X (nI 0) dX5_extendWay_114 (by decide) ?_
            exact V_zret X E dX5_extendWay_115 (by first | exact Or.inl rfl | exact Or.inr rfl) (by rw [hnj, cin, List.cons_append, ewF, if_neg h96, if_neg hz0] at hr; rw [← hr]; rfl) (by rw [hnj, cin, List.cons_append, ewF, if_neg h96, if_neg hz0] at hr; rw [← hr])
  have loopB : ∀ (f i : Nat) (S1 : Sx) (z : Nat) (u w : Option Value), i ≤ ns → ns - i < f → ewI S1 s z → ewF s (cou s ch nr (ns - i) i) S1 z = R → V F G S1 47 [some (ra G 0), some (.int (nI s)), some (.int ch), some (.int (nI ns)), some (.int (nI nr)), some (.int (nI i)), u, w] [] := by
    intro f
    induction f with
    | zero => intro i S1 z u w h1 h2; omega
    | succ f ih =>
      intro i S1 z u w h1 h2 hinv hr
      refine V_iload X dX5_extendWay_47 rfl ?_
      refine V_iload_n X dX5_extendWay_49 rfl ?_
      refine V_cN_ge X 128 (by omega) (by omega) dX5_extendWay_50 (by decide) (fun h50 => ?_) (fun h50 => ?_)
      · refine V_iconst X (nI 1) dX5_extendWay_128 (by decide) ?_
        exact V_zret X E dX5_extendWay_129 (by first | exact Or.inl rfl | exact Or.inr rfl) (by rw [show ns - i = 0 by omega, cou, ewF] at hr; rw [← hr]; rfl) (by rw [show ns - i = 0 by omega, cou, ewF] at hr; rw [← hr])
      · refine V_iconst X (nI 0) dX5_extendWay_53 (by decide) ?_
        refine V_istore X dX5_extendWay_54 (by rw [hR.2]; decide) ?_
        refine loopA i h50 (fun S2 z2 u2 w2 hinv2 hr2 => ?_) (nr + 1) 0 S1 z w (by omega) (by omega) hinv (by rw [show ns - i = (ns - (i + 1)) + 1 by omega, cou] at hr; exact hr)
        refine V_iinc X (nI (_ + 1)) dX5_extendWay_122 (by rw [hR.2]; decide) rfl (nI_add _ 1) ?_
        refine V_goto X 47 dX5_extendWay_125 (by decide) ?_
        exact ih (i + 1) _ _ _ _ (by omega) (by omega) hinv2 hr2
  refine V_aload_n X dX5_extendWay_0 rfl ?_
  refine V_getr X flX5_12 (ltN (by decide) hN) rfl rfl dX5_extendWay_1 ?_
  refine V_iload_n X dX5_extendWay_4 rfl ?_
  refine V_iconst X (nI 0) dX5_extendWay_5 (by decide) ?_
  refine V_cvi X (ltN (by decide) hN) rfl rfl rfl (kX2_mayMean hN (by omega) (by omega)) cwX5_163 rfl (rm_ok hR (by decide) (by decide)) (Nat.le_of_ble_eq_true rfl) dX5_extendWay_6 ?_
  refine V_csi X (kJ6_bitCount_0f7a4 ) cwX5_166 rfl (rm_ok hR (by decide) (by decide)) (Nat.le_of_ble_eq_true rfl) dX5_extendWay_9 ?_
  refine V_top (nI (ns)) (hns) ?_
  refine V_istore_n X dX5_extendWay_12 (by rw [hR.2]; decide) ?_
  refine V_aload_n X dX5_extendWay_13 rfl ?_
  refine V_getr X flX5_12 (ltN (by decide) hN) rfl rfl dX5_extendWay_14 ?_
  refine V_iload_n X dX5_extendWay_17 rfl ?_
  refine V_cvi X (ltN (by decide) hN) rfl rfl rfl (kX2_verb hN (by omega)) cwX5_171 rfl (rm_ok hR (by decide) (by decide)) (Nat.le_of_ble_eq_true rfl) dX5_extendWay_18 ?_
  refine V_bipush X (nI 33) dX5_extendWay_21 (by decide) ?_
  refine V_icmp_ne X 41 dX5_extendWay_23 (by decide) (fun h23 => ?_) (fun h23 => ?_)
  · refine V_iconst X (nI 1) dX5_extendWay_41 (by decide) ?_
    refine V_top (nI (nr)) (by rw [if_neg h23] at hnr; exact hnr) ?_
    refine V_istore X dX5_extendWay_42 (by rw [hR.2]; decide) ?_
    refine V_iconst X (nI 0) dX5_extendWay_44 (by decide) ?_
    refine V_istore X dX5_extendWay_45 (by rw [hR.2]; decide) ?_
    exact loopB (ns + 1) 0 S z none none (by omega) (by omega) hinv hR0
  · refine V_aload_n X dX5_extendWay_26 rfl ?_
    refine V_getr X flX5_12 (ltN (by decide) hN) rfl rfl dX5_extendWay_27 ?_
    refine V_iload_n X dX5_extendWay_30 rfl ?_
    refine V_iconst X (nI 1) dX5_extendWay_31 (by decide) ?_
    refine V_cvi X (ltN (by decide) hN) rfl rfl rfl (kX2_mayMean hN (by omega) (by omega)) cwX5_163 rfl (rm_ok hR (by decide) (by decide)) (Nat.le_of_ble_eq_true rfl) dX5_extendWay_32 ?_
    refine V_csi X (kJ6_bitCount_0f7a4 ) cwX5_166 rfl (rm_ok hR (by decide) (by decide)) (Nat.le_of_ble_eq_true rfl) dX5_extendWay_35 ?_
    refine V_top (nI (nr)) (by rw [if_pos (ts_nn h23)] at hnr; exact hnr) ?_
    refine V_goto X 42 dX5_extendWay_38 (by decide) ?_
    refine V_istore X dX5_extendWay_42 (by rw [hR.2]; decide) ?_
    refine V_iconst X (nI 0) dX5_extendWay_44 (by decide) ?_
    refine V_istore X dX5_extendWay_45 (by rw [hR.2]; decide) ?_
    exact loopB (ns + 1) 0 S z none none (by omega) (by omega) hinv hR0

theorem ewF_keep (s : Nat) : ∀ (l : List Int32) (S : Sx) (z : Nat) (q : Nat), q ≠ 6 → q ≠ 20 + (s + 1) → (ewF s l S z).1 q = S q
  | [], S, z, q, _, _ => rfl
  | c :: l, S, z, q, h1, h2 => by
    unfold ewF; split
    · exact ewF_keep s l S z q h1 h2
    · split
      · exact (ewF_keep s l _ _ q h1 h2).trans (adS_ne h1 h2)
      · rfl
theorem ewF_6 (s : Nat) : ∀ (l : List Int32) (S : Sx) (z : Nat) (j : Nat), j ≠ s + 1 → (ewF s l S z).1 6 j = S 6 j
  | [], S, z, j, _ => rfl
  | c :: l, S, z, j, h => by
    unfold ewF; split
    · exact ewF_6 s l S z j h
    · split
      · rw [ewF_6 s l _ _ j h, adS_6, if_neg h]
      · rfl
theorem ewF_z (s : Nat) : ∀ (l : List Int32) (S : Sx) (z : Nat), S 6 (s + 1) = nI z → z ≤ 64 → (ewF s l S z).1 6 (s + 1) = nI (ewF s l S z).2.1 ∧ (ewF s l S z).2.1 ≤ 64
  | [], S, z, h, hz => ⟨h, hz⟩
  | c :: l, S, z, h, hz => by
    unfold ewF; split
    · exact ewF_z s l S z h hz
    · split
      · exact ewF_z s l _ _ (by rw [adS_6, if_pos rfl]) (by omega)
      · exact ⟨h, hz⟩
def ews (s ns nr : Nat) : Nat → Nat → Sx → Nat → Sx × Nat × Bool
  | 0, _, S, z => (S, z, true)
  | m + 1, r, S, z => if (ewF s (cou s (S (20 + s) r) nr ns 0) (goT S (S (20 + s) r) s) z).2.2 then ews s ns nr m (r + 1) (ewF s (cou s (S (20 + s) r) nr ns 0) (goT S (S (20 + s) r) s) z).1 (ewF s (cou s (S (20 + s) r) nr ns 0) (goT S (S (20 + s) r) s) z).2.1 else ewF s (cou s (S (20 + s) r) nr ns 0) (goT S (S (20 + s) r) s) z
/-- what holds before each way that is made longer -/
def ewJ (S0 S : Sx) (s zs z : Nat) : Prop := S 2 = S0 2 ∧ S 3 = S0 3 ∧ S 6 s = nI zs ∧ S 6 (s + 1) = nI z ∧ z ≤ 64
theorem ewJ_I {S0 S : Sx} {s zs z : Nat} (c : Int32) (h : ewJ S0 S s zs z) (ok : okS S0 s) : ewI (goT S c s) s z :=
  ⟨okS_congr (by rw [goT_ne (by omega), h.1]) (by rw [goT_ne (by omega), h.2.1]) ok, by rw [goT_ne (by omega)]; exact h.2.2.2.1, h.2.2.2.2⟩
theorem ewJ_s {S0 S : Sx} {s zs z : Nat} (c : Int32) (l : List Int32) (h : ewJ S0 S s zs z) : ewJ S0 (ewF s l (goT S c s) z).1 s zs (ewF s l (goT S c s) z).2.1 := by
  obtain ⟨h1, h2, h3, h4, h5⟩ := h
  have h4' : goT S c s 6 (s + 1) = nI z := by rw [goT_ne (by omega)]; exact h4
  exact ⟨by rw [ewF_keep s _ _ _ 2 (by omega) (by omega), goT_ne (by omega), h1], by rw [ewF_keep s _ _ _ 3 (by omega) (by omega), goT_ne (by omega), h2], by rw [ewF_6 s _ _ _ s (by omega), goT_ne (by omega)]; exact h3, (ewF_z s l _ z h4' h5).1, (ewF_z s l _ z h4' h5).2⟩

set_option maxRecDepth 100000 in
set_option maxHeartbeats 4000000 in
theorem kX5_extendWays {G : Cx} {S : Sx} (hN : 80 ≤ gN G) {s ns nr zs : Nat} {R : Sx × Nat × Bool} (hs : s ≤ 13) (hzs : S 6 s = nI zs) (hzs64 : zs ≤ 64) (hok : ∀ t, t ≤ s → okS S t) (hns : bcF (S 3 (2 * s + 0)) = nI ns) (hnr : (if S 2 (s * 5 + 1) = nI 33 then bcF (S 3 (2 * s + 1)) else nI 1) = nI nr) (hns8 : ns ≤ 8) (hnr8 : nr ≤ 8) (hR0 : ews s ns nr zs 0 (st S 6 (s + 1) (nI 0)) 0 = R) : CT G (5) yX5_extendWays cX5_extendWays 4 (some .boolean) [ra G 0, .int (nI s)] S (bb (R.2.2 && decide (0 < R.2.1))) (R.1) := by
  refine CT_of (by decide) (Nat.le_of_ble_eq_true rfl) (by intro v hv; simp only [List.mem_cons, List.not_mem_nil, or_false] at hv; rcases hv with rfl | rfl <;> rfl) (fun F X E => ?_)
  have hR := RI_R E
  have loop : ∀ (f r : Nat) (S1 : Sx) (z : Nat) (w : Option Value), r ≤ zs → zs - r < f → ewJ S S1 s zs z → ews s ns nr (zs - r) r S1 z = R → V F G S1 12 [some (ra G 0), some (.int (nI s)), some (.int (nI r)), w] [] := by
    intro f
    induction f with
    | zero => intro r S1 z w h1 h2; omega
    | succ f ih =>
      intro r S1 z w h1 h2 hj hr
      refine V_iload_n X dX5_extendWays_12 rfl ?_
      refine V_aload_n X dX5_extendWays_13 rfl ?_
      refine V_getr X flX5_19 (ltN (by decide) hN) rfl rfl dX5_extendWays_14 ?_
      refine V_iload_n X dX5_extendWays_17 rfl ?_
      refine V_cvi X (ltN (by decide) hN) rfl rfl rfl (kX3_size hN (by omega)) cwX5_69 rfl (rm_ok hR (by decide) (by decide)) (Nat.le_of_ble_eq_true rfl) dX5_extendWays_18 ?_
      refine V_top (nI (zs)) (hj.2.2.1) ?_
      refine V_cN_ge X 64 (by (have := hj.2.2.2.2; omega)) (by (have := hj.2.2.2.2; omega)) dX5_extendWays_21 (by decide) (fun h21 => ?_) (fun h21 => ?_)
      · refine V_aload_n X dX5_extendWays_64 rfl ?_
        refine V_getr X flX5_19 (ltN (by decide) hN) rfl rfl dX5_extendWays_65 ?_
        refine V_iload_n X dX5_extendWays_68 rfl ?_
        refine V_iconst X (nI 1) dX5_extendWays_69 (by decide) ?_
        refine V_addN X dX5_extendWays_70 ?_
        refine V_cvi X (ltN (by decide) hN) rfl rfl rfl (kX3_size hN (by omega)) cwX5_69 rfl (rm_ok hR (by decide) (by decide)) (Nat.le_of_ble_eq_true rfl) dX5_extendWays_71 ?_
        refine V_top (nI (z)) (hj.2.2.2.1) ?_
        refine V_iN_le X 81 (by (have := hj.2.2.2.2; omega)) dX5_extendWays_74 (by decide) (fun h74 => ?_) (fun h74 => ?_)
        · refine V_iconst X (nI 0) dX5_extendWays_81 (by decide) ?_
          exact V_zret X E dX5_extendWays_82 (by first | exact Or.inl rfl | exact Or.inr rfl | exact bi_01 _) (by rw [show zs - r = 0 by omega, ews] at hr; rw [← hr]; first | (rw [show decide (0 < z) = true from decide_eq_true h74]; rfl) | (rw [show decide (0 < z) = false from decide_eq_false (by omega)]; rfl)) (by rw [show zs - r = 0 by omega, ews] at hr; rw [← hr])
        · refine V_iconst X (nI 1) dX5_extendWays_77 (by decide) ?_
          refine V_goto X 82 dX5_extendWays_78 (by decide) ?_
          exact V_zret X E dX5_extendWays_82 (by first | exact Or.inl rfl | exact Or.inr rfl | exact bi_01 _) (by rw [show zs - r = 0 by omega, ews] at hr; rw [← hr]; first | (rw [show decide (0 < z) = true from decide_eq_true h74]; rfl) | (rw [show decide (0 < z) = false from decide_eq_false (by omega)]; rfl)) (by rw [show zs - r = 0 by omega, ews] at hr; rw [← hr])
      · have hm : zs - r = (zs - (r + 1)) + 1 := by omega
        refine V_aload_n X dX5_extendWays_24 rfl ?_
        refine V_getr X flX5_19 (ltN (by decide) hN) rfl rfl dX5_extendWays_25 ?_
        refine V_iload_n X dX5_extendWays_28 rfl ?_
        refine V_iload_n X dX5_extendWays_29 rfl ?_
        refine V_cvi X (ltN (by decide) hN) rfl rfl rfl (kX3_choices hN (by omega) (by omega)) cwX5_80 rfl (rm_ok hR (by decide) (by decide)) (Nat.le_of_ble_eq_true rfl) dX5_extendWays_30 ?_
        refine V_istore_n X dX5_extendWays_33 (by rw [hR.2]; decide) ?_
        refine V_aload_n X dX5_extendWays_34 rfl ?_
        refine V_getr X flX5_26 (ltN (by decide) hN) rfl rfl dX5_extendWays_35 ?_
        refine V_aload_n X dX5_extendWays_38 rfl ?_
        refine V_getr X flX5_12 (ltN (by decide) hN) rfl rfl dX5_extendWays_39 ?_
        refine V_iload_n X dX5_extendWays_42 rfl ?_
        refine V_iload_n X dX5_extendWays_43 rfl ?_
        refine V_cvv X (ltN (by decide) hN) rfl rfl rfl (kX4_goThrough hN (by omega) (fun t ht => okS_congr hj.1 hj.2.1 (hok t (by omega)))) cwX5_97 rfl (rm_ok hR (by decide) (by decide)) (Nat.le_of_ble_eq_true rfl) dX5_extendWays_44 ?_
        refine V_aload_n X dX5_extendWays_47 rfl ?_
        refine V_iload_n X dX5_extendWays_48 rfl ?_
        refine V_iload_n X dX5_extendWays_49 rfl ?_
        refine V_cvi X (ltN (by decide) hN) rfl rfl rfl (kX5_extendWay hN hs (by rw [goT_ne (by omega), hj.2.1]; exact hns) (by rw [goT_ne (by omega), goT_ne (by omega), hj.1, hj.2.1]; exact hnr) hns8 hnr8 (ewJ_I _ hj (hok s (by omega))) rfl) cwX5_160 rfl (rm_ok hR (by decide) (by decide)) (Nat.le_of_ble_eq_true rfl) dX5_extendWays_50 ?_
        refine V_if_ne X 58 dX5_extendWays_53 (by decide) (fun h53 => ?_) (fun h53 => ?_)
        · refine V_iinc X (nI (_ + 1)) dX5_extendWays_58 (by rw [hR.2]; decide) rfl (nI_add _ 1) ?_
          refine V_goto X 12 dX5_extendWays_61 (by decide) ?_
          exact ih (r + 1) _ _ _ (by omega) (by omega) (ewJ_s _ _ hj) (by rw [hm, ews, if_pos (bb_n.mp h53)] at hr; exact hr)
        · refine V_iconst X (nI 0) dX5_extendWays_56 (by decide) ?_
          exact V_zret X E dX5_extendWays_57 (by first | exact Or.inl rfl | exact Or.inr rfl | exact bi_01 _) (by rw [hm, ews, if_neg (by rw [bb_0.mp (ts_nn h53)]; decide)] at hr; rw [← hr]; rw [bb_0.mp (ts_nn h53)]; rfl) (by rw [hm, ews, if_neg (by rw [bb_0.mp (ts_nn h53)]; decide)] at hr; rw [← hr])
  refine V_aload_n X dX5_extendWays_0 rfl ?_
  refine V_getr X flX5_19 (ltN (by decide) hN) rfl rfl dX5_extendWays_1 ?_
  refine V_iload_n X dX5_extendWays_4 rfl ?_
  refine V_iconst X (nI 1) dX5_extendWays_5 (by decide) ?_
  refine V_addN X dX5_extendWays_6 ?_
  refine V_cvv X (ltN (by decide) hN) rfl rfl rfl (kX3_clear hN (by omega)) cwX5_158 rfl (rm_ok hR (by decide) (by decide)) (Nat.le_of_ble_eq_true rfl) dX5_extendWays_7 ?_
  refine V_iconst X (nI 0) dX5_extendWays_10 (by decide) ?_
  refine V_istore_n X dX5_extendWays_11 (by rw [hR.2]; decide) ?_
  exact loop (zs + 1) 0 _ 0 none (by omega) (by omega) ⟨rfl, rfl, by rw [st_at, if_neg (by omega)]; exact hzs, by rw [st_at, if_pos ⟨rfl, rfl⟩], by omega⟩ hR0

def castF (S : Sx) (n : Nat) : Sx := st (st S 3 (2 * n + 0) (cnd (S 2) n (S 2 (n * 5)))) 3 (2 * n + 1) (if S 2 (n * 5 + 1) = nI 33 then cnd (S 2) n (S 2 (n * 5 + 3)) else nI 0)
theorem castF_ne {S : Sx} {n q : Nat} (h : q ≠ 3) : castF S n q = S q := by unfold castF; rw [st_ne h, st_ne h]
def clsF (S : Sx) (n : Nat) : Sx := st (st S 1 3 (nI 0)) 1 2 (nI (n + 1))
theorem clsF_ne {S : Sx} {n q : Nat} (h : q ≠ 1) : clsF S n q = S q := by unfold clsF; rw [st_ne h, st_ne h]
theorem ews_J {S0 : Sx} {s ns nr zs : Nat} : ∀ (m r : Nat) (S : Sx) (z : Nat), ewJ S0 S s zs z → ewJ S0 (ews s ns nr m r S z).1 s zs (ews s ns nr m r S z).2.1
  | 0, _, _, _, h => h
  | m + 1, r, S, z, h => by
    unfold ews; split
    · exact ews_J m _ _ _ (ewJ_s _ _ h)
    · exact ewJ_s _ _ h
theorem ews_keep {s ns nr : Nat} {q : Nat} (h1 : q ≠ 6) (h2 : q ≠ 20 + (s + 1)) (h3 : q < 8 ∨ 13 < q) : ∀ (m r : Nat) (S : Sx) (z : Nat), (ews s ns nr m r S z).1 q = S q
  | 0, _, _, _ => rfl
  | m + 1, r, S, z => by
    unfold ews; split
    · rw [ews_keep h1 h2 h3 m, ewF_keep s _ _ _ q h1 h2, goT_ne h3]
    · rw [ewF_keep s _ _ _ q h1 h2, goT_ne h3]
/-- what finishing a sentence leaves -/
def fnS (R : Sx × Nat × Bool) (n : Nat) : Sx := if (R.2.2 && decide (0 < R.2.1)) = true then clF (faS (clsF R.1 n) (n + 1) R.2.1) (n + 1) 36 else st R.1 1 3 (nI 0)

set_option maxRecDepth 100000 in
set_option maxHeartbeats 4000000 in
theorem kX5_finishSentence {G : Cx} {S : Sx} (hN : 80 ≤ gN G) {n ns nr zs : Nat} {R : Sx × Nat × Bool} (hn : S 1 2 = nI n) (hn13 : n ≤ 13) (hzs : S 6 n = nI zs) (hzs64 : zs ≤ 64) (hok : ∀ t, t ≤ n → okS (castF S n) t) (hns : bcF (castF S n 3 (2 * n + 0)) = nI ns) (hnr : (if S 2 (n * 5 + 1) = nI 33 then bcF (castF S n 3 (2 * n + 1)) else nI 1) = nI nr) (hns8 : ns ≤ 8) (hnr8 : nr ≤ 8) (hR0 : ews n ns nr zs 0 (st (castF S n) 6 (n + 1) (nI 0)) 0 = R) : CT G (6) yX5_finishSentence cX5_finishSentence 1 (some .boolean) [ra G 0] S (bb (R.2.2 && decide (0 < R.2.1))) (fnS R n) := by
  have hJ : ewJ (castF S n) R.1 n zs R.2.1 := by
    rw [← hR0]; exact ews_J zs 0 _ 0 ⟨rfl, rfl, by rw [st_at, if_neg (by omega), castF_ne (by decide)]; exact hzs, by rw [st_at, if_pos ⟨rfl, rfl⟩], by omega⟩
  have h1 : R.1 1 = S 1 := by rw [← hR0, ews_keep (by omega) (by omega) (by omega), st_ne (by decide), castF_ne (by decide)]
  refine CT_of (by decide) (Nat.le_of_ble_eq_true rfl) (by intro v hv; simp only [List.mem_cons, List.not_mem_nil, or_false] at hv; rcases hv with rfl <;> rfl) (fun F X E => ?_)
  have hR := RI_R E
  refine V_aload_n X dX5_finishSentence_0 rfl ?_
  refine V_getr X flX5_12 (ltN (by decide) hN) rfl rfl dX5_finishSentence_1 ?_
  refine V_cvv X (ltN (by decide) hN) rfl rfl rfl (kX2_cast hN hn hn13) cwX5_146 rfl (rm_ok hR (by decide) (by decide)) (Nat.le_of_ble_eq_true rfl) dX5_finishSentence_4 ?_
  refine V_aload_n X dX5_finishSentence_7 rfl ?_
  refine V_aload_n X dX5_finishSentence_8 rfl ?_
  refine V_getr X flX5_12 (ltN (by decide) hN) rfl rfl dX5_finishSentence_9 ?_
  refine V_getNi X fnX5_73 (ltN (by decide) hN) rfl rfl dX5_finishSentence_12 ?_
  refine V_top (nI (n)) (by first | exact hn | (show castF S n 1 2 = _; rw [castF_ne (by decide)]; exact hn)) ?_
  refine V_cvi X (ltN (by decide) hN) rfl rfl rfl (kX5_extendWays hN hn13 (by show castF S n 6 n = _; rw [castF_ne (by decide)]; exact hzs) hzs64 hok hns (by show (if castF S n 2 (n * 5 + 1) = nI 33 then _ else _) = _; rw [castF_ne (by decide)]; exact hnr) hns8 hnr8 hR0) cwX5_149 rfl (rm_ok hR (by decide) (by decide)) (Nat.le_of_ble_eq_true rfl) dX5_finishSentence_15 ?_
  refine V_if_ne X 30 dX5_finishSentence_18 (by decide) (fun h18 => ?_) (fun h18 => ?_)
  · refine V_aload_n X dX5_finishSentence_30 rfl ?_
    refine V_getr X flX5_12 (ltN (by decide) hN) rfl rfl dX5_finishSentence_31 ?_
    refine V_cvv X (ltN (by decide) hN) rfl rfl rfl (kX2_closeBegun hN (by rw [h1]; exact hn)) cwX5_155 rfl (rm_ok hR (by decide) (by decide)) (Nat.le_of_ble_eq_true rfl) dX5_finishSentence_34 ?_
    refine V_aload_n X dX5_finishSentence_37 rfl ?_
    refine V_aload_n X dX5_finishSentence_38 rfl ?_
    refine V_getr X flX5_12 (ltN (by decide) hN) rfl rfl dX5_finishSentence_39 ?_
    refine V_getNi X fnX5_73 (ltN (by decide) hN) rfl rfl dX5_finishSentence_42 ?_
    refine V_top (nI (n + 1)) (rfl) ?_
    refine V_cvv X (ltN (by decide) hN) rfl rfl rfl (kX5_findAnswers hN (by omega) (by show clsF R.1 n 6 (n + 1) = _; rw [clsF_ne (by decide)]; exact hJ.2.2.2.1) hJ.2.2.2.2 (fun t ht => okS_congr (by show clsF R.1 n 2 = _; rw [clsF_ne (by decide)]; exact hJ.1) (by show clsF R.1 n 3 = _; rw [clsF_ne (by decide)]; exact hJ.2.1) (hok t (by omega)))) cwX5_44 rfl (rm_ok hR (by decide) (by decide)) (Nat.le_of_ble_eq_true rfl) dX5_finishSentence_45 ?_
    refine V_iconst X (nI 1) dX5_finishSentence_48 (by decide) ?_
    exact V_zret X E dX5_finishSentence_49 (by first | exact Or.inl rfl | exact Or.inr rfl) (by rw [bb_n.mp h18]; rfl) (by unfold fnS; rw [if_pos (bb_n.mp h18)]; rfl)
  · refine V_aload_n X dX5_finishSentence_21 rfl ?_
    refine V_getr X flX5_12 (ltN (by decide) hN) rfl rfl dX5_finishSentence_22 ?_
    refine V_cvv X (ltN (by decide) hN) rfl rfl rfl (kX2_forgetBegun hN) cwX5_152 rfl (rm_ok hR (by decide) (by decide)) (Nat.le_of_ble_eq_true rfl) dX5_finishSentence_25 ?_
    refine V_iconst X (nI 0) dX5_finishSentence_28 (by decide) ?_
    exact V_zret X E dX5_finishSentence_29 (by first | exact Or.inl rfl | exact Or.inr rfl) (by rw [bb_0.mp (ts_nn h18)]; rfl) (by unfold fnS; rw [if_neg (by rw [bb_0.mp (ts_nn h18)]; decide)])
end
section
theorem fitF_lt {n b : Nat} {g : Nat → Int32} {x : Int32} (h : fitF n b g x ≠ 0) : n < 14 := by
  by_cases q : n < 14
  · exact q
  · exact absurd (fitF_14 (b := b) (g := g) (x := x) (by omega)).symm h
set_option maxRecDepth 100000 in
set_option maxHeartbeats 4000000 in
theorem kX5_sign_no {G : Cx} {S : Sx} (hN : 80 ≤ gN G) {x : Int32} {n b : Nat} (hn : S 1 2 = nI n) (hb : S 1 3 = nI b) (hn14 : n ≤ 14) (hb5 : b < 5) (hf : fitF n b (S 2) x = 0) : CT G (7) yX5_sign cX5_sign 2 (some .boolean) [ra G 0, .int x] S (nI 0) (S) := by
  refine CT_of (by decide) (Nat.le_of_ble_eq_true rfl) (by intro v hv; simp only [List.mem_cons, List.not_mem_nil, or_false] at hv; rcases hv with rfl | rfl <;> rfl) (fun F X E => ?_)
  have hR := RI_R E
  refine V_aload_n X dX5_sign_0 rfl ?_
  refine V_getr X flX5_12 (ltN (by decide) hN) rfl rfl dX5_sign_1 ?_
  refine V_iload_n X dX5_sign_4 rfl ?_
  refine V_cvi X (ltN (by decide) hN) rfl rfl rfl (kX2_fits hN hn hb hn14 hb5) cwX5_48 rfl (rm_ok hR (by decide) (by decide)) (Nat.le_of_ble_eq_true rfl) dX5_sign_5 ?_
  refine V_if_ne X 13 dX5_sign_8 (by decide) (fun h8 => ?_) (fun h8 => ?_)
  · exact absurd hf h8
  · refine V_iconst X (nI 0) dX5_sign_11 (by decide) ?_
    exact V_zret X E dX5_sign_12 (by first | exact Or.inl rfl | exact Or.inr rfl | exact bi_01 _) rfl rfl

set_option maxRecDepth 100000 in
set_option maxHeartbeats 4000000 in
theorem kX5_sign_go {G : Cx} {S : Sx} (hN : 80 ≤ gN G) {x : Int32} {n b : Nat} (hn : S 1 2 = nI n) (hb : S 1 3 = nI b) (hn14 : n ≤ 14) (hb5 : b < 5) (hf : fitF n b (S 2) x ≠ 0) (hx : x ≠ nI 50) : CT G (7) yX5_sign cX5_sign 2 (some .boolean) [ra G 0, .int x] S (nI 1) (st (st S 2 (n * 5 + b) x) 1 3 (nI (b + 1))) := by
  refine CT_of (by decide) (Nat.le_of_ble_eq_true rfl) (by intro v hv; simp only [List.mem_cons, List.not_mem_nil, or_false] at hv; rcases hv with rfl | rfl <;> rfl) (fun F X E => ?_)
  have hR := RI_R E
  refine V_aload_n X dX5_sign_0 rfl ?_
  refine V_getr X flX5_12 (ltN (by decide) hN) rfl rfl dX5_sign_1 ?_
  refine V_iload_n X dX5_sign_4 rfl ?_
  refine V_cvi X (ltN (by decide) hN) rfl rfl rfl (kX2_fits hN hn hb hn14 hb5) cwX5_48 rfl (rm_ok hR (by decide) (by decide)) (Nat.le_of_ble_eq_true rfl) dX5_sign_5 ?_
  refine V_if_ne X 13 dX5_sign_8 (by decide) (fun h8 => ?_) (fun h8 => ?_)
  · refine V_aload_n X dX5_sign_13 rfl ?_
    refine V_getr X flX5_12 (ltN (by decide) hN) rfl rfl dX5_sign_14 ?_
    refine V_iload_n X dX5_sign_17 rfl ?_
    refine V_cvv X (ltN (by decide) hN) rfl rfl rfl (kX2_add hN hn hb (fitF_lt hf) hb5) cwX5_52 rfl (rm_ok hR (by decide) (by decide)) (Nat.le_of_ble_eq_true rfl) dX5_sign_18 ?_
    refine V_iload_n X dX5_sign_21 rfl ?_
    refine V_bipush X (nI 50) dX5_sign_22 (by decide) ?_
    refine V_icmp_ne X 34 dX5_sign_24 (by decide) (fun h24 => ?_) (fun h24 => ?_)
    · refine V_iconst X (nI 1) dX5_sign_34 (by decide) ?_
      refine V_goto X 39 dX5_sign_35 (by decide) ?_
      exact V_zret X E dX5_sign_39 (by first | exact Or.inl rfl | exact Or.inr rfl | exact bi_01 _) rfl rfl
    · exact absurd (ts_nn h24) hx
  · exact absurd (ts_nn h8) hf

def adT (S : Sx) (n b : Nat) (x : Int32) : Sx := st (st S 2 (n * 5 + b) x) 1 3 (nI (b + 1))
theorem adT_n {S : Sx} {n b : Nat} {x : Int32} : adT S n b x 1 2 = S 1 2 := by unfold adT; simp only [st_at]; simp
theorem adT_ne {S : Sx} {n b q : Nat} {x : Int32} (h1 : q ≠ 1) (h2 : q ≠ 2) : adT S n b x q = S q := by unfold adT; rw [st_ne h1, st_ne h2]
set_option maxRecDepth 100000 in
set_option maxHeartbeats 4000000 in
theorem kX5_sign_end {G : Cx} {S : Sx} (hN : 80 ≤ gN G) {n b : Nat} (hn : S 1 2 = nI n) (hb : S 1 3 = nI b) (hn14 : n ≤ 14) (hb5 : b < 5) {ns nr zs : Nat} {R : Sx × Nat × Bool} (hf : fitF n b (S 2) (nI 50) ≠ 0) (hzs : S 6 n = nI zs) (hzs64 : zs ≤ 64) (hok : ∀ t, t ≤ n → okS (castF (adT S n b (nI 50)) n) t) (hns : bcF (castF (adT S n b (nI 50)) n 3 (2 * n + 0)) = nI ns) (hnr : (if adT S n b (nI 50) 2 (n * 5 + 1) = nI 33 then bcF (castF (adT S n b (nI 50)) n 3 (2 * n + 1)) else nI 1) = nI nr) (hns8 : ns ≤ 8) (hnr8 : nr ≤ 8) (hR0 : ews n ns nr zs 0 (st (castF (adT S n b (nI 50)) n) 6 (n + 1) (nI 0)) 0 = R) : CT G (7) yX5_sign cX5_sign 2 (some .boolean) [ra G 0, .int (nI 50)] S (bb (R.2.2 && decide (0 < R.2.1))) (fnS R n) := by
  refine CT_of (by decide) (Nat.le_of_ble_eq_true rfl) (by intro v hv; simp only [List.mem_cons, List.not_mem_nil, or_false] at hv; rcases hv with rfl | rfl <;> rfl) (fun F X E => ?_)
  have hR := RI_R E
  refine V_aload_n X dX5_sign_0 rfl ?_
  refine V_getr X flX5_12 (ltN (by decide) hN) rfl rfl dX5_sign_1 ?_
  refine V_iload_n X dX5_sign_4 rfl ?_
  refine V_cvi X (ltN (by decide) hN) rfl rfl rfl (kX2_fits hN hn hb hn14 hb5) cwX5_48 rfl (rm_ok hR (by decide) (by decide)) (Nat.le_of_ble_eq_true rfl) dX5_sign_5 ?_
  refine V_if_ne X 13 dX5_sign_8 (by decide) (fun h8 => ?_) (fun h8 => ?_)
  · refine V_aload_n X dX5_sign_13 rfl ?_
    refine V_getr X flX5_12 (ltN (by decide) hN) rfl rfl dX5_sign_14 ?_
    refine V_iload_n X dX5_sign_17 rfl ?_
    refine V_cvv X (ltN (by decide) hN) rfl rfl rfl (kX2_add hN hn hb (fitF_lt hf) hb5) cwX5_52 rfl (rm_ok hR (by decide) (by decide)) (Nat.le_of_ble_eq_true rfl) dX5_sign_18 ?_
    refine V_iload_n X dX5_sign_21 rfl ?_
    refine V_bipush X (nI 50) dX5_sign_22 (by decide) ?_
    refine V_icmp_ne X 34 dX5_sign_24 (by decide) (fun h24 => ?_) (fun h24 => ?_)
    · exact absurd rfl h24
    · refine V_aload_n X dX5_sign_27 rfl ?_
      refine V_cvi X (ltN (by decide) hN) rfl rfl rfl (kX5_finishSentence hN (by show adT S n b (nI 50) 1 2 = _; rw [adT_n]; exact hn) (by have := fitF_lt hf; omega) (by show adT S n b (nI 50) 6 n = _; rw [adT_ne (by decide) (by decide)]; exact hzs) hzs64 hok hns hnr hns8 hnr8 hR0) cwX5_55 rfl (rm_ok hR (by decide) (by decide)) (Nat.le_of_ble_eq_true rfl) dX5_sign_28 ?_
      refine V_if_eq X 38 dX5_sign_31 (by decide) (fun h31 => ?_) (fun h31 => ?_)
      · refine V_iconst X (nI 0) dX5_sign_38 (by decide) ?_
        exact V_zret X E dX5_sign_39 (by first | exact Or.inl rfl | exact Or.inr rfl) (by first | (rw [bb_0.mp h31]; rfl) | (rw [bb_n.mp h31]; rfl)) rfl
      · refine V_iconst X (nI 1) dX5_sign_34 (by decide) ?_
        refine V_goto X 39 dX5_sign_35 (by decide) ?_
        exact V_zret X E dX5_sign_39 (by first | exact Or.inl rfl | exact Or.inr rfl) (by first | (rw [bb_0.mp h31]; rfl) | (rw [bb_n.mp h31]; rfl)) rfl
  · exact absurd (ts_nn h8) hf

set_option maxRecDepth 100000 in
set_option maxHeartbeats 4000000 in
theorem kX5_back {G : Cx} {S : Sx} (hN : 80 ≤ gN G) {n b : Nat} (hn : S 1 2 = nI n) (hb : S 1 3 = nI b) (hn14 : n ≤ 14) (hb5 : b < 5) : CT G (1) yX5_back cX5_back 1 (some .boolean) [ra G 0] S (bi (0 < b ∨ 0 < n)) (if 0 < b then st S 1 3 (nI 0) else if 0 < n then st S 1 2 (nI (n - 1)) else S) := by
  refine CT_of (by decide) (Nat.le_of_ble_eq_true rfl) (by intro v hv; simp only [List.mem_cons, List.not_mem_nil, or_false] at hv; rcases hv with rfl <;> rfl) (fun F X E => ?_)
  have hR := RI_R E
  refine V_aload_n X dX5_back_0 rfl ?_
  refine V_getr X flX5_12 (ltN (by decide) hN) rfl rfl dX5_back_1 ?_
  refine V_cvi X (ltN (by decide) hN) rfl rfl rfl (kX2_forgetLatest hN hn hb hn14 hb5) cwX5_59 rfl (rm_ok hR (by decide) (by decide)) (Nat.le_of_ble_eq_true rfl) dX5_back_4 ?_
  exact V_zret X E dX5_back_7 (by first | exact Or.inl rfl | exact Or.inr rfl | exact bi_01 _) rfl rfl

set_option maxRecDepth 100000 in
set_option maxHeartbeats 4000000 in
theorem kX5_told {G : Cx} {S : Sx} (hN : 80 ≤ gN G) {x y : Int32} {n b : Nat} (hn : S 1 2 = nI n) (hb : S 1 3 = nI b) (hn14 : n ≤ 14) (hb5 : b < 5) : CT G (3) yX5_told cX5_told 3 (some .int) [ra G 0, .int x, .int y] S (tAt n b (S 2) x y) (S) := by
  refine CT_of (by decide) (Nat.le_of_ble_eq_true rfl) (by intro v hv; simp only [List.mem_cons, List.not_mem_nil, or_false] at hv; rcases hv with rfl | rfl | rfl <;> rfl) (fun F X E => ?_)
  have hR := RI_R E
  refine V_aload_n X dX5_told_0 rfl ?_
  refine V_getr X flX5_12 (ltN (by decide) hN) rfl rfl dX5_told_1 ?_
  refine V_iload_n X dX5_told_4 rfl ?_
  refine V_iload_n X dX5_told_5 rfl ?_
  refine V_cvi X (ltN (by decide) hN) rfl rfl rfl (kX2_signAt hN hn hb hn14 hb5) cwX5_62 rfl (rm_ok hR (by decide) (by decide)) (Nat.le_of_ble_eq_true rfl) dX5_told_6 ?_
  exact V_iret X E dX5_told_9 rfl rfl

set_option maxRecDepth 100000 in
set_option maxHeartbeats 4000000 in
theorem kX5_readings {G : Cx} {S : Sx} (hN : 80 ≤ gN G) {n : Nat} (hn : S 1 2 = nI n) (hn14 : n ≤ 14) {x : Int32} : CT G (1) yX5_readings cX5_readings 2 (some .int) [ra G 0, .int x] S (if pfP n x then S 6 x.toNatClampNeg else -1) (S) := by
  refine CT_of (by decide) (Nat.le_of_ble_eq_true rfl) (by intro v hv; simp only [List.mem_cons, List.not_mem_nil, or_false] at hv; rcases hv with rfl | rfl <;> rfl) (fun F X E => ?_)
  have hR := RI_R E
  refine V_aload_n X dX5_readings_0 rfl ?_
  refine V_iload_n X dX5_readings_1 rfl ?_
  refine V_cvi X (ltN (by decide) hN) rfl rfl rfl (kX5_hasPrefix hN hn hn14) cwX5_66 rfl (rm_ok hR (by decide) (by decide)) (Nat.le_of_ble_eq_true rfl) dX5_readings_2 ?_
  refine V_if_eq X 19 dX5_readings_5 (by decide) (fun h5 => ?_) (fun h5 => ?_)
  · refine V_iconst X (-1) dX5_readings_19 (by decide) ?_
    exact V_iret X E dX5_readings_20 (by first | (rw [if_neg (bi_eq.mp h5)]; done) | (rw [if_pos (Classical.byContradiction (fun z => h5 (bi_eq.mpr z))), nI_clamp (by omega)])) rfl
  · obtain ⟨k, hk, rfl⟩ := pf_nat (by omega) (Classical.byContradiction (fun z => h5 (bi_eq.mpr z)))
    refine V_aload_n X dX5_readings_8 rfl ?_
    refine V_getr X flX5_19 (ltN (by decide) hN) rfl rfl dX5_readings_9 ?_
    refine V_iload_n X dX5_readings_12 rfl ?_
    refine V_cvi X (ltN (by decide) hN) rfl rfl rfl (kX3_size hN (by omega)) cwX5_69 rfl (rm_ok hR (by decide) (by decide)) (Nat.le_of_ble_eq_true rfl) dX5_readings_13 ?_
    refine V_goto X 20 dX5_readings_16 (by decide) ?_
    exact V_iret X E dX5_readings_20 (by first | (rw [if_neg (bi_eq.mp h5)]; done) | (rw [if_pos (Classical.byContradiction (fun z => h5 (bi_eq.mpr z))), nI_clamp (by omega)])) rfl

set_option maxRecDepth 100000 in
set_option maxHeartbeats 4000000 in
theorem kX5_means_no {G : Cx} {S : Sx} (hN : 80 ≤ gN G) {n : Nat} (hn : S 1 2 = nI n) (hn14 : n ≤ 14) {z : Nat} (hz : S 6 n = nI z) (hz64 : z ≤ 64) {x w r : Int32} (hno : ¬ ((0 ≤ x.toInt ∧ x.toInt < n) ∧ rdP z r ∧ (w = nI 0 ∨ w = nI 1))) : CT G (2) yX5_means cX5_means 4 (some .int) [ra G 0, .int x, .int w, .int r] S (-1) (S) := by
  refine CT_of (by decide) (Nat.le_of_ble_eq_true rfl) (by intro v hv; simp only [List.mem_cons, List.not_mem_nil, or_false] at hv; rcases hv with rfl | rfl | rfl | rfl <;> rfl) (fun F X E => ?_)
  have hR := RI_R E
  refine V_iload_n X dX5_means_0 rfl ?_
  refine V_if_lt X 23 dX5_means_1 (by decide) (fun h1 => ?_) (fun h1 => ?_)
  · refine V_iconst X (-1) dX5_means_23 (by decide) ?_
    exact V_iret X E dX5_means_24 rfl rfl
  · refine V_iload_n X dX5_means_4 rfl ?_
    refine V_aload_n X dX5_means_5 rfl ?_
    refine V_getr X flX5_12 (ltN (by decide) hN) rfl rfl dX5_means_6 ?_
    refine V_getNi X fnX5_73 (ltN (by decide) hN) rfl rfl dX5_means_9 ?_
    refine V_top (nI (n)) (by first | exact hn | (simp only [st_at]; simp; exact hn)) ?_
    refine V_icmp_ge X 23 dX5_means_12 (by decide) (fun h12 => ?_) (fun h12 => ?_)
    · refine V_iconst X (-1) dX5_means_23 (by decide) ?_
      exact V_iret X E dX5_means_24 rfl rfl
    · refine V_aload_n X dX5_means_15 rfl ?_
      refine V_iload_n X dX5_means_16 rfl ?_
      refine V_cvi X (ltN (by decide) hN) rfl rfl rfl (kX5_hasReading hN hn hn14 hz hz64) cwX5_77 rfl (rm_ok hR (by decide) (by decide)) (Nat.le_of_ble_eq_true rfl) dX5_means_17 ?_
      refine V_if_ne X 25 dX5_means_20 (by decide) (fun h20 => ?_) (fun h20 => ?_)
      · refine V_iload_n X dX5_means_25 rfl ?_
        refine V_if_eq X 36 dX5_means_26 (by decide) (fun h26 => ?_) (fun h26 => ?_)
        · exact absurd ⟨⟨nlt0 h1, ngek (by omega) h12⟩, bi_ne.mp h20, Or.inl h26⟩ hno
        · refine V_iload_n X dX5_means_29 rfl ?_
          refine V_iconst X (nI 1) dX5_means_30 (by decide) ?_
          refine V_icmp_eq X 36 dX5_means_31 (by decide) (fun h31 => ?_) (fun h31 => ?_)
          · exact absurd ⟨⟨nlt0 h1, ngek (by omega) h12⟩, bi_ne.mp h20, Or.inr h31⟩ hno
          · refine V_iconst X (-1) dX5_means_34 (by decide) ?_
            exact V_iret X E dX5_means_35 rfl rfl
      · refine V_iconst X (-1) dX5_means_23 (by decide) ?_
        exact V_iret X E dX5_means_24 rfl rfl

set_option maxRecDepth 100000 in
set_option maxHeartbeats 4000000 in
theorem kX5_means {G : Cx} {S : Sx} (hN : 80 ≤ gN G) {n : Nat} (hn : S 1 2 = nI n) (hn14 : n ≤ 14) {z : Nat} (hz : S 6 n = nI z) (hz64 : z ≤ 64) {s u t : Nat} (hs : s < n) (hu : u < 2) (ht : t < z) : CT G (2) yX5_means cX5_means 4 (some .int) [ra G 0, .int (nI s), .int (nI u), .int (nI t)] S (pp S s u (S (20 + n) t)) (S) := by
  refine CT_of (by decide) (Nat.le_of_ble_eq_true rfl) (by intro v hv; simp only [List.mem_cons, List.not_mem_nil, or_false] at hv; rcases hv with rfl | rfl | rfl | rfl <;> rfl) (fun F X E => ?_)
  have hR := RI_R E
  refine V_iload_n X dX5_means_0 rfl ?_
  refine V_iN_lt X 23 (by omega) dX5_means_1 (by decide) ?_
  refine V_iload_n X dX5_means_4 rfl ?_
  refine V_aload_n X dX5_means_5 rfl ?_
  refine V_getr X flX5_12 (ltN (by decide) hN) rfl rfl dX5_means_6 ?_
  refine V_getNi X fnX5_73 (ltN (by decide) hN) rfl rfl dX5_means_9 ?_
  refine V_top (nI (n)) (by first | exact hn | (simp only [st_at]; simp; exact hn)) ?_
  refine V_cN_ge X 23 (by omega) (by omega) dX5_means_12 (by decide) (fun h12 => ?_) (fun h12 => ?_)
  · omega
  · refine V_aload_n X dX5_means_15 rfl ?_
    refine V_iload_n X dX5_means_16 rfl ?_
    refine V_cvi X (ltN (by decide) hN) rfl rfl rfl (kX5_hasReading hN hn hn14 hz hz64) cwX5_77 rfl (rm_ok hR (by decide) (by decide)) (Nat.le_of_ble_eq_true rfl) dX5_means_17 ?_
    refine V_if_ne X 25 dX5_means_20 (by decide) (fun h20 => ?_) (fun h20 => ?_)
    · refine V_iload_n X dX5_means_25 rfl ?_
      refine V_iN_eq X 36 (by omega) dX5_means_26 (by decide) (fun h26 => ?_) (fun h26 => ?_)
      · refine V_aload_n X dX5_means_36 rfl ?_
        refine V_getr X flX5_12 (ltN (by decide) hN) rfl rfl dX5_means_37 ?_
        refine V_iload_n X dX5_means_40 rfl ?_
        refine V_iload_n X dX5_means_41 rfl ?_
        refine V_aload_n X dX5_means_42 rfl ?_
        refine V_getr X flX5_19 (ltN (by decide) hN) rfl rfl dX5_means_43 ?_
        refine V_aload_n X dX5_means_46 rfl ?_
        refine V_getr X flX5_12 (ltN (by decide) hN) rfl rfl dX5_means_47 ?_
        refine V_getNi X fnX5_73 (ltN (by decide) hN) rfl rfl dX5_means_50 ?_
        refine V_top (nI (n)) (by first | exact hn | (simp only [st_at]; simp; exact hn)) ?_
        refine V_iload_n X dX5_means_53 rfl ?_
        refine V_cvi X (ltN (by decide) hN) rfl rfl rfl (kX3_choices hN (by omega) (by omega)) cwX5_80 rfl (rm_ok hR (by decide) (by decide)) (Nat.le_of_ble_eq_true rfl) dX5_means_54 ?_
        refine V_cvi X (ltN (by decide) hN) rfl rfl rfl (kX2_person hN (by omega) (by omega)) cwX5_83 rfl (rm_ok hR (by decide) (by decide)) (Nat.le_of_ble_eq_true rfl) dX5_means_57 ?_
        exact V_iret X E dX5_means_60 rfl rfl
      · refine V_iload_n X dX5_means_29 rfl ?_
        refine V_iconst X (nI 1) dX5_means_30 (by decide) ?_
        refine V_cN_eq X 36 (by omega) (by omega) dX5_means_31 (by decide) (fun h31 => ?_) (fun h31 => ?_)
        · refine V_aload_n X dX5_means_36 rfl ?_
          refine V_getr X flX5_12 (ltN (by decide) hN) rfl rfl dX5_means_37 ?_
          refine V_iload_n X dX5_means_40 rfl ?_
          refine V_iload_n X dX5_means_41 rfl ?_
          refine V_aload_n X dX5_means_42 rfl ?_
          refine V_getr X flX5_19 (ltN (by decide) hN) rfl rfl dX5_means_43 ?_
          refine V_aload_n X dX5_means_46 rfl ?_
          refine V_getr X flX5_12 (ltN (by decide) hN) rfl rfl dX5_means_47 ?_
          refine V_getNi X fnX5_73 (ltN (by decide) hN) rfl rfl dX5_means_50 ?_
          refine V_top (nI (n)) (by first | exact hn | (simp only [st_at]; simp; exact hn)) ?_
          refine V_iload_n X dX5_means_53 rfl ?_
          refine V_cvi X (ltN (by decide) hN) rfl rfl rfl (kX3_choices hN (by omega) (by omega)) cwX5_80 rfl (rm_ok hR (by decide) (by decide)) (Nat.le_of_ble_eq_true rfl) dX5_means_54 ?_
          refine V_cvi X (ltN (by decide) hN) rfl rfl rfl (kX2_person hN (by omega) (by omega)) cwX5_83 rfl (rm_ok hR (by decide) (by decide)) (Nat.le_of_ble_eq_true rfl) dX5_means_57 ?_
          exact V_iret X E dX5_means_60 rfl rfl
        · omega
    · exact absurd (bi_eq.mp (ts_nn h20)) (fun q => q ⟨by rw [nI_toInt (by omega)]; omega, by rw [nI_toInt (by omega)]; omega⟩)

set_option maxRecDepth 100000 in
set_option maxHeartbeats 4000000 in
theorem kX5_answer_no {G : Cx} {S : Sx} (hN : 80 ≤ gN G) {n : Nat} (hn : S 1 2 = nI n) (hn14 : n ≤ 14) {x y k : Int32} (hno : ¬ (okQ x y ∧ pfP n k)) : CT G (2) yX5_answer cX5_answer 5 (some .int) [ra G 0, .int x, .int y, .int k] S (-1) (S) := by
  refine CT_of (by decide) (Nat.le_of_ble_eq_true rfl) (by intro v hv; simp only [List.mem_cons, List.not_mem_nil, or_false] at hv; rcases hv with rfl | rfl | rfl | rfl <;> rfl) (fun F X E => ?_)
  have hR := RI_R E
  refine V_iload_n X dX5_answer_0 rfl ?_
  refine V_iload_n X dX5_answer_1 rfl ?_
  refine V_csi X (kX5_questionNumber ) cwX5_87 rfl (rm_ok hR (by decide) (by decide)) (Nat.le_of_ble_eq_true rfl) dX5_answer_2 ?_
  refine V_istore X dX5_answer_5 (by rw [hR.2]; decide) ?_
  refine V_iload X dX5_answer_7 rfl ?_
  refine V_iconst X (-1) dX5_answer_9 (by decide) ?_
  refine V_icmp_eq X 21 dX5_answer_10 (by decide) (fun h10 => ?_) (fun h10 => ?_)
  · refine V_iconst X (-1) dX5_answer_21 (by decide) ?_
    refine V_goto X 37 dX5_answer_22 (by decide) ?_
    exact V_iret X E dX5_answer_37 rfl rfl
  · refine V_aload_n X dX5_answer_13 rfl ?_
    refine V_iload_n X dX5_answer_14 rfl ?_
    refine V_cvi X (ltN (by decide) hN) rfl rfl rfl (kX5_hasPrefix hN hn hn14) cwX5_66 rfl (rm_ok hR (by decide) (by decide)) (Nat.le_of_ble_eq_true rfl) dX5_answer_15 ?_
    refine V_if_ne X 25 dX5_answer_18 (by decide) (fun h18 => ?_) (fun h18 => ?_)
    · exfalso
      rcases qnF_or x y with ⟨-, e⟩ | ⟨kk, aa, hq, rfl, rfl, e⟩
      · exact h10 e
      · exact hno ⟨(okQ_n (by have := hq.1; omega) (by have := hq.2; omega)).mpr (okQ_q.mpr hq), bi_ne.mp h18⟩
    · refine V_iconst X (-1) dX5_answer_21 (by decide) ?_
      refine V_goto X 37 dX5_answer_22 (by decide) ?_
      exact V_iret X E dX5_answer_37 rfl rfl

set_option maxRecDepth 100000 in
set_option maxHeartbeats 4000000 in
theorem kX5_answer {G : Cx} {S : Sx} (hN : 80 ≤ gN G) {n : Nat} (hn : S 1 2 = nI n) (hn14 : n ≤ 14) {k a j : Nat} (hq : qOk k a) (hj : j ≤ n) : CT G (2) yX5_answer cX5_answer 5 (some .int) [ra G 0, .int (nI k), .int (nI a), .int (nI j)] S (S (35 + j) (qix k a)) (S) := by
  have hq36 := qix_36 hq
  refine CT_of (by decide) (Nat.le_of_ble_eq_true rfl) (by intro v hv; simp only [List.mem_cons, List.not_mem_nil, or_false] at hv; rcases hv with rfl | rfl | rfl | rfl <;> rfl) (fun F X E => ?_)
  have hR := RI_R E
  refine V_iload_n X dX5_answer_0 rfl ?_
  refine V_iload_n X dX5_answer_1 rfl ?_
  refine V_csi X (kX5_questionNumber ) cwX5_87 rfl (rm_ok hR (by decide) (by decide)) (Nat.le_of_ble_eq_true rfl) dX5_answer_2 ?_
  refine V_top (nI (qix k a)) (qnF_n hq) ?_
  refine V_istore X dX5_answer_5 (by rw [hR.2]; decide) ?_
  refine V_iload X dX5_answer_7 rfl ?_
  refine V_iconst X (-1) dX5_answer_9 (by decide) ?_
  refine V_icmp_eq X 21 dX5_answer_10 (by decide) (fun h10 => ?_) (fun h10 => ?_)
  · exact absurd h10 (m1_ne (by omega))
  · refine V_aload_n X dX5_answer_13 rfl ?_
    refine V_iload_n X dX5_answer_14 rfl ?_
    refine V_cvi X (ltN (by decide) hN) rfl rfl rfl (kX5_hasPrefix hN hn hn14) cwX5_66 rfl (rm_ok hR (by decide) (by decide)) (Nat.le_of_ble_eq_true rfl) dX5_answer_15 ?_
    refine V_if_ne X 25 dX5_answer_18 (by decide) (fun h18 => ?_) (fun h18 => ?_)
    · refine V_aload_n X dX5_answer_25 rfl ?_
      refine V_getr X flX5_33 (ltN (by decide) hN) rfl rfl dX5_answer_26 ?_
      refine V_getNr X fnX5_90 (ltN (by decide) hN) rfl rfl dX5_answer_29 ?_
      refine V_iload_n X dX5_answer_32 rfl ?_
      refine V_aaldN X (ltN (by decide) hN) rfl (by omega) dX5_answer_33 ?_
      refine V_iload X dX5_answer_34 rfl ?_
      refine V_ialdN X (ltN (by omega) hN) (ds_fnd (by omega) (by omega)) (by omega) (by decide) dX5_answer_36 ?_
      exact V_iret X E dX5_answer_37 rfl rfl
    · exact absurd (bi_eq.mp (ts_nn h18)) (fun q => q ⟨by rw [nI_toInt (by omega)]; omega, by rw [nI_toInt (by omega)]; omega⟩)

set_option maxRecDepth 100000 in
set_option maxHeartbeats 4000000 in
theorem kX5_level_no {G : Cx} {S : Sx} (hN : 80 ≤ gN G) {n : Nat} (hn : S 1 2 = nI n) (hn14 : n ≤ 14) {x y k : Int32} (hno : ¬ (okQ x y ∧ pfP n k)) : CT G (2) yX5_level cX5_level 5 (some .int) [ra G 0, .int x, .int y, .int k] S (-1) (S) := by
  refine CT_of (by decide) (Nat.le_of_ble_eq_true rfl) (by intro v hv; simp only [List.mem_cons, List.not_mem_nil, or_false] at hv; rcases hv with rfl | rfl | rfl | rfl <;> rfl) (fun F X E => ?_)
  have hR := RI_R E
  refine V_iload_n X dX5_level_0 rfl ?_
  refine V_iload_n X dX5_level_1 rfl ?_
  refine V_csi X (kX5_questionNumber ) cwX5_87 rfl (rm_ok hR (by decide) (by decide)) (Nat.le_of_ble_eq_true rfl) dX5_level_2 ?_
  refine V_istore X dX5_level_5 (by rw [hR.2]; decide) ?_
  refine V_iload X dX5_level_7 rfl ?_
  refine V_iconst X (-1) dX5_level_9 (by decide) ?_
  refine V_icmp_eq X 21 dX5_level_10 (by decide) (fun h10 => ?_) (fun h10 => ?_)
  · refine V_iconst X (-1) dX5_level_21 (by decide) ?_
    refine V_goto X 37 dX5_level_22 (by decide) ?_
    exact V_iret X E dX5_level_37 rfl rfl
  · refine V_aload_n X dX5_level_13 rfl ?_
    refine V_iload_n X dX5_level_14 rfl ?_
    refine V_cvi X (ltN (by decide) hN) rfl rfl rfl (kX5_hasPrefix hN hn hn14) cwX5_66 rfl (rm_ok hR (by decide) (by decide)) (Nat.le_of_ble_eq_true rfl) dX5_level_15 ?_
    refine V_if_ne X 25 dX5_level_18 (by decide) (fun h18 => ?_) (fun h18 => ?_)
    · exfalso
      rcases qnF_or x y with ⟨-, e⟩ | ⟨kk, aa, hq, rfl, rfl, e⟩
      · exact h10 e
      · exact hno ⟨(okQ_n (by have := hq.1; omega) (by have := hq.2; omega)).mpr (okQ_q.mpr hq), bi_ne.mp h18⟩
    · refine V_iconst X (-1) dX5_level_21 (by decide) ?_
      refine V_goto X 37 dX5_level_22 (by decide) ?_
      exact V_iret X E dX5_level_37 rfl rfl

set_option maxRecDepth 100000 in
set_option maxHeartbeats 4000000 in
theorem kX5_level {G : Cx} {S : Sx} (hN : 80 ≤ gN G) {n : Nat} (hn : S 1 2 = nI n) (hn14 : n ≤ 14) {k a j : Nat} (hq : qOk k a) (hj : j ≤ n) : CT G (2) yX5_level cX5_level 5 (some .int) [ra G 0, .int (nI k), .int (nI a), .int (nI j)] S (S (50 + j) (qix k a)) (S) := by
  have hq36 := qix_36 hq
  refine CT_of (by decide) (Nat.le_of_ble_eq_true rfl) (by intro v hv; simp only [List.mem_cons, List.not_mem_nil, or_false] at hv; rcases hv with rfl | rfl | rfl | rfl <;> rfl) (fun F X E => ?_)
  have hR := RI_R E
  refine V_iload_n X dX5_level_0 rfl ?_
  refine V_iload_n X dX5_level_1 rfl ?_
  refine V_csi X (kX5_questionNumber ) cwX5_87 rfl (rm_ok hR (by decide) (by decide)) (Nat.le_of_ble_eq_true rfl) dX5_level_2 ?_
  refine V_top (nI (qix k a)) (qnF_n hq) ?_
  refine V_istore X dX5_level_5 (by rw [hR.2]; decide) ?_
  refine V_iload X dX5_level_7 rfl ?_
  refine V_iconst X (-1) dX5_level_9 (by decide) ?_
  refine V_icmp_eq X 21 dX5_level_10 (by decide) (fun h10 => ?_) (fun h10 => ?_)
  · exact absurd h10 (m1_ne (by omega))
  · refine V_aload_n X dX5_level_13 rfl ?_
    refine V_iload_n X dX5_level_14 rfl ?_
    refine V_cvi X (ltN (by decide) hN) rfl rfl rfl (kX5_hasPrefix hN hn hn14) cwX5_66 rfl (rm_ok hR (by decide) (by decide)) (Nat.le_of_ble_eq_true rfl) dX5_level_15 ?_
    refine V_if_ne X 25 dX5_level_18 (by decide) (fun h18 => ?_) (fun h18 => ?_)
    · refine V_aload_n X dX5_level_25 rfl ?_
      refine V_getr X flX5_33 (ltN (by decide) hN) rfl rfl dX5_level_26 ?_
      refine V_getNr X fnX5_94 (ltN (by decide) hN) rfl rfl dX5_level_29 ?_
      refine V_iload_n X dX5_level_32 rfl ?_
      refine V_aaldN X (ltN (by decide) hN) rfl (by omega) dX5_level_33 ?_
      refine V_iload X dX5_level_34 rfl ?_
      refine V_ialdN X (ltN (by omega) hN) (ds_fnd (by omega) (by omega)) (by omega) (by decide) dX5_level_36 ?_
      exact V_iret X E dX5_level_37 rfl rfl
    · exact absurd (bi_eq.mp (ts_nn h18)) (fun q => q ⟨by rw [nI_toInt (by omega)]; omega, by rw [nI_toInt (by omega)]; omega⟩)

set_option maxRecDepth 100000 in
set_option maxHeartbeats 4000000 in
theorem kX5_asks_no {G : Cx} {S : Sx} (hN : 80 ≤ gN G) {n : Nat} (hn : S 1 2 = nI n) (hn14 : n ≤ 14) {x y : Int32} (hno : ¬ okQ x y) : CT G (2) yX5_asks cX5_asks 4 (some .int) [ra G 0, .int x, .int y] S (-1) (S) := by
  refine CT_of (by decide) (Nat.le_of_ble_eq_true rfl) (by intro v hv; simp only [List.mem_cons, List.not_mem_nil, or_false] at hv; rcases hv with rfl | rfl | rfl <;> rfl) (fun F X E => ?_)
  have hR := RI_R E
  refine V_iload_n X dX5_asks_0 rfl ?_
  refine V_iload_n X dX5_asks_1 rfl ?_
  refine V_csi X (kX5_questionNumber ) cwX5_87 rfl (rm_ok hR (by decide) (by decide)) (Nat.le_of_ble_eq_true rfl) dX5_asks_2 ?_
  refine V_istore_n X dX5_asks_5 (by rw [hR.2]; decide) ?_
  refine V_iload_n X dX5_asks_6 rfl ?_
  refine V_iconst X (-1) dX5_asks_7 (by decide) ?_
  refine V_icmp_ne X 15 dX5_asks_8 (by decide) (fun h8 => ?_) (fun h8 => ?_)
  · exact absurd (qnF_no hno).symm h8
  · refine V_iconst X (-1) dX5_asks_11 (by decide) ?_
    refine V_goto X 32 dX5_asks_12 (by decide) ?_
    exact V_iret X E dX5_asks_32 rfl rfl

set_option maxRecDepth 100000 in
set_option maxHeartbeats 4000000 in
theorem kX5_asks {G : Cx} {S : Sx} (hN : 80 ≤ gN G) {n : Nat} (hn : S 1 2 = nI n) (hn14 : n ≤ 14) {k a : Nat} (hq : qOk k a) : CT G (2) yX5_asks cX5_asks 4 (some .int) [ra G 0, .int (nI k), .int (nI a)] S (S (65 + n) (qix k a)) (S) := by
  have hq36 := qix_36 hq
  refine CT_of (by decide) (Nat.le_of_ble_eq_true rfl) (by intro v hv; simp only [List.mem_cons, List.not_mem_nil, or_false] at hv; rcases hv with rfl | rfl | rfl <;> rfl) (fun F X E => ?_)
  have hR := RI_R E
  refine V_iload_n X dX5_asks_0 rfl ?_
  refine V_iload_n X dX5_asks_1 rfl ?_
  refine V_csi X (kX5_questionNumber ) cwX5_87 rfl (rm_ok hR (by decide) (by decide)) (Nat.le_of_ble_eq_true rfl) dX5_asks_2 ?_
  refine V_top (nI (qix k a)) (qnF_n hq) ?_
  refine V_istore_n X dX5_asks_5 (by rw [hR.2]; decide) ?_
  refine V_iload_n X dX5_asks_6 rfl ?_
  refine V_iconst X (-1) dX5_asks_7 (by decide) ?_
  refine V_icmp_ne X 15 dX5_asks_8 (by decide) (fun h8 => ?_) (fun h8 => ?_)
  · refine V_aload_n X dX5_asks_15 rfl ?_
    refine V_getr X flX5_33 (ltN (by decide) hN) rfl rfl dX5_asks_16 ?_
    refine V_getNr X fnX5_114 (ltN (by decide) hN) rfl rfl dX5_asks_19 ?_
    refine V_aload_n X dX5_asks_22 rfl ?_
    refine V_getr X flX5_12 (ltN (by decide) hN) rfl rfl dX5_asks_23 ?_
    refine V_getNi X fnX5_73 (ltN (by decide) hN) rfl rfl dX5_asks_26 ?_
    refine V_top (nI (n)) (by first | exact hn | (simp only [st_at]; simp; exact hn)) ?_
    refine V_aaldN X (ltN (by decide) hN) rfl (by omega) dX5_asks_29 ?_
    refine V_iload_n X dX5_asks_30 rfl ?_
    refine V_ialdN X (ltN (by omega) hN) (ds_fnd (by omega) (by omega)) (by omega) (by decide) dX5_asks_31 ?_
    exact V_iret X E dX5_asks_32 rfl rfl
  · exact absurd (ts_nn h8) (m1_ne (by omega))

set_option maxRecDepth 100000 in
set_option maxHeartbeats 4000000 in
theorem kX5_grounds_no {G : Cx} {S : Sx} (hN : 80 ≤ gN G) {n : Nat} (hn : S 1 2 = nI n) (hn14 : n ≤ 14) {z : Nat} (hz : S 6 n = nI z) (hz64 : z ≤ 64) {x y r : Int32} (hno : ¬ (okQ x y ∧ rdP z r)) : CT G (5) yX5_grounds cX5_grounds 4 (some .int) [ra G 0, .int x, .int y, .int r] S (-1) (S) := by
  refine CT_of (by decide) (Nat.le_of_ble_eq_true rfl) (by intro v hv; simp only [List.mem_cons, List.not_mem_nil, or_false] at hv; rcases hv with rfl | rfl | rfl | rfl <;> rfl) (fun F X E => ?_)
  have hR := RI_R E
  refine V_iload_n X dX5_grounds_0 rfl ?_
  refine V_iload_n X dX5_grounds_1 rfl ?_
  refine V_csi X (kX5_questionNumber ) cwX5_87 rfl (rm_ok hR (by decide) (by decide)) (Nat.le_of_ble_eq_true rfl) dX5_grounds_2 ?_
  refine V_iconst X (-1) dX5_grounds_5 (by decide) ?_
  refine V_icmp_eq X 17 dX5_grounds_6 (by decide) (fun h6 => ?_) (fun h6 => ?_)
  · refine V_iconst X (-1) dX5_grounds_17 (by decide) ?_
    exact V_iret X E dX5_grounds_18 rfl rfl
  · refine V_aload_n X dX5_grounds_9 rfl ?_
    refine V_iload_n X dX5_grounds_10 rfl ?_
    refine V_cvi X (ltN (by decide) hN) rfl rfl rfl (kX5_hasReading hN hn hn14 hz hz64) cwX5_77 rfl (rm_ok hR (by decide) (by decide)) (Nat.le_of_ble_eq_true rfl) dX5_grounds_11 ?_
    refine V_if_ne X 19 dX5_grounds_14 (by decide) (fun h14 => ?_) (fun h14 => ?_)
    · exfalso
      rcases qnF_or x y with ⟨-, e⟩ | ⟨kk, aa, hq, rfl, rfl, e⟩
      · exact h6 e
      · exact hno ⟨(okQ_n (by have := hq.1; omega) (by have := hq.2; omega)).mpr (okQ_q.mpr hq), bi_ne.mp h14⟩
    · refine V_iconst X (-1) dX5_grounds_17 (by decide) ?_
      exact V_iret X E dX5_grounds_18 rfl rfl

set_option maxRecDepth 100000 in
set_option maxHeartbeats 4000000 in
theorem kX5_grounds {G : Cx} {S : Sx} (hN : 80 ≤ gN G) {n : Nat} (hn : S 1 2 = nI n) (hn14 : n ≤ 14) {z : Nat} (hz : S 6 n = nI z) (hz64 : z ≤ 64) {k a t : Nat} (hq : qOk k a) (ht : t < z) (hok : ∀ s, s < n → okS S s) : CT G (5) yX5_grounds cX5_grounds 4 (some .int) [ra G 0, .int (nI k), .int (nI a), .int (nI t)] S (bs (goT S (S (20 + n) t) n) k a) (goT S (S (20 + n) t) n) := by
  have hq36 := qix_36 hq
  refine CT_of (by decide) (Nat.le_of_ble_eq_true rfl) (by intro v hv; simp only [List.mem_cons, List.not_mem_nil, or_false] at hv; rcases hv with rfl | rfl | rfl | rfl <;> rfl) (fun F X E => ?_)
  have hR := RI_R E
  refine V_iload_n X dX5_grounds_0 rfl ?_
  refine V_iload_n X dX5_grounds_1 rfl ?_
  refine V_csi X (kX5_questionNumber ) cwX5_87 rfl (rm_ok hR (by decide) (by decide)) (Nat.le_of_ble_eq_true rfl) dX5_grounds_2 ?_
  refine V_top (nI (qix k a)) (qnF_n hq) ?_
  refine V_iconst X (-1) dX5_grounds_5 (by decide) ?_
  refine V_icmp_eq X 17 dX5_grounds_6 (by decide) (fun h6 => ?_) (fun h6 => ?_)
  · exact absurd h6 (m1_ne (by omega))
  · refine V_aload_n X dX5_grounds_9 rfl ?_
    refine V_iload_n X dX5_grounds_10 rfl ?_
    refine V_cvi X (ltN (by decide) hN) rfl rfl rfl (kX5_hasReading hN hn hn14 hz hz64) cwX5_77 rfl (rm_ok hR (by decide) (by decide)) (Nat.le_of_ble_eq_true rfl) dX5_grounds_11 ?_
    refine V_if_ne X 19 dX5_grounds_14 (by decide) (fun h14 => ?_) (fun h14 => ?_)
    · refine V_aload_n X dX5_grounds_19 rfl ?_
      refine V_getr X flX5_26 (ltN (by decide) hN) rfl rfl dX5_grounds_20 ?_
      refine V_aload_n X dX5_grounds_23 rfl ?_
      refine V_getr X flX5_12 (ltN (by decide) hN) rfl rfl dX5_grounds_24 ?_
      refine V_aload_n X dX5_grounds_27 rfl ?_
      refine V_getr X flX5_12 (ltN (by decide) hN) rfl rfl dX5_grounds_28 ?_
      refine V_getNi X fnX5_73 (ltN (by decide) hN) rfl rfl dX5_grounds_31 ?_
      refine V_top (nI (n)) (by first | exact hn | (simp only [st_at]; simp; exact hn)) ?_
      refine V_aload_n X dX5_grounds_34 rfl ?_
      refine V_getr X flX5_19 (ltN (by decide) hN) rfl rfl dX5_grounds_35 ?_
      refine V_aload_n X dX5_grounds_38 rfl ?_
      refine V_getr X flX5_12 (ltN (by decide) hN) rfl rfl dX5_grounds_39 ?_
      refine V_getNi X fnX5_73 (ltN (by decide) hN) rfl rfl dX5_grounds_42 ?_
      refine V_top (nI (n)) (by first | exact hn | (simp only [st_at]; simp; exact hn)) ?_
      refine V_iload_n X dX5_grounds_45 rfl ?_
      refine V_cvi X (ltN (by decide) hN) rfl rfl rfl (kX3_choices hN (by omega) (by omega)) cwX5_80 rfl (rm_ok hR (by decide) (by decide)) (Nat.le_of_ble_eq_true rfl) dX5_grounds_46 ?_
      refine V_cvv X (ltN (by decide) hN) rfl rfl rfl (kX4_goThrough hN hn14 hok) cwX5_97 rfl (rm_ok hR (by decide) (by decide)) (Nat.le_of_ble_eq_true rfl) dX5_grounds_49 ?_
      refine V_aload_n X dX5_grounds_52 rfl ?_
      refine V_getr X flX5_26 (ltN (by decide) hN) rfl rfl dX5_grounds_53 ?_
      refine V_iload_n X dX5_grounds_56 rfl ?_
      refine V_iload_n X dX5_grounds_57 rfl ?_
      refine V_cvi X (ltN (by decide) hN) rfl rfl rfl (kX4_basis hN hq) cwX5_101 rfl (rm_ok hR (by decide) (by decide)) (Nat.le_of_ble_eq_true rfl) dX5_grounds_58 ?_
      exact V_iret X E dX5_grounds_61 rfl rfl
    · exact absurd (bi_eq.mp (ts_nn h14)) (fun q => q ⟨by rw [nI_toInt (by omega)]; omega, by rw [nI_toInt (by omega)]; omega⟩)

set_option maxRecDepth 100000 in
set_option maxHeartbeats 4000000 in
theorem kX5_judge_no {G : Cx} {S : Sx} (hN : 80 ≤ gN G) {n : Nat} (hn : S 1 2 = nI n) (hn14 : n ≤ 14) {x y v : Int32} (hno : ¬ okQ x y) : CT G (2) yX5_judge cX5_judge 5 (some .int) [ra G 0, .int x, .int y, .int v] S (-1) (S) := by
  refine CT_of (by decide) (Nat.le_of_ble_eq_true rfl) (by intro v hv; simp only [List.mem_cons, List.not_mem_nil, or_false] at hv; rcases hv with rfl | rfl | rfl | rfl <;> rfl) (fun F X E => ?_)
  have hR := RI_R E
  refine V_iload_n X dX5_judge_0 rfl ?_
  refine V_iload_n X dX5_judge_1 rfl ?_
  refine V_csi X (kX5_questionNumber ) cwX5_87 rfl (rm_ok hR (by decide) (by decide)) (Nat.le_of_ble_eq_true rfl) dX5_judge_2 ?_
  refine V_istore X dX5_judge_5 (by rw [hR.2]; decide) ?_
  refine V_iload X dX5_judge_7 rfl ?_
  refine V_iconst X (-1) dX5_judge_9 (by decide) ?_
  refine V_icmp_eq X 22 dX5_judge_10 (by decide) (fun h10 => ?_) (fun h10 => ?_)
  · refine V_iconst X (-1) dX5_judge_22 (by decide) ?_
    exact V_iret X E dX5_judge_23 rfl rfl
  · exact absurd (qnF_no hno).symm h10

def jdF (S : Sx) (n k a : Nat) (v : Int32) : Int32 := if S (35 + n) (qix k a) < 0 then -1 else if v = S (35 + n) (qix k a) then nI 0 else if okF k v = 0 then nI 1 else if waF S (qix k a) v n then nI 2 else nI 3
set_option maxRecDepth 100000 in
set_option maxHeartbeats 4000000 in
theorem kX5_judge {G : Cx} {S : Sx} (hN : 80 ≤ gN G) {n : Nat} (hn : S 1 2 = nI n) (hn14 : n ≤ 14) {k a : Nat} {v : Int32} (hq : qOk k a) : CT G (2) yX5_judge cX5_judge 5 (some .int) [ra G 0, .int (nI k), .int (nI a), .int v] S (jdF S n k a v) (S) := by
  have hq36 := qix_36 hq
  refine CT_of (by decide) (Nat.le_of_ble_eq_true rfl) (by intro v hv; simp only [List.mem_cons, List.not_mem_nil, or_false] at hv; rcases hv with rfl | rfl | rfl | rfl <;> rfl) (fun F X E => ?_)
  have hR := RI_R E
  refine V_iload_n X dX5_judge_0 rfl ?_
  refine V_iload_n X dX5_judge_1 rfl ?_
  refine V_csi X (kX5_questionNumber ) cwX5_87 rfl (rm_ok hR (by decide) (by decide)) (Nat.le_of_ble_eq_true rfl) dX5_judge_2 ?_
  refine V_top (nI (qix k a)) (qnF_n hq) ?_
  refine V_istore X dX5_judge_5 (by rw [hR.2]; decide) ?_
  refine V_iload X dX5_judge_7 rfl ?_
  refine V_iconst X (-1) dX5_judge_9 (by decide) ?_
  refine V_icmp_eq X 22 dX5_judge_10 (by decide) (fun h10 => ?_) (fun h10 => ?_)
  · exact absurd h10 (m1_ne (by omega))
  · refine V_aload_n X dX5_judge_13 rfl ?_
    refine V_iload X dX5_judge_14 rfl ?_
    refine V_cvi X (ltN (by decide) hN) rfl rfl rfl (kX5_rightAnswer hN hn hn14 hq36) cwX5_104 rfl (rm_ok hR (by decide) (by decide)) (Nat.le_of_ble_eq_true rfl) dX5_judge_16 ?_
    refine V_if_ge X 24 dX5_judge_19 (by decide) (fun h19 => ?_) (fun h19 => ?_)
    · refine V_iload_n X dX5_judge_24 rfl ?_
      refine V_aload_n X dX5_judge_25 rfl ?_
      refine V_iload X dX5_judge_26 rfl ?_
      refine V_cvi X (ltN (by decide) hN) rfl rfl rfl (kX5_rightAnswer hN hn hn14 hq36) cwX5_104 rfl (rm_ok hR (by decide) (by decide)) (Nat.le_of_ble_eq_true rfl) dX5_judge_28 ?_
      refine V_icmp_ne X 36 dX5_judge_31 (by decide) (fun h31 => ?_) (fun h31 => ?_)
      · refine V_iload_n X dX5_judge_36 rfl ?_
        refine V_iload_n X dX5_judge_37 rfl ?_
        refine V_csi X (kX5_isOfKind hq.1) cwX5_107 rfl (rm_ok hR (by decide) (by decide)) (Nat.le_of_ble_eq_true rfl) dX5_judge_38 ?_
        refine V_if_ne X 46 dX5_judge_41 (by decide) (fun h41 => ?_) (fun h41 => ?_)
        · refine V_aload_n X dX5_judge_46 rfl ?_
          refine V_iload X dX5_judge_47 rfl ?_
          refine V_iload_n X dX5_judge_49 rfl ?_
          refine V_cvi X (ltN (by decide) hN) rfl rfl rfl (kX5_wasAnswer hN hn hn14 hq36) cwX5_111 rfl (rm_ok hR (by decide) (by decide)) (Nat.le_of_ble_eq_true rfl) dX5_judge_50 ?_
          refine V_if_eq X 60 dX5_judge_53 (by decide) (fun h53 => ?_) (fun h53 => ?_)
          · refine V_iconst X (nI 3) dX5_judge_60 (by decide) ?_
            exact V_iret X E dX5_judge_61 (by unfold jdF; rw [if_neg (Int32.not_lt.mpr h19), if_neg h31, if_neg h41]; first | (rw [bb_0.mp h53]; rfl) | (rw [bb_n.mp h53]; rfl)) rfl
          · refine V_iconst X (nI 2) dX5_judge_56 (by decide) ?_
            refine V_goto X 61 dX5_judge_57 (by decide) ?_
            exact V_iret X E dX5_judge_61 (by unfold jdF; rw [if_neg (Int32.not_lt.mpr h19), if_neg h31, if_neg h41]; first | (rw [bb_0.mp h53]; rfl) | (rw [bb_n.mp h53]; rfl)) rfl
        · refine V_iconst X (nI 1) dX5_judge_44 (by decide) ?_
          exact V_iret X E dX5_judge_45 (by unfold jdF; rw [if_neg (Int32.not_lt.mpr h19), if_neg h31, if_pos (ts_nn h41)]) rfl
      · refine V_iconst X (nI 0) dX5_judge_34 (by decide) ?_
        exact V_iret X E dX5_judge_35 (by unfold jdF; rw [if_neg (Int32.not_lt.mpr h19), if_pos (ts_nn h31)]) rfl
    · refine V_iconst X (-1) dX5_judge_22 (by decide) ?_
      exact V_iret X E dX5_judge_23 (by unfold jdF; rw [if_pos (Int32.not_le.mp h19)]) rfl

set_option maxRecDepth 100000 in
set_option maxHeartbeats 4000000 in
theorem kX5_wrong_no {G : Cx} {S : Sx} (hN : 80 ≤ gN G) {n : Nat} (hn : S 1 2 = nI n) (hn14 : n ≤ 14) {x y v : Int32} (hno : ¬ okQ x y) : CT G (4) yX5_wrong cX5_wrong 5 (some .int) [ra G 0, .int x, .int y, .int v] S (-1) (S) := by
  refine CT_of (by decide) (Nat.le_of_ble_eq_true rfl) (by intro v hv; simp only [List.mem_cons, List.not_mem_nil, or_false] at hv; rcases hv with rfl | rfl | rfl | rfl <;> rfl) (fun F X E => ?_)
  have hR := RI_R E
  refine V_iload_n X dX5_wrong_0 rfl ?_
  refine V_iload_n X dX5_wrong_1 rfl ?_
  refine V_csi X (kX5_questionNumber ) cwX5_87 rfl (rm_ok hR (by decide) (by decide)) (Nat.le_of_ble_eq_true rfl) dX5_wrong_2 ?_
  refine V_istore X dX5_wrong_5 (by rw [hR.2]; decide) ?_
  refine V_iload X dX5_wrong_7 rfl ?_
  refine V_iconst X (-1) dX5_wrong_9 (by decide) ?_
  refine V_icmp_eq X 27 dX5_wrong_10 (by decide) (fun h10 => ?_) (fun h10 => ?_)
  · refine V_iconst X (-1) dX5_wrong_27 (by decide) ?_
    exact V_iret X E dX5_wrong_28 rfl rfl
  · exact absurd (qnF_no hno).symm h10

def wrF (S : Sx) (n k a : Nat) (v : Int32) : Int32 := if k = 3 then -1 else if S (35 + n) (qix k a) < 0 then -1 else if k = 2 then cbF (S (35 + n) (qix k a)) (anm (S 2) n (nI 0)) (nI 0) 8 0 v else cbF (S (35 + n) (qix k a)) (apl (S 2) n (nI 0)) (nI 20) 8 0 v
set_option maxRecDepth 100000 in
set_option maxHeartbeats 4000000 in
theorem kX5_wrong {G : Cx} {S : Sx} (hN : 80 ≤ gN G) {n : Nat} (hn : S 1 2 = nI n) (hn14 : n ≤ 14) {k a : Nat} {v : Int32} (hq : qOk k a) : CT G (4) yX5_wrong cX5_wrong 5 (some .int) [ra G 0, .int (nI k), .int (nI a), .int v] S (wrF S n k a v) (S) := by
  have hq36 := qix_36 hq
  have hk4 := hq.1
  refine CT_of (by decide) (Nat.le_of_ble_eq_true rfl) (by intro v hv; simp only [List.mem_cons, List.not_mem_nil, or_false] at hv; rcases hv with rfl | rfl | rfl | rfl <;> rfl) (fun F X E => ?_)
  have hR := RI_R E
  refine V_iload_n X dX5_wrong_0 rfl ?_
  refine V_iload_n X dX5_wrong_1 rfl ?_
  refine V_csi X (kX5_questionNumber ) cwX5_87 rfl (rm_ok hR (by decide) (by decide)) (Nat.le_of_ble_eq_true rfl) dX5_wrong_2 ?_
  refine V_top (nI (qix k a)) (qnF_n hq) ?_
  refine V_istore X dX5_wrong_5 (by rw [hR.2]; decide) ?_
  refine V_iload X dX5_wrong_7 rfl ?_
  refine V_iconst X (-1) dX5_wrong_9 (by decide) ?_
  refine V_icmp_eq X 27 dX5_wrong_10 (by decide) (fun h10 => ?_) (fun h10 => ?_)
  · exact absurd h10 (m1_ne (by omega))
  · refine V_iload_n X dX5_wrong_13 rfl ?_
    refine V_iconst X (nI 3) dX5_wrong_14 (by decide) ?_
    refine V_cN_eq X 27 (by omega) (by omega) dX5_wrong_15 (by decide) (fun h15 => ?_) (fun h15 => ?_)
    · refine V_iconst X (-1) dX5_wrong_27 (by decide) ?_
      exact V_iret X E dX5_wrong_28 (by unfold wrF; rw [if_pos (by omega)]) rfl
    · refine V_aload_n X dX5_wrong_18 rfl ?_
      refine V_iload X dX5_wrong_19 rfl ?_
      refine V_cvi X (ltN (by decide) hN) rfl rfl rfl (kX5_rightAnswer hN hn hn14 hq36) cwX5_104 rfl (rm_ok hR (by decide) (by decide)) (Nat.le_of_ble_eq_true rfl) dX5_wrong_21 ?_
      refine V_if_ge X 29 dX5_wrong_24 (by decide) (fun h24 => ?_) (fun h24 => ?_)
      · refine V_iload_n X dX5_wrong_29 rfl ?_
        refine V_iconst X (nI 2) dX5_wrong_30 (by decide) ?_
        refine V_cN_ne X 53 (by omega) (by omega) dX5_wrong_31 (by decide) (fun h31 => ?_) (fun h31 => ?_)
        · refine V_aload_n X dX5_wrong_53 rfl ?_
          refine V_iload X dX5_wrong_54 rfl ?_
          refine V_cvi X (ltN (by decide) hN) rfl rfl rfl (kX5_rightAnswer hN hn hn14 hq36) cwX5_104 rfl (rm_ok hR (by decide) (by decide)) (Nat.le_of_ble_eq_true rfl) dX5_wrong_56 ?_
          refine V_aload_n X dX5_wrong_59 rfl ?_
          refine V_getr X flX5_12 (ltN (by decide) hN) rfl rfl dX5_wrong_60 ?_
          refine V_cvi X (ltN (by decide) hN) rfl rfl rfl (kX2_allPlaces hN hn hn14) cwX5_134 rfl (rm_ok hR (by decide) (by decide)) (Nat.le_of_ble_eq_true rfl) dX5_wrong_63 ?_
          refine V_bipush X (nI 20) dX5_wrong_66 (by decide) ?_
          refine V_iload_n X dX5_wrong_68 rfl ?_
          refine V_csi X (kX5_choiceBut rfl) cwX5_130 rfl (rm_ok hR (by decide) (by decide)) (Nat.le_of_ble_eq_true rfl) dX5_wrong_69 ?_
          exact V_iret X E dX5_wrong_72 (by unfold wrF; rw [if_neg (by omega), if_neg (Int32.not_lt.mpr h24), if_neg (by omega)]) rfl
        · refine V_aload_n X dX5_wrong_34 rfl ?_
          refine V_iload X dX5_wrong_35 rfl ?_
          refine V_cvi X (ltN (by decide) hN) rfl rfl rfl (kX5_rightAnswer hN hn hn14 hq36) cwX5_104 rfl (rm_ok hR (by decide) (by decide)) (Nat.le_of_ble_eq_true rfl) dX5_wrong_37 ?_
          refine V_aload_n X dX5_wrong_40 rfl ?_
          refine V_getr X flX5_12 (ltN (by decide) hN) rfl rfl dX5_wrong_41 ?_
          refine V_cvi X (ltN (by decide) hN) rfl rfl rfl (kX2_allNamed hN hn hn14) cwX5_127 rfl (rm_ok hR (by decide) (by decide)) (Nat.le_of_ble_eq_true rfl) dX5_wrong_44 ?_
          refine V_iconst X (nI 0) dX5_wrong_47 (by decide) ?_
          refine V_iload_n X dX5_wrong_48 rfl ?_
          refine V_csi X (kX5_choiceBut rfl) cwX5_130 rfl (rm_ok hR (by decide) (by decide)) (Nat.le_of_ble_eq_true rfl) dX5_wrong_49 ?_
          exact V_iret X E dX5_wrong_52 (by unfold wrF; rw [if_neg (by omega), if_neg (Int32.not_lt.mpr h24), if_pos (by omega)]) rfl
      · refine V_iconst X (-1) dX5_wrong_27 (by decide) ?_
        exact V_iret X E dX5_wrong_28 (by unfold wrF; rw [if_neg (by omega), if_pos (Int32.not_le.mp h24)]) rfl

def ctF (S : Sx) (n : Nat) (x : Int32) : Int32 := if x = nI 0 then S 1 2 else if x = nI 1 then S 1 3 else if x = nI 2 then S 6 n else if x = nI 3 then nI (anC (S (35 + n)) 36) else if x = nI 4 then nI (dbC (S (35 + n)) 36) else -1
theorem ctF_out {S : Sx} {n : Nat} {x : Int32} (h : x.toInt < 0 ∨ 4 < x.toInt) : (-1 : Int32) = ctF S n x := by
  have e : ∀ k, k ≤ 4 → x ≠ nI k := fun k hk q => by rw [q, nI_toInt (by omega)] at h; omega
  unfold ctF; rw [if_neg (e 0 (by decide)), if_neg (e 1 (by decide)), if_neg (e 2 (by decide)), if_neg (e 3 (by decide)), if_neg (e 4 (by decide))]
set_option maxRecDepth 100000 in
set_option maxHeartbeats 4000000 in
theorem kX5_count {G : Cx} {S : Sx} (hN : 80 ≤ gN G) {n : Nat} (hn : S 1 2 = nI n) (hn14 : n ≤ 14) {x : Int32} : CT G (1) yX5_count cX5_count 2 (some .int) [ra G 0, .int x] S (ctF S n x) (S) := by
  refine CT_of (by decide) (Nat.le_of_ble_eq_true rfl) (by intro v hv; simp only [List.mem_cons, List.not_mem_nil, or_false] at hv; rcases hv with rfl | rfl <;> rfl) (fun F X E => ?_)
  have hR := RI_R E
  refine V_iload_n X dX5_count_0 rfl ?_
  rcases sw0_5 (x) with h1 | h1 | h1 | h1 | h1 | h1
  · refine V_tabIn X 35 36 dX5_count_1 (by rw [h1]; decide) (by rw [h1]; decide) (by rw [h1]; rfl) (by decide) ?_
    refine V_aload_n X dX5_count_36 rfl ?_
    refine V_getr X flX5_12 (ltN (by decide) hN) rfl rfl dX5_count_37 ?_
    refine V_getNi X fnX5_73 (ltN (by decide) hN) rfl rfl dX5_count_40 ?_
    exact V_iret X E dX5_count_43 (by rw [h1]; rfl) rfl
  · refine V_tabIn X 43 44 dX5_count_1 (by rw [h1]; decide) (by rw [h1]; decide) (by rw [h1]; rfl) (by decide) ?_
    refine V_aload_n X dX5_count_44 rfl ?_
    refine V_getr X flX5_12 (ltN (by decide) hN) rfl rfl dX5_count_45 ?_
    refine V_getNi X fnX5_137 (ltN (by decide) hN) rfl rfl dX5_count_48 ?_
    exact V_iret X E dX5_count_51 (by rw [h1]; rfl) rfl
  · refine V_tabIn X 51 52 dX5_count_1 (by rw [h1]; decide) (by rw [h1]; decide) (by rw [h1]; rfl) (by decide) ?_
    refine V_aload_n X dX5_count_52 rfl ?_
    refine V_getr X flX5_19 (ltN (by decide) hN) rfl rfl dX5_count_53 ?_
    refine V_aload_n X dX5_count_56 rfl ?_
    refine V_getr X flX5_12 (ltN (by decide) hN) rfl rfl dX5_count_57 ?_
    refine V_getNi X fnX5_73 (ltN (by decide) hN) rfl rfl dX5_count_60 ?_
    refine V_top (nI (n)) (hn) ?_
    refine V_cvi X (ltN (by decide) hN) rfl rfl rfl (kX3_size hN (by omega)) cwX5_69 rfl (rm_ok hR (by decide) (by decide)) (Nat.le_of_ble_eq_true rfl) dX5_count_63 ?_
    exact V_iret X E dX5_count_66 (by rw [h1]; rfl) rfl
  · refine V_tabIn X 66 67 dX5_count_1 (by rw [h1]; decide) (by rw [h1]; decide) (by rw [h1]; rfl) (by decide) ?_
    refine V_aload_n X dX5_count_67 rfl ?_
    refine V_getr X flX5_33 (ltN (by decide) hN) rfl rfl dX5_count_68 ?_
    refine V_aload_n X dX5_count_71 rfl ?_
    refine V_getr X flX5_12 (ltN (by decide) hN) rfl rfl dX5_count_72 ?_
    refine V_getNi X fnX5_73 (ltN (by decide) hN) rfl rfl dX5_count_75 ?_
    refine V_top (nI (n)) (hn) ?_
    refine V_cvi X (ltN (by decide) hN) rfl rfl rfl (kX1_answered hN (by omega)) cwX5_140 rfl (rm_ok hR (by decide) (by decide)) (Nat.le_of_ble_eq_true rfl) dX5_count_78 ?_
    exact V_iret X E dX5_count_81 (by rw [h1]; rfl) rfl
  · refine V_tabIn X 81 82 dX5_count_1 (by rw [h1]; decide) (by rw [h1]; decide) (by rw [h1]; rfl) (by decide) ?_
    refine V_aload_n X dX5_count_82 rfl ?_
    refine V_getr X flX5_33 (ltN (by decide) hN) rfl rfl dX5_count_83 ?_
    refine V_aload_n X dX5_count_86 rfl ?_
    refine V_getr X flX5_12 (ltN (by decide) hN) rfl rfl dX5_count_87 ?_
    refine V_getNi X fnX5_73 (ltN (by decide) hN) rfl rfl dX5_count_90 ?_
    refine V_top (nI (n)) (hn) ?_
    refine V_cvi X (ltN (by decide) hN) rfl rfl rfl (kX1_doubted hN (by omega)) cwX5_143 rfl (rm_ok hR (by decide) (by decide)) (Nat.le_of_ble_eq_true rfl) dX5_count_93 ?_
    exact V_iret X E dX5_count_96 (by rw [h1]; rfl) rfl
  · refine V_tabOut X 97 dX5_count_1 h1 (by decide) ?_
    refine V_iconst X (-1) dX5_count_97 (by decide) ?_
    exact V_iret X E dX5_count_98 (ctF_out h1) rfl

def ofZ (S : Sx) (x : Int32) (z : Nat) : Nat := if ofB (S 19) x z then z else if (ofS S x z).2 < 36 then (ofS S x z).2 + 1 else z
theorem ofF_z {S : Sx} {x : Int32} {z : Nat} (hz : S 18 1 = nI z) : ofF S x z 18 1 = nI (ofZ S x z) := by
  unfold ofF ofZ; split
  · exact hz
  · unfold ofE; split
    · simp only [st_at]; simp
    · rw [ofS_18]; exact hz
theorem ofZ_le (S : Sx) (x : Int32) (z : Nat) : ofZ S x z ≤ z + 1 := by
  have := ofS_le S x z
  unfold ofZ; split <;> (try split) <;> omega
theorem ofS_ne {q : Nat} (h : q ≠ 19) (S : Sx) (x : Int32) : ∀ i, (ofS S x i).1 q = S q
  | 0 => rfl
  | i + 1 => by unfold ofS; split; exact ofS_ne h S x i; dsimp only; rw [st_ne h]; exact ofS_ne h S x i
theorem ofF_ne {S : Sx} {x : Int32} {z q : Nat} (h1 : q ≠ 18) (h2 : q ≠ 19) : ofF S x z q = S q := by
  unfold ofF; split
  · rfl
  · unfold ofE; split
    · rw [st_ne h1, st_ne h1, st_ne h2, ofS_ne h2]
    · rw [ofS_ne h2]
def cvS (S : Sx) (n : Nat) : Nat → Sx × Nat
  | 0 => (st (st S 18 1 (nI 0)) 18 2 (nI 0), 0)
  | i + 1 => (ofF (cvS S n i).1 (S (65 + n) i) (cvS S n i).2, ofZ (cvS S n i).1 (S (65 + n) i) (cvS S n i).2)
theorem cvS_z (S : Sx) (n : Nat) : ∀ i, (cvS S n i).1 18 1 = nI (cvS S n i).2
  | 0 => by simp only [cvS, st_at]; simp
  | i + 1 => ofF_z (cvS_z S n i)
theorem cvS_le (S : Sx) (n : Nat) : ∀ i, (cvS S n i).2 ≤ i
  | 0 => Nat.le_refl _
  | i + 1 => by have := ofZ_le (cvS S n i).1 (S (65 + n) i) (cvS S n i).2; have := cvS_le S n i; show ofZ _ _ _ ≤ _; omega
theorem cvS_ne {S : Sx} {n q : Nat} (h1 : q ≠ 18) (h2 : q ≠ 19) : ∀ i, (cvS S n i).1 q = S q
  | 0 => by show st _ _ _ _ q = _; rw [st_ne h1, st_ne h1]
  | i + 1 => (ofF_ne h1 h2).trans (cvS_ne h1 h2 i)

set_option maxRecDepth 100000 in
set_option maxHeartbeats 4000000 in
theorem kX5_fewest {G : Cx} {S : Sx} (hN : 80 ≤ gN G) {n : Nat} (hn : S 1 2 = nI n) (hn14 : n ≤ 14) (hall : ∃ m, m < 16384 ∧ (cvS S n 36).1 18 2 = nI m) : CT G (21) yX5_fewest cX5_fewest 2 (some .int) [ra G 0] S (nI (lsF ((cvS S n 36).1 19) (cvS S n 36).2 ((cvS S n 36).1 18 2) 14 0)) ((cvS S n 36).1) := by
  refine CT_of (by decide) (Nat.le_of_ble_eq_true rfl) (by intro v hv; simp only [List.mem_cons, List.not_mem_nil, or_false] at hv; rcases hv with rfl <;> rfl) (fun F X E => ?_)
  have hR := RI_R E
  have loop : ∀ (f i : Nat) (S1 : Sx), i ≤ 36 → 36 - i < f → S1 = (cvS S n i).1 → V F G S1 9 [some (ra G 0), some (.int (nI i))] [] := by
    intro f
    induction f with
    | zero => intro i S1 h1 h2; omega
    | succ f ih =>
      intro i S1 h1 h2 hs
      refine V_iload_n X dX5_fewest_9 rfl ?_
      refine V_bipush X (nI 36) dX5_fewest_10 (by decide) ?_
      refine V_cN_ge X 45 (by omega) (by omega) dX5_fewest_12 (by decide) (fun h12 => ?_) (fun h12 => ?_)
      · refine V_aload_n X dX5_fewest_45 rfl ?_
        refine V_getr X flX5_40 (ltN (by decide) hN) rfl rfl dX5_fewest_46 ?_
        refine V_cvi X (ltN (by decide) hN) rfl rfl rfl (kX0_least hN (by rw [hs]; exact cvS_z S n i) (by have := cvS_le S n i; omega) rfl (by rw [hs, show i = 36 by omega]; exact hall) rfl) cwX5_123 rfl (rm_ok hR (by decide) (by decide)) (Nat.le_of_ble_eq_true rfl) dX5_fewest_49 ?_
        exact V_iret X E dX5_fewest_52 (by rw [hs, show i = 36 by omega]) (by rw [hs, show i = 36 by omega])
      · refine V_aload_n X dX5_fewest_15 rfl ?_
        refine V_getr X flX5_40 (ltN (by decide) hN) rfl rfl dX5_fewest_16 ?_
        refine V_aload_n X dX5_fewest_19 rfl ?_
        refine V_getr X flX5_33 (ltN (by decide) hN) rfl rfl dX5_fewest_20 ?_
        refine V_getNr X fnX5_114 (ltN (by decide) hN) rfl rfl dX5_fewest_23 ?_
        refine V_aload_n X dX5_fewest_26 rfl ?_
        refine V_getr X flX5_12 (ltN (by decide) hN) rfl rfl dX5_fewest_27 ?_
        refine V_getNi X fnX5_73 (ltN (by decide) hN) rfl rfl dX5_fewest_30 ?_
        refine V_top (nI (n)) (by rw [hs, cvS_ne (by decide) (by decide)]; exact hn) ?_
        refine V_aaldN X (ltN (by decide) hN) rfl (by omega) dX5_fewest_33 ?_
        refine V_iload_n X dX5_fewest_34 rfl ?_
        refine V_ialdN X (ltN (by omega) hN) (ds_fnd (by omega) (by omega)) (by omega) (by decide) dX5_fewest_35 ?_
        refine V_cvv X (ltN (by decide) hN) rfl rfl rfl (kX0_offer hN (by rw [hs]; exact cvS_z S n i) (by have := cvS_le S n i; omega)) cwX5_120 rfl (rm_ok hR (by decide) (by decide)) (Nat.le_of_ble_eq_true rfl) dX5_fewest_36 ?_
        refine V_iinc X (nI (_ + 1)) dX5_fewest_39 (by rw [hR.2]; decide) rfl (nI_add _ 1) ?_
        refine V_goto X 9 dX5_fewest_42 (by decide) ?_
        exact ih (i + 1) _ (by omega) (by omega) (by rw [hs, cvS_ne (show 65 + n ≠ 18 by omega) (show 65 + n ≠ 19 by omega)]; rfl)
  refine V_aload_n X dX5_fewest_0 rfl ?_
  refine V_getr X flX5_40 (ltN (by decide) hN) rfl rfl dX5_fewest_1 ?_
  refine V_cvv X (ltN (by decide) hN) rfl rfl rfl (kX0_clear hN) cwX5_117 rfl (rm_ok hR (by decide) (by decide)) (Nat.le_of_ble_eq_true rfl) dX5_fewest_4 ?_
  refine V_iconst X (nI 0) dX5_fewest_7 (by decide) ?_
  refine V_istore_n X dX5_fewest_8 (by rw [hR.2]; decide) ?_
  exact loop 37 0 _ (by omega) (by omega) rfl
end
section
abbrev inP (v lo hi : Int32) : Prop := lo ≤ v ∧ v ≤ hi
set_option maxRecDepth 100000 in
set_option maxHeartbeats 4000000 in
theorem kX6_in {G : Cx} {S : Sx}  {v lo hi : Int32} : CT G (0) yX6_in cX6_in 3 (some .boolean) [.int v, .int lo, .int hi] S (bi (inP v lo hi)) (S) := by
  refine CT_of (by decide) (Nat.le_of_ble_eq_true rfl) (by intro v hv; simp only [List.mem_cons, List.not_mem_nil, or_false] at hv; rcases hv with rfl | rfl | rfl <;> rfl) (fun F X E => ?_)
  have hR := RI_R E
  refine V_iload_n X dX6_in_0 rfl ?_
  refine V_iload_n X dX6_in_1 rfl ?_
  refine V_icmp_lt X 14 dX6_in_2 (by decide) (fun h2 => ?_) (fun h2 => ?_)
  · refine V_iconst X (nI 0) dX6_in_14 (by decide) ?_
    exact V_zret X E dX6_in_15 (by first | exact Or.inl rfl | exact Or.inr rfl | exact bi_01 _) (bi_f (fun q => absurd q.1 (Int32.not_le.mpr h2))) rfl
  · refine V_iload_n X dX6_in_5 rfl ?_
    refine V_iload_n X dX6_in_6 rfl ?_
    refine V_icmp_gt X 14 dX6_in_7 (by decide) (fun h7 => ?_) (fun h7 => ?_)
    · refine V_iconst X (nI 0) dX6_in_14 (by decide) ?_
      exact V_zret X E dX6_in_15 (by first | exact Or.inl rfl | exact Or.inr rfl | exact bi_01 _) (by first | exact bi_t ⟨Int32.not_lt.mp h2, Int32.not_lt.mp h7⟩ | exact bi_f (fun q => absurd q.2 (Int32.not_le.mpr h7))) rfl
    · refine V_iconst X (nI 1) dX6_in_10 (by decide) ?_
      refine V_goto X 15 dX6_in_11 (by decide) ?_
      exact V_zret X E dX6_in_15 (by first | exact Or.inl rfl | exact Or.inr rfl | exact bi_01 _) (by first | exact bi_t ⟨Int32.not_lt.mp h2, Int32.not_lt.mp h7⟩ | exact bi_f (fun q => absurd q.2 (Int32.not_le.mpr h7))) rfl

set_option maxRecDepth 100000 in
set_option maxHeartbeats 4000000 in
theorem kX6_signAt {G : Cx} {S : Sx} (hN : 88 ≤ gN G) {s i : Nat} (hs : s < 15) (hi : i < 5) : CT G (0) yX6_signAt cX6_signAt 3 (some .int) [ra G 80, .int (nI s), .int (nI i)] S (S 81 (s * 5 + i)) (S) := by
  refine CT_of (by decide) (Nat.le_of_ble_eq_true rfl) (by intro v hv; simp only [List.mem_cons, List.not_mem_nil, or_false] at hv; rcases hv with rfl | rfl | rfl <;> rfl) (fun F X E => ?_)
  have hR := RI_R E
  refine V_aload_n X dX6_signAt_0 rfl ?_
  refine V_getr X flX6_9 (ltN (by decide) hN) rfl rfl dX6_signAt_1 ?_
  refine V_iconst X (nI 5) dX6_signAt_4 (by decide) ?_
  refine V_iload_n X dX6_signAt_5 rfl ?_
  refine V_mulN X dX6_signAt_6 ?_
  refine V_iload_n X dX6_signAt_7 rfl ?_
  refine V_addN X dX6_signAt_8 ?_
  refine V_ialdN X (ltN (by decide) hN) rfl (by omega) (by decide) dX6_signAt_9 ?_
  exact V_iret X E dX6_signAt_10 (by rw [Nat.mul_comm]) rfl

theorem in_lt {x : Int32} {a b : Nat} (ha : a < 1000) (hb : b < 1000) : inP x (nI a) (nI b) ↔ (nI a ≤ x ∧ x < nI (b + 1)) := by
  unfold inP; rw [i_le, i_le, i_lt, t_k b (by omega), t_k (b + 1) (by omega)]; omega
set_option maxRecDepth 100000 in
set_option maxHeartbeats 4000000 in
theorem kX6_isWho {G : Cx} {S : Sx}  {x : Int32} : CT G (1) yX6_isWho cX6_isWho 1 (some .boolean) [.int x] S (bi (isW x)) (S) := by
  refine CT_of (by decide) (Nat.le_of_ble_eq_true rfl) (by intro v hv; simp only [List.mem_cons, List.not_mem_nil, or_false] at hv; rcases hv with rfl <;> rfl) (fun F X E => ?_)
  have hR := RI_R E
  refine V_iload_n X dX6_isWho_0 rfl ?_
  refine V_iconst X (nI 0) dX6_isWho_1 (by decide) ?_
  refine V_bipush X (nI 7) dX6_isWho_2 (by decide) ?_
  refine V_csi X (kX6_in ) cwX6_31 rfl (rm_ok hR (by decide) (by decide)) (Nat.le_of_ble_eq_true rfl) dX6_isWho_4 ?_
  refine V_if_ne X 22 dX6_isWho_7 (by decide) (fun h7 => ?_) (fun h7 => ?_)
  · refine V_iconst X (nI 1) dX6_isWho_22 (by decide) ?_
    refine V_goto X 27 dX6_isWho_23 (by decide) ?_
    exact V_zret X E dX6_isWho_27 (by first | exact Or.inl rfl | exact Or.inr rfl | exact bi_01 _) (bi_t (Or.inl ((in_lt (by decide) (by decide)).mp (bi_ne.mp h7)))) rfl
  · refine V_iload_n X dX6_isWho_10 rfl ?_
    refine V_bipush X (nI 40) dX6_isWho_11 (by decide) ?_
    refine V_icmp_eq X 22 dX6_isWho_13 (by decide) (fun h13 => ?_) (fun h13 => ?_)
    · refine V_iconst X (nI 1) dX6_isWho_22 (by decide) ?_
      refine V_goto X 27 dX6_isWho_23 (by decide) ?_
      exact V_zret X E dX6_isWho_27 (by first | exact Or.inl rfl | exact Or.inr rfl | exact bi_01 _) (bi_t (Or.inr (Or.inl h13))) rfl
    · refine V_iload_n X dX6_isWho_16 rfl ?_
      refine V_bipush X (nI 41) dX6_isWho_17 (by decide) ?_
      refine V_icmp_ne X 26 dX6_isWho_19 (by decide) (fun h19 => ?_) (fun h19 => ?_)
      · refine V_iconst X (nI 0) dX6_isWho_26 (by decide) ?_
        exact V_zret X E dX6_isWho_27 (by first | exact Or.inl rfl | exact Or.inr rfl | exact bi_01 _) (by first | exact bi_t (Or.inr (Or.inr (ts_nn h19))) | exact bi_f (fun q => q.elim (fun z => h7 (bi_ne.mpr ((in_lt (by decide) (by decide)).mpr z))) (fun q => q.elim h13 h19))) rfl
      · refine V_iconst X (nI 1) dX6_isWho_22 (by decide) ?_
        refine V_goto X 27 dX6_isWho_23 (by decide) ?_
        exact V_zret X E dX6_isWho_27 (by first | exact Or.inl rfl | exact Or.inr rfl | exact bi_01 _) (by first | exact bi_t (Or.inr (Or.inr (ts_nn h19))) | exact bi_f (fun q => q.elim (fun z => h7 (bi_ne.mpr ((in_lt (by decide) (by decide)).mpr z))) (fun q => q.elim h13 h19))) rfl

set_option maxRecDepth 100000 in
set_option maxHeartbeats 4000000 in
theorem kX6_canStand {G : Cx} {S : Sx} (hN : 88 ≤ gN G) {x : Int32} {n b : Nat} (hn : S 80 0 = nI n) (hb : S 82 n = nI b) (hn14 : n < 14) (hb5 : b < 5) : CT G (2) yX6_canStand cX6_canStand 4 (some .boolean) [ra G 80, .int x] S (fitF n b (S 81) x) (S) := by
  refine CT_of (by decide) (Nat.le_of_ble_eq_true rfl) (by intro v hv; simp only [List.mem_cons, List.not_mem_nil, or_false] at hv; rcases hv with rfl | rfl <;> rfl) (fun F X E => ?_)
  have hR := RI_R E
  refine V_aload_n X dX6_canStand_0 rfl ?_
  refine V_getr X flX6_13 (ltN (by decide) hN) rfl rfl dX6_canStand_1 ?_
  refine V_aload_n X dX6_canStand_4 rfl ?_
  refine V_geti X flX6_35 (ltN (by decide) hN) rfl rfl dX6_canStand_5 ?_
  refine V_top (nI (n)) (by first | exact hn | (simp only [st_at]; simp; exact hn)) ?_
  refine V_ialdN X (ltN (by decide) hN) rfl (by omega) (by decide) dX6_canStand_8 ?_
  refine V_top (nI (b)) (hb) ?_
  refine V_istore_n X dX6_canStand_9 (by rw [hR.2]; decide) ?_
  refine V_iload_n X dX6_canStand_10 rfl ?_
  refine V_iconst X (nI 1) dX6_canStand_11 (by decide) ?_
  refine V_cN_le X 27 (by omega) (by omega) dX6_canStand_12 (by decide) (fun h12 => ?_) (fun h12 => ?_)
  · refine V_iconst X (nI 0) dX6_canStand_27 (by decide) ?_
    refine V_istore_n X dX6_canStand_28 (by rw [hR.2]; decide) ?_
    refine V_iload_n X dX6_canStand_29 rfl ?_
    rcases (show b = 0 ∨ b = 1 ∨ b = 2 ∨ b = 3 ∨ 3 < b by omega) with rfl | rfl | rfl | rfl | h30
    · refine V_tabIn X 30 60 dX6_canStand_30 (by decide) (by decide) rfl (by decide) ?_
      refine V_iload_n X dX6_canStand_60 rfl ?_
      refine V_csi X (kX6_isWho ) cwX6_43 rfl (rm_ok hR (by decide) (by decide)) (Nat.le_of_ble_eq_true rfl) dX6_canStand_61 ?_
      exact V_zret X E dX6_canStand_64 (by first | exact Or.inl rfl | exact Or.inr rfl | exact bi_01 _) (fitF_0 hn14) rfl
    · refine V_tabIn X 35 65 dX6_canStand_30 (by decide) (by decide) rfl (by decide) ?_
      refine V_iload_n X dX6_canStand_65 rfl ?_
      refine V_bipush X (nI 30) dX6_canStand_66 (by decide) ?_
      refine V_bipush X (nI 33) dX6_canStand_68 (by decide) ?_
      refine V_csi X (kX6_in ) cwX6_31 rfl (rm_ok hR (by decide) (by decide)) (Nat.le_of_ble_eq_true rfl) dX6_canStand_70 ?_
      exact V_zret X E dX6_canStand_73 (by first | exact Or.inl rfl | exact Or.inr rfl | exact bi_01 _) (fitF_1 hn14) rfl
    · refine V_tabIn X 44 74 dX6_canStand_30 (by decide) (by decide) rfl (by decide) ?_
      refine V_iload_n X dX6_canStand_74 rfl ?_
      refine V_bipush X (nI 30) dX6_canStand_75 (by decide) ?_
      refine V_cN_ne X 91 (by omega) (by omega) dX6_canStand_77 (by decide) (fun h77 => ?_) (fun h77 => ?_)
      · refine V_iload_n X dX6_canStand_91 rfl ?_
        refine V_bipush X (nI 10) dX6_canStand_92 (by decide) ?_
        refine V_bipush X (nI 19) dX6_canStand_94 (by decide) ?_
        refine V_csi X (kX6_in ) cwX6_31 rfl (rm_ok hR (by decide) (by decide)) (Nat.le_of_ble_eq_true rfl) dX6_canStand_96 ?_
        exact V_zret X E dX6_canStand_99 (by first | exact Or.inl rfl | exact Or.inr rfl | exact bi_01 _) (by first | (exfalso; omega) | exact (bi_congr (in_lt (by decide) (by decide))).trans (fitF_2 hn14 (ts_nn h77)) | exact (bi_congr (in_lt (by decide) (by decide))).trans (fitF_2n hn14 h77)) rfl
      · refine V_iload_n X dX6_canStand_80 rfl ?_
        refine V_bipush X (nI 20) dX6_canStand_81 (by decide) ?_
        refine V_bipush X (nI 27) dX6_canStand_83 (by decide) ?_
        refine V_csi X (kX6_in ) cwX6_31 rfl (rm_ok hR (by decide) (by decide)) (Nat.le_of_ble_eq_true rfl) dX6_canStand_85 ?_
        refine V_goto X 99 dX6_canStand_88 (by decide) ?_
        exact V_zret X E dX6_canStand_99 (by first | exact Or.inl rfl | exact Or.inr rfl | exact bi_01 _) (by first | (exfalso; omega) | exact (bi_congr (in_lt (by decide) (by decide))).trans (fitF_2 hn14 (ts_nn h77)) | exact (bi_congr (in_lt (by decide) (by decide))).trans (fitF_2n hn14 h77)) rfl
    · refine V_tabIn X 70 100 dX6_canStand_30 (by decide) (by decide) rfl (by decide) ?_
      refine V_iload_n X dX6_canStand_100 rfl ?_
      refine V_bipush X (nI 33) dX6_canStand_101 (by decide) ?_
      refine V_cN_ne X 113 (by omega) (by omega) dX6_canStand_103 (by decide) (fun h103 => ?_) (fun h103 => ?_)
      · refine V_iload_n X dX6_canStand_113 rfl ?_
        refine V_bipush X (nI 50) dX6_canStand_114 (by decide) ?_
        refine V_icmp_ne X 123 dX6_canStand_116 (by decide) (fun h116 => ?_) (fun h116 => ?_)
        · refine V_iconst X (nI 0) dX6_canStand_123 (by decide) ?_
          exact V_zret X E dX6_canStand_124 (by first | exact Or.inl rfl | exact Or.inr rfl | exact bi_01 _) (by first | (exfalso; omega) | exact (Eq.trans (by first | exact bi_t (ts_nn h116) | exact bi_f h116) (fitF_3n hn14 h103))) rfl
        · refine V_iconst X (nI 1) dX6_canStand_119 (by decide) ?_
          refine V_goto X 124 dX6_canStand_120 (by decide) ?_
          exact V_zret X E dX6_canStand_124 (by first | exact Or.inl rfl | exact Or.inr rfl | exact bi_01 _) (by first | (exfalso; omega) | exact (Eq.trans (by first | exact bi_t (ts_nn h116) | exact bi_f h116) (fitF_3n hn14 h103))) rfl
      · refine V_iload_n X dX6_canStand_106 rfl ?_
        refine V_csi X (kX6_isWho ) cwX6_43 rfl (rm_ok hR (by decide) (by decide)) (Nat.le_of_ble_eq_true rfl) dX6_canStand_107 ?_
        refine V_goto X 124 dX6_canStand_110 (by decide) ?_
        exact V_zret X E dX6_canStand_124 (by first | exact Or.inl rfl | exact Or.inr rfl | exact bi_01 _) (by first | (exfalso; omega) | exact fitF_3 hn14 (ts_nn h103)) rfl
    · refine V_tabOut X 125 dX6_canStand_30 (Or.inr (by rw [nI_toInt (by omega)]; omega)) (by decide) ?_
      refine V_iload_n X dX6_canStand_125 rfl ?_
      refine V_bipush X (nI 50) dX6_canStand_126 (by decide) ?_
      refine V_icmp_ne X 135 dX6_canStand_128 (by decide) (fun h128 => ?_) (fun h128 => ?_)
      · refine V_iconst X (nI 0) dX6_canStand_135 (by decide) ?_
        exact V_zret X E dX6_canStand_136 (by first | exact Or.inl rfl | exact Or.inr rfl | exact bi_01 _) (Eq.trans (by first | exact bi_t (ts_nn h128) | exact bi_f h128) (fitF_4 hn14 (by omega))) rfl
      · refine V_iconst X (nI 1) dX6_canStand_131 (by decide) ?_
        refine V_goto X 136 dX6_canStand_132 (by decide) ?_
        exact V_zret X E dX6_canStand_136 (by first | exact Or.inl rfl | exact Or.inr rfl | exact bi_01 _) (Eq.trans (by first | exact bi_t (ts_nn h128) | exact bi_f h128) (fitF_4 hn14 (by omega))) rfl
  · refine V_aload_n X dX6_canStand_15 rfl ?_
    refine V_aload_n X dX6_canStand_16 rfl ?_
    refine V_geti X flX6_35 (ltN (by decide) hN) rfl rfl dX6_canStand_17 ?_
    refine V_top (nI (n)) (by first | exact hn | (simp only [st_at]; simp; exact hn)) ?_
    refine V_iconst X (nI 1) dX6_canStand_20 (by decide) ?_
    refine V_cvi X (ltN (by decide) hN) rfl rfl rfl (kX6_signAt hN (by omega) (by omega)) cwX6_39 rfl (rm_ok hR (by decide) (by decide)) (Nat.le_of_ble_eq_true rfl) dX6_canStand_21 ?_
    refine V_goto X 28 dX6_canStand_24 (by decide) ?_
    refine V_istore_n X dX6_canStand_28 (by rw [hR.2]; decide) ?_
    refine V_iload_n X dX6_canStand_29 rfl ?_
    rcases (show b = 0 ∨ b = 1 ∨ b = 2 ∨ b = 3 ∨ 3 < b by omega) with rfl | rfl | rfl | rfl | h30
    · refine V_tabIn X 30 60 dX6_canStand_30 (by decide) (by decide) rfl (by decide) ?_
      refine V_iload_n X dX6_canStand_60 rfl ?_
      refine V_csi X (kX6_isWho ) cwX6_43 rfl (rm_ok hR (by decide) (by decide)) (Nat.le_of_ble_eq_true rfl) dX6_canStand_61 ?_
      exact V_zret X E dX6_canStand_64 (by first | exact Or.inl rfl | exact Or.inr rfl | exact bi_01 _) (fitF_0 hn14) rfl
    · refine V_tabIn X 35 65 dX6_canStand_30 (by decide) (by decide) rfl (by decide) ?_
      refine V_iload_n X dX6_canStand_65 rfl ?_
      refine V_bipush X (nI 30) dX6_canStand_66 (by decide) ?_
      refine V_bipush X (nI 33) dX6_canStand_68 (by decide) ?_
      refine V_csi X (kX6_in ) cwX6_31 rfl (rm_ok hR (by decide) (by decide)) (Nat.le_of_ble_eq_true rfl) dX6_canStand_70 ?_
      exact V_zret X E dX6_canStand_73 (by first | exact Or.inl rfl | exact Or.inr rfl | exact bi_01 _) (fitF_1 hn14) rfl
    · refine V_tabIn X 44 74 dX6_canStand_30 (by decide) (by decide) rfl (by decide) ?_
      refine V_iload_n X dX6_canStand_74 rfl ?_
      refine V_bipush X (nI 30) dX6_canStand_75 (by decide) ?_
      refine V_icmp_ne X 91 dX6_canStand_77 (by decide) (fun h77 => ?_) (fun h77 => ?_)
      · refine V_iload_n X dX6_canStand_91 rfl ?_
        refine V_bipush X (nI 10) dX6_canStand_92 (by decide) ?_
        refine V_bipush X (nI 19) dX6_canStand_94 (by decide) ?_
        refine V_csi X (kX6_in ) cwX6_31 rfl (rm_ok hR (by decide) (by decide)) (Nat.le_of_ble_eq_true rfl) dX6_canStand_96 ?_
        exact V_zret X E dX6_canStand_99 (by first | exact Or.inl rfl | exact Or.inr rfl | exact bi_01 _) (by first | (exfalso; omega) | exact (bi_congr (in_lt (by decide) (by decide))).trans (fitF_2 hn14 (ts_nn h77)) | exact (bi_congr (in_lt (by decide) (by decide))).trans (fitF_2n hn14 h77)) rfl
      · refine V_iload_n X dX6_canStand_80 rfl ?_
        refine V_bipush X (nI 20) dX6_canStand_81 (by decide) ?_
        refine V_bipush X (nI 27) dX6_canStand_83 (by decide) ?_
        refine V_csi X (kX6_in ) cwX6_31 rfl (rm_ok hR (by decide) (by decide)) (Nat.le_of_ble_eq_true rfl) dX6_canStand_85 ?_
        refine V_goto X 99 dX6_canStand_88 (by decide) ?_
        exact V_zret X E dX6_canStand_99 (by first | exact Or.inl rfl | exact Or.inr rfl | exact bi_01 _) (by first | (exfalso; omega) | exact (bi_congr (in_lt (by decide) (by decide))).trans (fitF_2 hn14 (ts_nn h77)) | exact (bi_congr (in_lt (by decide) (by decide))).trans (fitF_2n hn14 h77)) rfl
    · refine V_tabIn X 70 100 dX6_canStand_30 (by decide) (by decide) rfl (by decide) ?_
      refine V_iload_n X dX6_canStand_100 rfl ?_
      refine V_bipush X (nI 33) dX6_canStand_101 (by decide) ?_
      refine V_icmp_ne X 113 dX6_canStand_103 (by decide) (fun h103 => ?_) (fun h103 => ?_)
      · refine V_iload_n X dX6_canStand_113 rfl ?_
        refine V_bipush X (nI 50) dX6_canStand_114 (by decide) ?_
        refine V_icmp_ne X 123 dX6_canStand_116 (by decide) (fun h116 => ?_) (fun h116 => ?_)
        · refine V_iconst X (nI 0) dX6_canStand_123 (by decide) ?_
          exact V_zret X E dX6_canStand_124 (by first | exact Or.inl rfl | exact Or.inr rfl | exact bi_01 _) (by first | (exfalso; omega) | exact (Eq.trans (by first | exact bi_t (ts_nn h116) | exact bi_f h116) (fitF_3n hn14 h103))) rfl
        · refine V_iconst X (nI 1) dX6_canStand_119 (by decide) ?_
          refine V_goto X 124 dX6_canStand_120 (by decide) ?_
          exact V_zret X E dX6_canStand_124 (by first | exact Or.inl rfl | exact Or.inr rfl | exact bi_01 _) (by first | (exfalso; omega) | exact (Eq.trans (by first | exact bi_t (ts_nn h116) | exact bi_f h116) (fitF_3n hn14 h103))) rfl
      · refine V_iload_n X dX6_canStand_106 rfl ?_
        refine V_csi X (kX6_isWho ) cwX6_43 rfl (rm_ok hR (by decide) (by decide)) (Nat.le_of_ble_eq_true rfl) dX6_canStand_107 ?_
        refine V_goto X 124 dX6_canStand_110 (by decide) ?_
        exact V_zret X E dX6_canStand_124 (by first | exact Or.inl rfl | exact Or.inr rfl | exact bi_01 _) (by first | (exfalso; omega) | exact fitF_3 hn14 (ts_nn h103)) rfl
    · refine V_tabOut X 125 dX6_canStand_30 (Or.inr (by rw [nI_toInt (by omega)]; omega)) (by decide) ?_
      refine V_iload_n X dX6_canStand_125 rfl ?_
      refine V_bipush X (nI 50) dX6_canStand_126 (by decide) ?_
      refine V_icmp_ne X 135 dX6_canStand_128 (by decide) (fun h128 => ?_) (fun h128 => ?_)
      · refine V_iconst X (nI 0) dX6_canStand_135 (by decide) ?_
        exact V_zret X E dX6_canStand_136 (by first | exact Or.inl rfl | exact Or.inr rfl | exact bi_01 _) (Eq.trans (by first | exact bi_t (ts_nn h128) | exact bi_f h128) (fitF_4 hn14 (by omega))) rfl
      · refine V_iconst X (nI 1) dX6_canStand_131 (by decide) ?_
        refine V_goto X 136 dX6_canStand_132 (by decide) ?_
        exact V_zret X E dX6_canStand_136 (by first | exact Or.inl rfl | exact Or.inr rfl | exact bi_01 _) (Eq.trans (by first | exact bi_t (ts_nn h128) | exact bi_f h128) (fitF_4 hn14 (by omega))) rfl

abbrev nmP (g : Nat → Int32) (s : Nat) (x : Int32) : Prop := g (s * 5 + 0) = x ∨ (g (s * 5 + 1) = nI 33 ∧ g (s * 5 + 3) = x)
set_option maxRecDepth 100000 in
set_option maxHeartbeats 4000000 in
theorem kX6_names {G : Cx} {S : Sx} (hN : 88 ≤ gN G) {s : Nat} {x : Int32} (hs : s < 15) : CT G (1) yX6_names cX6_names 3 (some .boolean) [ra G 80, .int (nI s), .int x] S (bi (nmP (S 81) s x)) (S) := by
  refine CT_of (by decide) (Nat.le_of_ble_eq_true rfl) (by intro v hv; simp only [List.mem_cons, List.not_mem_nil, or_false] at hv; rcases hv with rfl | rfl | rfl <;> rfl) (fun F X E => ?_)
  have hR := RI_R E
  refine V_aload_n X dX6_names_0 rfl ?_
  refine V_iload_n X dX6_names_1 rfl ?_
  refine V_iconst X (nI 0) dX6_names_2 (by decide) ?_
  refine V_cvi X (ltN (by decide) hN) rfl rfl rfl (kX6_signAt hN (by omega) (by omega)) cwX6_39 rfl (rm_ok hR (by decide) (by decide)) (Nat.le_of_ble_eq_true rfl) dX6_names_3 ?_
  refine V_iload_n X dX6_names_6 rfl ?_
  refine V_icmp_eq X 31 dX6_names_7 (by decide) (fun h7 => ?_) (fun h7 => ?_)
  · refine V_iconst X (nI 1) dX6_names_31 (by decide) ?_
    refine V_goto X 36 dX6_names_32 (by decide) ?_
    exact V_zret X E dX6_names_36 (by first | exact Or.inl rfl | exact Or.inr rfl | exact bi_01 _) (bi_t (Or.inl h7)) rfl
  · refine V_aload_n X dX6_names_10 rfl ?_
    refine V_iload_n X dX6_names_11 rfl ?_
    refine V_iconst X (nI 1) dX6_names_12 (by decide) ?_
    refine V_cvi X (ltN (by decide) hN) rfl rfl rfl (kX6_signAt hN (by omega) (by omega)) cwX6_39 rfl (rm_ok hR (by decide) (by decide)) (Nat.le_of_ble_eq_true rfl) dX6_names_13 ?_
    refine V_bipush X (nI 33) dX6_names_16 (by decide) ?_
    refine V_icmp_ne X 35 dX6_names_18 (by decide) (fun h18 => ?_) (fun h18 => ?_)
    · refine V_iconst X (nI 0) dX6_names_35 (by decide) ?_
      exact V_zret X E dX6_names_36 (by first | exact Or.inl rfl | exact Or.inr rfl | exact bi_01 _) (bi_f (fun q => q.elim h7 (fun z => h18 z.1))) rfl
    · refine V_aload_n X dX6_names_21 rfl ?_
      refine V_iload_n X dX6_names_22 rfl ?_
      refine V_iconst X (nI 3) dX6_names_23 (by decide) ?_
      refine V_cvi X (ltN (by decide) hN) rfl rfl rfl (kX6_signAt hN (by omega) (by omega)) cwX6_39 rfl (rm_ok hR (by decide) (by decide)) (Nat.le_of_ble_eq_true rfl) dX6_names_24 ?_
      refine V_iload_n X dX6_names_27 rfl ?_
      refine V_icmp_ne X 35 dX6_names_28 (by decide) (fun h28 => ?_) (fun h28 => ?_)
      · refine V_iconst X (nI 0) dX6_names_35 (by decide) ?_
        exact V_zret X E dX6_names_36 (by first | exact Or.inl rfl | exact Or.inr rfl | exact bi_01 _) (by first | exact bi_t (Or.inr ⟨ts_nn h18, ts_nn h28⟩) | exact bi_f (fun q => q.elim h7 (fun z => h28 z.2))) rfl
      · refine V_iconst X (nI 1) dX6_names_31 (by decide) ?_
        refine V_goto X 36 dX6_names_32 (by decide) ?_
        exact V_zret X E dX6_names_36 (by first | exact Or.inl rfl | exact Or.inr rfl | exact bi_01 _) (by first | exact bi_t (Or.inr ⟨ts_nn h18, ts_nn h28⟩) | exact bi_f (fun q => q.elim h7 (fun z => h28 z.2))) rfl

def anN (g : Nat → Int32) (k t : Nat) : Bool := decide (nmP g k (nI t)) || decide (nmP g k (nI (t + 2))) || decide (nmP g k (nI (t + 4))) || decide (nmP g k (nI (t + 6)))
/-- any of the persons t, t+2, .. below 8, from t + 2 * j on, or already found -/
def anM (g : Nat → Int32) (k t : Nat) : Nat → Nat → Bool → Bool
  | 0, _, b => b
  | m + 1, j, b => anM g k t m (j + 1) (b || decide (nmP g k (nI (t + 2 * j))))
theorem anM_N (g : Nat → Int32) (k t : Nat) : anM g k t 4 0 false = anN g k t := by
  rfl
def mmL (g : Nat → Int32) (t p : Nat) : Nat → Int32
  | 0 => nI 0
  | k + 1 => if anN g k t then bi (nmP g k (nI p)) else mmL g t p k
def mmF (g : Nat → Int32) (a s p : Nat) : Int32 := if a < 8 then bi (a = p) else if p % 2 = a - 40 then mmL g (a - 40) p s else nI 0
theorem mmL_01 (g : Nat → Int32) (t p : Nat) : ∀ k, mmL g t p k = 0 ∨ mmL g t p k = 1
  | 0 => Or.inl rfl
  | k + 1 => by unfold mmL; split; exact bi_01 _; exact mmL_01 g t p k
theorem bi_bb {P : Prop} [Decidable P] : bi P = bb (decide P) := by unfold bi bb; by_cases h : P <;> simp [h] <;> rfl
theorem bb_or (a : Bool) (b : Bool) (h : a = true) : nI 1 = bb (a || b) := by rw [h]; rfl

set_option maxRecDepth 100000 in
set_option maxHeartbeats 4000000 in
theorem kX6_mayMean_h {G : Cx} {S : Sx} (hN : 88 ≤ gN G) {t s p : Nat} (ht : t < 2) (hs : s ≤ 14) (hp : p < 8) : CT G (2) yX6_mayMean cX6_mayMean 7 (some .boolean) [ra G 80, .int (nI (40 + t)), .int (nI s), .int (nI p)] S (if p % 2 = t then mmL (S 81) t p s else nI 0) (S) := by
  refine CT_of (by decide) (Nat.le_of_ble_eq_true rfl) (by intro v hv; simp only [List.mem_cons, List.not_mem_nil, or_false] at hv; rcases hv with rfl | rfl | rfl | rfl <;> rfl) (fun F X E => ?_)
  have hR := RI_R E
  have loopA : ∀ (k : Nat), k < 14 → ∀ {r0 : Bool}, (∀ (b : Bool) (w : Option Value), b = r0 → V F G S 84 [some (ra G 80), some (.int (nI (40 + t))), some (.int (nI s)), some (.int (nI p)), some (.int (nI k)), some (.int (bb b)), w] []) → ∀ (m j : Nat) (b : Bool), j + m = 4 → anM (S 81) k t m j b = r0 → V F G S 48 [some (ra G 80), some (.int (nI (40 + t))), some (.int (nI s)), some (.int (nI p)), some (.int (nI k)), some (.int (bb b)), some (.int (nI (t + 2 * j)))] [] := by
    intro k hk r0 kx m
    induction m with
    | zero =>
      intro j b hj hr
      refine V_iload X dX6_mayMean_48 rfl ?_
      refine V_bipush X (nI 8) dX6_mayMean_50 (by decide) ?_
      refine V_cN_ge X 84 (by omega) (by omega) dX6_mayMean_52 (by decide) (fun h52 => ?_) (fun h52 => ?_)
      · exact kx _ _ hr
      · omega
    | succ m ih =>
      intro j b hj hr
      refine V_iload X dX6_mayMean_48 rfl ?_
      refine V_bipush X (nI 8) dX6_mayMean_50 (by decide) ?_
      refine V_cN_ge X 84 (by omega) (by omega) dX6_mayMean_52 (by decide) (fun h52 => ?_) (fun h52 => ?_)
      · omega
      · refine V_iload X dX6_mayMean_55 rfl ?_
        refine V_if_ne X 71 dX6_mayMean_57 (by decide) (fun h57 => ?_) (fun h57 => ?_)
        · refine V_iconst X (nI 1) dX6_mayMean_71 (by decide) ?_
          refine V_top (bb (b || decide (nmP (S 81) k (nI (t + 2 * j))))) (by rw [bb_n.mp h57]; rfl) ?_
          refine V_goto X 76 dX6_mayMean_72 (by decide) ?_
          refine V_istore X dX6_mayMean_76 (by rw [hR.2]; decide) ?_
          refine V_iinc X (nI (_ + 2)) dX6_mayMean_78 (by rw [hR.2]; decide) rfl (nI_add _ 2) ?_
          refine V_goto X 48 dX6_mayMean_81 (by decide) ?_
          rw [show t + 2 * j + 2 = t + 2 * (j + 1) by omega]
          exact ih (j + 1) _ (by omega) hr
        · refine V_aload_n X dX6_mayMean_60 rfl ?_
          refine V_iload X dX6_mayMean_61 rfl ?_
          refine V_iload X dX6_mayMean_63 rfl ?_
          refine V_cvi X (ltN (by decide) hN) rfl rfl rfl (kX6_names hN (by omega)) cwX6_57 rfl (rm_ok hR (by decide) (by decide)) (Nat.le_of_ble_eq_true rfl) dX6_mayMean_65 ?_
          refine V_if_eq X 75 dX6_mayMean_68 (by decide) (fun h68 => ?_) (fun h68 => ?_)
          · refine V_iconst X (nI 0) dX6_mayMean_75 (by decide) ?_
            refine V_top (bb (b || decide (nmP (S 81) k (nI (t + 2 * j))))) (by rw [bb_0.mp (ts_nn h57), decide_eq_false (bi_eq.mp h68)]; rfl) ?_
            refine V_istore X dX6_mayMean_76 (by rw [hR.2]; decide) ?_
            refine V_iinc X (nI (_ + 2)) dX6_mayMean_78 (by rw [hR.2]; decide) rfl (nI_add _ 2) ?_
            refine V_goto X 48 dX6_mayMean_81 (by decide) ?_
            rw [show t + 2 * j + 2 = t + 2 * (j + 1) by omega]
            exact ih (j + 1) _ (by omega) hr
          · refine V_iconst X (nI 1) dX6_mayMean_71 (by decide) ?_
            refine V_top (bb (b || decide (nmP (S 81) k (nI (t + 2 * j))))) (by rw [decide_eq_true (Classical.byContradiction (fun z => h68 (bi_eq.mpr z))), Bool.or_true]; rfl) ?_
            refine V_goto X 76 dX6_mayMean_72 (by decide) ?_
            refine V_istore X dX6_mayMean_76 (by rw [hR.2]; decide) ?_
            refine V_iinc X (nI (_ + 2)) dX6_mayMean_78 (by rw [hR.2]; decide) rfl (nI_add _ 2) ?_
            refine V_goto X 48 dX6_mayMean_81 (by decide) ?_
            rw [show t + 2 * j + 2 = t + 2 * (j + 1) by omega]
            exact ih (j + 1) _ (by omega) hr
  have loopB : ∀ {r : Int32}, (E : RI F G 2 (some .boolean) 7 r S) → ∀ (k : Nat) (u w : Option Value), k ≤ 14 → mmL (S 81) t p k = r → V F G S 34 [some (ra G 80), some (.int (nI (40 + t))), some (.int (nI s)), some (.int (nI p)), some (.int (dv k)), u, w] [] := by
    intro r E k
    induction k with
    | zero =>
      intro u w hk hr
      refine V_iload X dX6_mayMean_34 rfl ?_
      refine V_if_lt X 103 dX6_mayMean_36 (by decide) (fun h36 => ?_) (fun h36 => ?_)
      · refine V_iconst X (nI 0) dX6_mayMean_103 (by decide) ?_
        exact V_zret X E dX6_mayMean_104 (by first | exact Or.inl rfl | exact Or.inr rfl | exact bi_01 _) hr rfl
      · exact absurd dv_0 h36
    | succ k ih =>
      intro u w hk hr
      rw [dv_s]
      refine V_iload X dX6_mayMean_34 rfl ?_
      refine V_iN_lt X 103 (by omega) dX6_mayMean_36 (by decide) ?_
      refine V_iconst X (nI 0) dX6_mayMean_39 (by decide) ?_
      refine V_top (bb false) (rfl) ?_
      refine V_istore X dX6_mayMean_40 (by rw [hR.2]; decide) ?_
      refine V_iload_n X dX6_mayMean_42 rfl ?_
      refine V_bipush X (nI 40) dX6_mayMean_43 (by decide) ?_
      refine V_subN X dX6_mayMean_45 (by omega) ?_
      refine V_top (nI (t + 2 * 0)) (congrArg nI (by omega)) ?_
      refine V_istore X dX6_mayMean_46 (by rw [hR.2]; decide) ?_
      refine loopA k (by omega) (r0 := anM (S 81) k t 4 0 false) (fun b w2 hb => ?_) 4 0 false rfl rfl
      refine V_iload X dX6_mayMean_84 rfl ?_
      refine V_if_eq X 97 dX6_mayMean_86 (by decide) (fun h86 => ?_) (fun h86 => ?_)
      · refine V_iinc X (dv _) dX6_mayMean_97 (by rw [hR.2]; decide) rfl (dv_m _) ?_
        refine V_goto X 34 dX6_mayMean_100 (by decide) ?_
        exact ih _ _ (by omega) (by rw [mmL, if_neg (by rw [← anM_N, ← hb, bb_0.mp h86]; decide)] at hr; exact hr)
      · refine V_aload_n X dX6_mayMean_89 rfl ?_
        refine V_iload X dX6_mayMean_90 rfl ?_
        refine V_iload_n X dX6_mayMean_92 rfl ?_
        refine V_cvi X (ltN (by decide) hN) rfl rfl rfl (kX6_names hN (by omega)) cwX6_57 rfl (rm_ok hR (by decide) (by decide)) (Nat.le_of_ble_eq_true rfl) dX6_mayMean_93 ?_
        exact V_zret X E dX6_mayMean_96 (by first | exact Or.inl rfl | exact Or.inr rfl | exact bi_01 _) (by rw [mmL, if_pos (by rw [← anM_N, ← hb]; exact bb_n.mp h86)] at hr; exact hr) rfl
  refine V_iload_n X dX6_mayMean_0 rfl ?_
  refine V_bipush X (nI 8) dX6_mayMean_1 (by decide) ?_
  refine V_cN_ge X 17 (by omega) (by omega) dX6_mayMean_3 (by decide) (fun h3 => ?_) (fun h3 => ?_)
  · refine V_iload_n X dX6_mayMean_17 rfl ?_
    refine V_iconst X (nI 2) dX6_mayMean_18 (by decide) ?_
    refine V_irem X dX6_mayMean_19 (by decide) ?_
    refine V_top (nI (p % 2)) (pk_rem (by omega) (by decide) (by decide)) ?_
    refine V_iload_n X dX6_mayMean_20 rfl ?_
    refine V_bipush X (nI 40) dX6_mayMean_21 (by decide) ?_
    refine V_subN X dX6_mayMean_23 (by omega) ?_
    refine V_top (nI (t)) (congrArg nI (by omega)) ?_
    refine V_cN_eq X 29 (by omega) (by omega) dX6_mayMean_24 (by decide) (fun h24 => ?_) (fun h24 => ?_)
    · refine V_iload_n X dX6_mayMean_29 rfl ?_
      refine V_iconst X (nI 1) dX6_mayMean_30 (by decide) ?_
      refine V_isub X dX6_mayMean_31 ?_
      refine V_istore X dX6_mayMean_32 (by rw [hR.2]; decide) ?_
      rw [if_pos h24] at E
      exact loopB E s none none hs rfl
    · refine V_iconst X (nI 0) dX6_mayMean_27 (by decide) ?_
      exact V_zret X E dX6_mayMean_28 (by first | exact Or.inl rfl | exact Or.inr rfl | exact bi_01 _) (by rw [if_neg h24]) rfl
  · omega

set_option maxRecDepth 100000 in
set_option maxHeartbeats 4000000 in
theorem kX6_mayMean_p {G : Cx} {S : Sx} (hN : 88 ≤ gN G) {a s p : Nat} (ha : a < 8) (hs : s ≤ 14) (hp : p < 8) : CT G (2) yX6_mayMean cX6_mayMean 7 (some .boolean) [ra G 80, .int (nI a), .int (nI s), .int (nI p)] S (bi (a = p)) (S) := by
  refine CT_of (by decide) (Nat.le_of_ble_eq_true rfl) (by intro v hv; simp only [List.mem_cons, List.not_mem_nil, or_false] at hv; rcases hv with rfl | rfl | rfl | rfl <;> rfl) (fun F X E => ?_)
  have hR := RI_R E
  refine V_iload_n X dX6_mayMean_0 rfl ?_
  refine V_bipush X (nI 8) dX6_mayMean_1 (by decide) ?_
  refine V_cN_ge X 17 (by omega) (by omega) dX6_mayMean_3 (by decide) (fun h3 => ?_) (fun h3 => ?_)
  · omega
  · refine V_iload_n X dX6_mayMean_6 rfl ?_
    refine V_iload_n X dX6_mayMean_7 rfl ?_
    refine V_cN_ne X 15 (by omega) (by omega) dX6_mayMean_8 (by decide) (fun h8 => ?_) (fun h8 => ?_)
    · refine V_iconst X (nI 0) dX6_mayMean_15 (by decide) ?_
      exact V_zret X E dX6_mayMean_16 (by first | exact Or.inl rfl | exact Or.inr rfl | exact bi_01 _) (by first | exact bi_t h8 | exact bi_f h8) rfl
    · refine V_iconst X (nI 1) dX6_mayMean_11 (by decide) ?_
      refine V_goto X 16 dX6_mayMean_12 (by decide) ?_
      exact V_zret X E dX6_mayMean_16 (by first | exact Or.inl rfl | exact Or.inr rfl | exact bi_01 _) (by first | exact bi_t h8 | exact bi_f h8) rfl

theorem kX6_mayMean {G : Cx} {S : Sx} (hN : 88 ≤ gN G) {a s p : Nat} (ha : a < 8 ∨ a = 40 ∨ a = 41) (hs : s ≤ 14) (hp : p < 8) : CT G 2 yX6_mayMean cX6_mayMean 7 (some .boolean) [ra G 80, .int (nI a), .int (nI s), .int (nI p)] S (mmF (S 81) a s p) S := by
  unfold mmF
  rcases ha with ha | rfl | rfl
  · rw [if_pos ha]; exact kX6_mayMean_p hN ha hs hp
  · rw [if_neg (by decide)]; exact kX6_mayMean_h (t := 0) hN (by decide) hs hp
  · rw [if_neg (by decide)]; exact kX6_mayMean_h (t := 1) hN (by decide) hs hp
end
section
abbrev bS (s : Nat) : Int32 := nI 1 <<< (nI s &&& 31)
def wkS (S : Sx) (to s a : Nat) (p : Int32) : Sx := st (st S 84 (to + 0 + a) p) 84 (to + 8 + a) (bS s)
def hsS (S : Sx) (to s a t : Nat) : Sx := st (st (st (st (st S 84 (to + 16 + t) (nI a)) 84 (to + 26 + t) (bS s)) 84 (to + 36 + t) (nI 0)) 84 (to + 46 + t) (-1)) 84 (to + 56 + t) (nI 0)
abbrev othP (S : Sx) (to a t : Nat) : Prop := S 84 (to + 16 + t) ≠ -1 ∧ S 84 (to + 16 + t) ≠ nI a
def tkE (S : Sx) (to s a t : Nat) : Sx := if S 84 (to + 16 + t) = nI a then S else hsS S to s a t
def tkA (S : Sx) (to s a t : Nat) : Sx := st (st S 84 (to + 0 + a) (S 84 (to + 46 + t))) 84 (to + 8 + a) (bS s ||| st S 84 (to + 0 + a) (S 84 (to + 46 + t)) 84 (to + 56 + t))
def tkF (S : Sx) (to s a t : Nat) : Int32 × Sx :=
  if othP S to a t then (nI 0, S) else if S 84 (to + 36 + t) = nI 1 ∧ S 84 (to + 46 + t) ≠ -1 then (if S 84 (to + 0 + a) = -1 then (nI 1, tkE (tkA S to s a t) to s a t) else if S 84 (to + 0 + a) = S 84 (to + 46 + t) then (nI 1, tkE S to s a t) else (nI 0, S)) else (nI 1, tkE S to s a t)
def dp3 (S : Sx) (to t : Nat) : Sx := st (st (st S 84 (to + 16 + t) (-1)) 84 (to + 26 + t) (nI 0)) 84 (to + 36 + t) (nI 1)
def dp5 (S : Sx) (to s a t : Nat) : Sx := st (st (dp3 S to t) 84 (to + 46 + t) (dp3 S to t 84 (to + 0 + a))) 84 (to + 94 + t) (bS s)
def dpE (S : Sx) (to s a t : Nat) : Sx := st (dp5 S to s a t) 84 (to + 56 + t) (bS s ||| (if dp5 S to s a t 84 (to + 0 + a) = -1 then nI 0 else dp5 S to s a t 84 (to + 8 + a)))
def dpF (S : Sx) (to s a t : Nat) : Int32 × Sx := if othP S to a t ∨ S 84 (to + 36 + t) = nI 1 then (nI 0, S) else (nI 1, dpE S to s a t)
def gvA (S : Sx) (to s a b : Nat) : Sx := st (st S 84 (to + 0 + a) (S 84 (to + 0 + b))) 84 (to + 8 + a) (bS s ||| st S 84 (to + 0 + a) (S 84 (to + 0 + b)) 84 (to + 8 + b))
def gvF (S : Sx) (to s a t b : Nat) : Int32 × Sx :=
  if a = b ∨ othP S to a t ∨ S 84 (to + 36 + t) = nI 1 then (nI 0, S)
  else if S 84 (to + 0 + a) = -1 then (if S 84 (to + 0 + b) = -1 then (nI 1, hsS S to s b t) else (nI 1, hsS (gvA S to s a b) to s b t))
  else if S 84 (to + 0 + b) = -1 then (nI 1, hsS (gvA S to s b a) to s b t)
  else if S 84 (to + 0 + a) = S 84 (to + 0 + b) then (nI 1, hsS S to s b t) else (nI 0, S)

set_option maxRecDepth 100000 in
set_option maxHeartbeats 4000000 in
theorem kX6_walks {G : Cx} {S : Sx} (hN : 88 ≤ gN G) {to s a : Nat} (hto : to + 104 ≤ 26624) (ha : a < 8) {p : Int32} : CT G (0) yX6_walks cX6_walks 5 (some .boolean) [ra G 80, .int (nI to), .int (nI s), .int (nI a), .int p] S (nI 1) (wkS S to s a p) := by
  refine CT_of (by decide) (Nat.le_of_ble_eq_true rfl) (by intro v hv; simp only [List.mem_cons, List.not_mem_nil, or_false] at hv; rcases hv with rfl | rfl | rfl | rfl | rfl <;> rfl) (fun F X E => ?_)
  have hR := RI_R E
  refine V_aload_n X dX6_walks_0 rfl ?_
  refine V_getr X flX6_19 (ltN (by decide) hN) rfl rfl dX6_walks_1 ?_
  refine V_iload_n X dX6_walks_4 rfl ?_
  refine V_iconst X (nI 0) dX6_walks_5 (by decide) ?_
  refine V_addN X dX6_walks_6 ?_
  refine V_iload_n X dX6_walks_7 rfl ?_
  refine V_addN X dX6_walks_8 ?_
  refine V_iload X dX6_walks_9 rfl ?_
  refine V_iastN X (ltN (by decide) hN) rfl (by omega) (by decide) dX6_walks_11 ?_
  refine V_aload_n X dX6_walks_12 rfl ?_
  refine V_getr X flX6_19 (ltN (by decide) hN) rfl rfl dX6_walks_13 ?_
  refine V_iload_n X dX6_walks_16 rfl ?_
  refine V_bipush X (nI 8) dX6_walks_17 (by decide) ?_
  refine V_addN X dX6_walks_19 ?_
  refine V_iload_n X dX6_walks_20 rfl ?_
  refine V_addN X dX6_walks_21 ?_
  refine V_iconst X (nI 1) dX6_walks_22 (by decide) ?_
  refine V_iload_n X dX6_walks_23 rfl ?_
  refine V_ishl X dX6_walks_24 ?_
  refine V_iastN X (ltN (by decide) hN) rfl (by omega) (by decide) dX6_walks_25 ?_
  refine V_iconst X (nI 1) dX6_walks_26 (by decide) ?_
  exact V_zret X E dX6_walks_27 (by first | exact Or.inl rfl | exact Or.inr rfl | exact bi_01 _) rfl rfl

set_option maxRecDepth 100000 in
set_option maxHeartbeats 4000000 in
theorem kX6_isOthers {G : Cx} {S : Sx} (hN : 88 ≤ gN G) {to a t : Nat} (hto : to + 104 ≤ 26624) (ha : a < 8) (ht : t < 10) : CT G (0) yX6_isOthers cX6_isOthers 4 (some .boolean) [ra G 80, .int (nI to), .int (nI a), .int (nI t)] S (bi (othP S to a t)) (S) := by
  refine CT_of (by decide) (Nat.le_of_ble_eq_true rfl) (by intro v hv; simp only [List.mem_cons, List.not_mem_nil, or_false] at hv; rcases hv with rfl | rfl | rfl | rfl <;> rfl) (fun F X E => ?_)
  have hR := RI_R E
  refine V_aload_n X dX6_isOthers_0 rfl ?_
  refine V_getr X flX6_19 (ltN (by decide) hN) rfl rfl dX6_isOthers_1 ?_
  refine V_iload_n X dX6_isOthers_4 rfl ?_
  refine V_bipush X (nI 16) dX6_isOthers_5 (by decide) ?_
  refine V_addN X dX6_isOthers_7 ?_
  refine V_iload_n X dX6_isOthers_8 rfl ?_
  refine V_addN X dX6_isOthers_9 ?_
  refine V_ialdN X (ltN (by decide) hN) rfl (by omega) (by decide) dX6_isOthers_10 ?_
  refine V_iconst X (-1) dX6_isOthers_11 (by decide) ?_
  refine V_icmp_eq X 34 dX6_isOthers_12 (by decide) (fun h12 => ?_) (fun h12 => ?_)
  · refine V_iconst X (nI 0) dX6_isOthers_34 (by decide) ?_
    exact V_zret X E dX6_isOthers_35 (by first | exact Or.inl rfl | exact Or.inr rfl | exact bi_01 _) (bi_f (fun q => q.1 h12)) rfl
  · refine V_aload_n X dX6_isOthers_15 rfl ?_
    refine V_getr X flX6_19 (ltN (by decide) hN) rfl rfl dX6_isOthers_16 ?_
    refine V_iload_n X dX6_isOthers_19 rfl ?_
    refine V_bipush X (nI 16) dX6_isOthers_20 (by decide) ?_
    refine V_addN X dX6_isOthers_22 ?_
    refine V_iload_n X dX6_isOthers_23 rfl ?_
    refine V_addN X dX6_isOthers_24 ?_
    refine V_ialdN X (ltN (by decide) hN) rfl (by omega) (by decide) dX6_isOthers_25 ?_
    refine V_iload_n X dX6_isOthers_26 rfl ?_
    refine V_icmp_eq X 34 dX6_isOthers_27 (by decide) (fun h27 => ?_) (fun h27 => ?_)
    · refine V_iconst X (nI 0) dX6_isOthers_34 (by decide) ?_
      exact V_zret X E dX6_isOthers_35 (by first | exact Or.inl rfl | exact Or.inr rfl | exact bi_01 _) (by first | exact bi_t ⟨h12, h27⟩ | exact bi_f (fun q => q.2 h27)) rfl
    · refine V_iconst X (nI 1) dX6_isOthers_30 (by decide) ?_
      refine V_goto X 35 dX6_isOthers_31 (by decide) ?_
      exact V_zret X E dX6_isOthers_35 (by first | exact Or.inl rfl | exact Or.inr rfl | exact bi_01 _) (by first | exact bi_t ⟨h12, h27⟩ | exact bi_f (fun q => q.2 h27)) rfl

set_option maxRecDepth 100000 in
set_option maxHeartbeats 4000000 in
theorem kX6_has {G : Cx} {S : Sx} (hN : 88 ≤ gN G) {to s a t : Nat} (hto : to + 104 ≤ 26624) (ha : a < 8) (ht : t < 10) : CV G (0) yX6_has cX6_has 5 [ra G 80, .int (nI to), .int (nI s), .int (nI a), .int (nI t)] S (hsS S to s a t) := by
  refine CV_of (by decide) (Nat.le_of_ble_eq_true rfl) (by intro v hv; simp only [List.mem_cons, List.not_mem_nil, or_false] at hv; rcases hv with rfl | rfl | rfl | rfl | rfl <;> rfl) (fun F X E => ?_)
  have hR := RV_R E
  refine V_aload_n X dX6_has_0 rfl ?_
  refine V_getr X flX6_19 (ltN (by decide) hN) rfl rfl dX6_has_1 ?_
  refine V_iload_n X dX6_has_4 rfl ?_
  refine V_bipush X (nI 16) dX6_has_5 (by decide) ?_
  refine V_addN X dX6_has_7 ?_
  refine V_iload X dX6_has_8 rfl ?_
  refine V_addN X dX6_has_10 ?_
  refine V_iload_n X dX6_has_11 rfl ?_
  refine V_iastN X (ltN (by decide) hN) rfl (by omega) (by decide) dX6_has_12 ?_
  refine V_aload_n X dX6_has_13 rfl ?_
  refine V_getr X flX6_19 (ltN (by decide) hN) rfl rfl dX6_has_14 ?_
  refine V_iload_n X dX6_has_17 rfl ?_
  refine V_bipush X (nI 26) dX6_has_18 (by decide) ?_
  refine V_addN X dX6_has_20 ?_
  refine V_iload X dX6_has_21 rfl ?_
  refine V_addN X dX6_has_23 ?_
  refine V_iconst X (nI 1) dX6_has_24 (by decide) ?_
  refine V_iload_n X dX6_has_25 rfl ?_
  refine V_ishl X dX6_has_26 ?_
  refine V_iastN X (ltN (by decide) hN) rfl (by omega) (by decide) dX6_has_27 ?_
  refine V_aload_n X dX6_has_28 rfl ?_
  refine V_getr X flX6_19 (ltN (by decide) hN) rfl rfl dX6_has_29 ?_
  refine V_iload_n X dX6_has_32 rfl ?_
  refine V_bipush X (nI 36) dX6_has_33 (by decide) ?_
  refine V_addN X dX6_has_35 ?_
  refine V_iload X dX6_has_36 rfl ?_
  refine V_addN X dX6_has_38 ?_
  refine V_iconst X (nI 0) dX6_has_39 (by decide) ?_
  refine V_iastN X (ltN (by decide) hN) rfl (by omega) (by decide) dX6_has_40 ?_
  refine V_aload_n X dX6_has_41 rfl ?_
  refine V_getr X flX6_19 (ltN (by decide) hN) rfl rfl dX6_has_42 ?_
  refine V_iload_n X dX6_has_45 rfl ?_
  refine V_bipush X (nI 46) dX6_has_46 (by decide) ?_
  refine V_addN X dX6_has_48 ?_
  refine V_iload X dX6_has_49 rfl ?_
  refine V_addN X dX6_has_51 ?_
  refine V_iconst X (-1) dX6_has_52 (by decide) ?_
  refine V_iastN X (ltN (by decide) hN) rfl (by omega) (by decide) dX6_has_53 ?_
  refine V_aload_n X dX6_has_54 rfl ?_
  refine V_getr X flX6_19 (ltN (by decide) hN) rfl rfl dX6_has_55 ?_
  refine V_iload_n X dX6_has_58 rfl ?_
  refine V_bipush X (nI 56) dX6_has_59 (by decide) ?_
  refine V_addN X dX6_has_61 ?_
  refine V_iload X dX6_has_62 rfl ?_
  refine V_addN X dX6_has_64 ?_
  refine V_iconst X (nI 0) dX6_has_65 (by decide) ?_
  refine V_iastN X (ltN (by decide) hN) rfl (by omega) (by decide) dX6_has_66 ?_
  exact V_vret X E dX6_has_67 rfl

set_option maxRecDepth 100000 in
set_option maxHeartbeats 4000000 in
theorem kX6_takes {G : Cx} {S : Sx} (hN : 88 ≤ gN G) {to s a t : Nat} (hto : to + 104 ≤ 26624) (ha : a < 8) (ht : t < 10) : CT G (1) yX6_takes cX6_takes 6 (some .boolean) [ra G 80, .int (nI to), .int (nI s), .int (nI a), .int (nI t)] S ((tkF S to s a t).1) ((tkF S to s a t).2) := by
  refine CT_of (by decide) (Nat.le_of_ble_eq_true rfl) (by intro v hv; simp only [List.mem_cons, List.not_mem_nil, or_false] at hv; rcases hv with rfl | rfl | rfl | rfl | rfl <;> rfl) (fun F X E => ?_)
  have hR := RI_R E
  refine V_aload_n X dX6_takes_0 rfl ?_
  refine V_iload_n X dX6_takes_1 rfl ?_
  refine V_iload_n X dX6_takes_2 rfl ?_
  refine V_iload X dX6_takes_3 rfl ?_
  refine V_cvi X (ltN (by decide) hN) rfl rfl rfl (kX6_isOthers hN hto ha ht) cwX6_85 rfl (rm_ok hR (by decide) (by decide)) (Nat.le_of_ble_eq_true rfl) dX6_takes_5 ?_
  refine V_if_eq X 13 dX6_takes_8 (by decide) (fun h8 => ?_) (fun h8 => ?_)
  · refine V_aload_n X dX6_takes_13 rfl ?_
    refine V_getr X flX6_19 (ltN (by decide) hN) rfl rfl dX6_takes_14 ?_
    refine V_iload_n X dX6_takes_17 rfl ?_
    refine V_bipush X (nI 46) dX6_takes_18 (by decide) ?_
    refine V_addN X dX6_takes_20 ?_
    refine V_iload X dX6_takes_21 rfl ?_
    refine V_addN X dX6_takes_23 ?_
    refine V_ialdN X (ltN (by decide) hN) rfl (by omega) (by decide) dX6_takes_24 ?_
    refine V_istore X dX6_takes_25 (by rw [hR.2]; decide) ?_
    refine V_aload_n X dX6_takes_27 rfl ?_
    refine V_getr X flX6_19 (ltN (by decide) hN) rfl rfl dX6_takes_28 ?_
    refine V_iload_n X dX6_takes_31 rfl ?_
    refine V_bipush X (nI 36) dX6_takes_32 (by decide) ?_
    refine V_addN X dX6_takes_34 ?_
    refine V_iload X dX6_takes_35 rfl ?_
    refine V_addN X dX6_takes_37 ?_
    refine V_ialdN X (ltN (by decide) hN) rfl (by omega) (by decide) dX6_takes_38 ?_
    refine V_iconst X (nI 1) dX6_takes_39 (by decide) ?_
    refine V_icmp_ne X 122 dX6_takes_40 (by decide) (fun h40 => ?_) (fun h40 => ?_)
    · refine V_aload_n X dX6_takes_122 rfl ?_
      refine V_getr X flX6_19 (ltN (by decide) hN) rfl rfl dX6_takes_123 ?_
      refine V_iload_n X dX6_takes_126 rfl ?_
      refine V_bipush X (nI 16) dX6_takes_127 (by decide) ?_
      refine V_addN X dX6_takes_129 ?_
      refine V_iload X dX6_takes_130 rfl ?_
      refine V_addN X dX6_takes_132 ?_
      refine V_ialdN X (ltN (by decide) hN) rfl (by omega) (by decide) dX6_takes_133 ?_
      refine V_iload_n X dX6_takes_134 rfl ?_
      refine V_icmp_eq X 147 dX6_takes_135 (by decide) (fun h135 => ?_) (fun h135 => ?_)
      · refine V_iconst X (nI 1) dX6_takes_147 (by decide) ?_
        exact V_zret X E dX6_takes_148 (by first | exact Or.inl rfl | exact Or.inr rfl | exact bi_01 _) (by unfold tkF; rw [if_neg (bi_eq.mp h8), if_neg (fun q => h40 q.1)]) (by unfold tkF; rw [if_neg (bi_eq.mp h8), if_neg (fun q => h40 q.1)]; unfold tkE; first | exact (if_pos h135).symm | exact (if_neg h135).symm)
      · refine V_aload_n X dX6_takes_138 rfl ?_
        refine V_iload_n X dX6_takes_139 rfl ?_
        refine V_iload_n X dX6_takes_140 rfl ?_
        refine V_iload_n X dX6_takes_141 rfl ?_
        refine V_iload X dX6_takes_142 rfl ?_
        refine V_cvv X (ltN (by decide) hN) rfl rfl rfl (kX6_has hN hto ha ht) cwX6_88 rfl (rm_ok hR (by decide) (by decide)) (Nat.le_of_ble_eq_true rfl) dX6_takes_144 ?_
        refine V_iconst X (nI 1) dX6_takes_147 (by decide) ?_
        exact V_zret X E dX6_takes_148 (by first | exact Or.inl rfl | exact Or.inr rfl | exact bi_01 _) (by unfold tkF; rw [if_neg (bi_eq.mp h8), if_neg (fun q => h40 q.1)]) (by unfold tkF; rw [if_neg (bi_eq.mp h8), if_neg (fun q => h40 q.1)]; unfold tkE; first | exact (if_pos h135).symm | exact (if_neg h135).symm)
    · refine V_iload X dX6_takes_43 rfl ?_
      refine V_iconst X (-1) dX6_takes_45 (by decide) ?_
      refine V_icmp_eq X 122 dX6_takes_46 (by decide) (fun h46 => ?_) (fun h46 => ?_)
      · refine V_aload_n X dX6_takes_122 rfl ?_
        refine V_getr X flX6_19 (ltN (by decide) hN) rfl rfl dX6_takes_123 ?_
        refine V_iload_n X dX6_takes_126 rfl ?_
        refine V_bipush X (nI 16) dX6_takes_127 (by decide) ?_
        refine V_addN X dX6_takes_129 ?_
        refine V_iload X dX6_takes_130 rfl ?_
        refine V_addN X dX6_takes_132 ?_
        refine V_ialdN X (ltN (by decide) hN) rfl (by omega) (by decide) dX6_takes_133 ?_
        refine V_iload_n X dX6_takes_134 rfl ?_
        refine V_icmp_eq X 147 dX6_takes_135 (by decide) (fun h135 => ?_) (fun h135 => ?_)
        · refine V_iconst X (nI 1) dX6_takes_147 (by decide) ?_
          exact V_zret X E dX6_takes_148 (by first | exact Or.inl rfl | exact Or.inr rfl | exact bi_01 _) (by unfold tkF; rw [if_neg (bi_eq.mp h8), if_neg (fun q => q.2 h46)]) (by unfold tkF; rw [if_neg (bi_eq.mp h8), if_neg (fun q => q.2 h46)]; unfold tkE; first | exact (if_pos h135).symm | exact (if_neg h135).symm)
        · refine V_aload_n X dX6_takes_138 rfl ?_
          refine V_iload_n X dX6_takes_139 rfl ?_
          refine V_iload_n X dX6_takes_140 rfl ?_
          refine V_iload_n X dX6_takes_141 rfl ?_
          refine V_iload X dX6_takes_142 rfl ?_
          refine V_cvv X (ltN (by decide) hN) rfl rfl rfl (kX6_has hN hto ha ht) cwX6_88 rfl (rm_ok hR (by decide) (by decide)) (Nat.le_of_ble_eq_true rfl) dX6_takes_144 ?_
          refine V_iconst X (nI 1) dX6_takes_147 (by decide) ?_
          exact V_zret X E dX6_takes_148 (by first | exact Or.inl rfl | exact Or.inr rfl | exact bi_01 _) (by unfold tkF; rw [if_neg (bi_eq.mp h8), if_neg (fun q => q.2 h46)]) (by unfold tkF; rw [if_neg (bi_eq.mp h8), if_neg (fun q => q.2 h46)]; unfold tkE; first | exact (if_pos h135).symm | exact (if_neg h135).symm)
      · refine V_aload_n X dX6_takes_49 rfl ?_
        refine V_getr X flX6_19 (ltN (by decide) hN) rfl rfl dX6_takes_50 ?_
        refine V_iload_n X dX6_takes_53 rfl ?_
        refine V_iconst X (nI 0) dX6_takes_54 (by decide) ?_
        refine V_addN X dX6_takes_55 ?_
        refine V_iload_n X dX6_takes_56 rfl ?_
        refine V_addN X dX6_takes_57 ?_
        refine V_ialdN X (ltN (by decide) hN) rfl (by omega) (by decide) dX6_takes_58 ?_
        refine V_iconst X (-1) dX6_takes_59 (by decide) ?_
        refine V_icmp_ne X 105 dX6_takes_60 (by decide) (fun h60 => ?_) (fun h60 => ?_)
        · refine V_aload_n X dX6_takes_105 rfl ?_
          refine V_getr X flX6_19 (ltN (by decide) hN) rfl rfl dX6_takes_106 ?_
          refine V_iload_n X dX6_takes_109 rfl ?_
          refine V_iconst X (nI 0) dX6_takes_110 (by decide) ?_
          refine V_addN X dX6_takes_111 ?_
          refine V_iload_n X dX6_takes_112 rfl ?_
          refine V_addN X dX6_takes_113 ?_
          refine V_ialdN X (ltN (by decide) hN) rfl (by omega) (by decide) dX6_takes_114 ?_
          refine V_iload X dX6_takes_115 rfl ?_
          refine V_icmp_eq X 122 dX6_takes_117 (by decide) (fun h117 => ?_) (fun h117 => ?_)
          · refine V_aload_n X dX6_takes_122 rfl ?_
            refine V_getr X flX6_19 (ltN (by decide) hN) rfl rfl dX6_takes_123 ?_
            refine V_iload_n X dX6_takes_126 rfl ?_
            refine V_bipush X (nI 16) dX6_takes_127 (by decide) ?_
            refine V_addN X dX6_takes_129 ?_
            refine V_iload X dX6_takes_130 rfl ?_
            refine V_addN X dX6_takes_132 ?_
            refine V_ialdN X (ltN (by decide) hN) rfl (by omega) (by decide) dX6_takes_133 ?_
            refine V_iload_n X dX6_takes_134 rfl ?_
            refine V_icmp_eq X 147 dX6_takes_135 (by decide) (fun h135 => ?_) (fun h135 => ?_)
            · refine V_iconst X (nI 1) dX6_takes_147 (by decide) ?_
              exact V_zret X E dX6_takes_148 (by first | exact Or.inl rfl | exact Or.inr rfl | exact bi_01 _) (by unfold tkF; rw [if_neg (bi_eq.mp h8), if_pos ⟨ts_nn h40, h46⟩, if_neg h60, if_pos h117]) (by unfold tkF; rw [if_neg (bi_eq.mp h8), if_pos ⟨ts_nn h40, h46⟩, if_neg h60, if_pos h117]; unfold tkE; first | exact (if_pos h135).symm | exact (if_neg h135).symm)
            · refine V_aload_n X dX6_takes_138 rfl ?_
              refine V_iload_n X dX6_takes_139 rfl ?_
              refine V_iload_n X dX6_takes_140 rfl ?_
              refine V_iload_n X dX6_takes_141 rfl ?_
              refine V_iload X dX6_takes_142 rfl ?_
              refine V_cvv X (ltN (by decide) hN) rfl rfl rfl (kX6_has hN hto ha ht) cwX6_88 rfl (rm_ok hR (by decide) (by decide)) (Nat.le_of_ble_eq_true rfl) dX6_takes_144 ?_
              refine V_iconst X (nI 1) dX6_takes_147 (by decide) ?_
              exact V_zret X E dX6_takes_148 (by first | exact Or.inl rfl | exact Or.inr rfl | exact bi_01 _) (by unfold tkF; rw [if_neg (bi_eq.mp h8), if_pos ⟨ts_nn h40, h46⟩, if_neg h60, if_pos h117]) (by unfold tkF; rw [if_neg (bi_eq.mp h8), if_pos ⟨ts_nn h40, h46⟩, if_neg h60, if_pos h117]; unfold tkE; first | exact (if_pos h135).symm | exact (if_neg h135).symm)
          · refine V_iconst X (nI 0) dX6_takes_120 (by decide) ?_
            exact V_zret X E dX6_takes_121 (by first | exact Or.inl rfl | exact Or.inr rfl | exact bi_01 _) (by unfold tkF; rw [if_neg (bi_eq.mp h8), if_pos ⟨ts_nn h40, h46⟩, if_neg h60, if_neg h117]) (by unfold tkF; rw [if_neg (bi_eq.mp h8), if_pos ⟨ts_nn h40, h46⟩, if_neg h60, if_neg h117])
        · refine V_aload_n X dX6_takes_63 rfl ?_
          refine V_getr X flX6_19 (ltN (by decide) hN) rfl rfl dX6_takes_64 ?_
          refine V_iload_n X dX6_takes_67 rfl ?_
          refine V_iconst X (nI 0) dX6_takes_68 (by decide) ?_
          refine V_addN X dX6_takes_69 ?_
          refine V_iload_n X dX6_takes_70 rfl ?_
          refine V_addN X dX6_takes_71 ?_
          refine V_iload X dX6_takes_72 rfl ?_
          refine V_iastN X (ltN (by decide) hN) rfl (by omega) (by decide) dX6_takes_74 ?_
          refine V_aload_n X dX6_takes_75 rfl ?_
          refine V_getr X flX6_19 (ltN (by decide) hN) rfl rfl dX6_takes_76 ?_
          refine V_iload_n X dX6_takes_79 rfl ?_
          refine V_bipush X (nI 8) dX6_takes_80 (by decide) ?_
          refine V_addN X dX6_takes_82 ?_
          refine V_iload_n X dX6_takes_83 rfl ?_
          refine V_addN X dX6_takes_84 ?_
          refine V_iconst X (nI 1) dX6_takes_85 (by decide) ?_
          refine V_iload_n X dX6_takes_86 rfl ?_
          refine V_ishl X dX6_takes_87 ?_
          refine V_aload_n X dX6_takes_88 rfl ?_
          refine V_getr X flX6_19 (ltN (by decide) hN) rfl rfl dX6_takes_89 ?_
          refine V_iload_n X dX6_takes_92 rfl ?_
          refine V_bipush X (nI 56) dX6_takes_93 (by decide) ?_
          refine V_addN X dX6_takes_95 ?_
          refine V_iload X dX6_takes_96 rfl ?_
          refine V_addN X dX6_takes_98 ?_
          refine V_ialdN X (ltN (by decide) hN) rfl (by omega) (by decide) dX6_takes_99 ?_
          refine V_ior X dX6_takes_100 ?_
          refine V_iastN X (ltN (by decide) hN) rfl (by omega) (by decide) dX6_takes_101 ?_
          refine V_goto X 122 dX6_takes_102 (by decide) ?_
          refine V_aload_n X dX6_takes_122 rfl ?_
          refine V_getr X flX6_19 (ltN (by decide) hN) rfl rfl dX6_takes_123 ?_
          refine V_iload_n X dX6_takes_126 rfl ?_
          refine V_bipush X (nI 16) dX6_takes_127 (by decide) ?_
          refine V_addN X dX6_takes_129 ?_
          refine V_iload X dX6_takes_130 rfl ?_
          refine V_addN X dX6_takes_132 ?_
          refine V_ialdN X (ltN (by decide) hN) rfl (by omega) (by decide) dX6_takes_133 ?_
          refine V_iload_n X dX6_takes_134 rfl ?_
          refine V_icmp_eq X 147 dX6_takes_135 (by decide) (fun h135 => ?_) (fun h135 => ?_)
          · refine V_iconst X (nI 1) dX6_takes_147 (by decide) ?_
            exact V_zret X E dX6_takes_148 (by first | exact Or.inl rfl | exact Or.inr rfl | exact bi_01 _) (by unfold tkF; rw [if_neg (bi_eq.mp h8), if_pos ⟨ts_nn h40, h46⟩, if_pos (ts_nn h60)]) (by unfold tkF; rw [if_neg (bi_eq.mp h8), if_pos ⟨ts_nn h40, h46⟩, if_pos (ts_nn h60)]; unfold tkE; first | exact (if_pos h135).symm | exact (if_neg h135).symm)
          · refine V_aload_n X dX6_takes_138 rfl ?_
            refine V_iload_n X dX6_takes_139 rfl ?_
            refine V_iload_n X dX6_takes_140 rfl ?_
            refine V_iload_n X dX6_takes_141 rfl ?_
            refine V_iload X dX6_takes_142 rfl ?_
            refine V_cvv X (ltN (by decide) hN) rfl rfl rfl (kX6_has hN hto ha ht) cwX6_88 rfl (rm_ok hR (by decide) (by decide)) (Nat.le_of_ble_eq_true rfl) dX6_takes_144 ?_
            refine V_iconst X (nI 1) dX6_takes_147 (by decide) ?_
            exact V_zret X E dX6_takes_148 (by first | exact Or.inl rfl | exact Or.inr rfl | exact bi_01 _) (by unfold tkF; rw [if_neg (bi_eq.mp h8), if_pos ⟨ts_nn h40, h46⟩, if_pos (ts_nn h60)]) (by unfold tkF; rw [if_neg (bi_eq.mp h8), if_pos ⟨ts_nn h40, h46⟩, if_pos (ts_nn h60)]; unfold tkE; first | exact (if_pos h135).symm | exact (if_neg h135).symm)
  · refine V_iconst X (nI 0) dX6_takes_11 (by decide) ?_
    exact V_zret X E dX6_takes_12 (by first | exact Or.inl rfl | exact Or.inr rfl | exact bi_01 _) (by unfold tkF; rw [if_pos (Classical.byContradiction (fun z => h8 (bi_eq.mpr z)))]) (by unfold tkF; rw [if_pos (Classical.byContradiction (fun z => h8 (bi_eq.mpr z)))])

set_option maxRecDepth 100000 in
set_option maxHeartbeats 4000000 in
theorem kX6_drops {G : Cx} {S : Sx} (hN : 88 ≤ gN G) {to s a t : Nat} (hto : to + 104 ≤ 26624) (ha : a < 8) (ht : t < 10) : CT G (1) yX6_drops cX6_drops 5 (some .boolean) [ra G 80, .int (nI to), .int (nI s), .int (nI a), .int (nI t)] S ((dpF S to s a t).1) ((dpF S to s a t).2) := by
  refine CT_of (by decide) (Nat.le_of_ble_eq_true rfl) (by intro v hv; simp only [List.mem_cons, List.not_mem_nil, or_false] at hv; rcases hv with rfl | rfl | rfl | rfl | rfl <;> rfl) (fun F X E => ?_)
  have hR := RI_R E
  refine V_aload_n X dX6_drops_0 rfl ?_
  refine V_iload_n X dX6_drops_1 rfl ?_
  refine V_iload_n X dX6_drops_2 rfl ?_
  refine V_iload X dX6_drops_3 rfl ?_
  refine V_cvi X (ltN (by decide) hN) rfl rfl rfl (kX6_isOthers hN hto ha ht) cwX6_85 rfl (rm_ok hR (by decide) (by decide)) (Nat.le_of_ble_eq_true rfl) dX6_drops_5 ?_
  refine V_if_ne X 27 dX6_drops_8 (by decide) (fun h8 => ?_) (fun h8 => ?_)
  · refine V_iconst X (nI 0) dX6_drops_27 (by decide) ?_
    exact V_zret X E dX6_drops_28 (by first | exact Or.inl rfl | exact Or.inr rfl | exact bi_01 _) (by unfold dpF; rw [if_pos (Or.inl (bi_ne.mp h8))]) (by unfold dpF; rw [if_pos (Or.inl (bi_ne.mp h8))])
  · refine V_aload_n X dX6_drops_11 rfl ?_
    refine V_getr X flX6_19 (ltN (by decide) hN) rfl rfl dX6_drops_12 ?_
    refine V_iload_n X dX6_drops_15 rfl ?_
    refine V_bipush X (nI 36) dX6_drops_16 (by decide) ?_
    refine V_addN X dX6_drops_18 ?_
    refine V_iload X dX6_drops_19 rfl ?_
    refine V_addN X dX6_drops_21 ?_
    refine V_ialdN X (ltN (by decide) hN) rfl (by omega) (by decide) dX6_drops_22 ?_
    refine V_iconst X (nI 1) dX6_drops_23 (by decide) ?_
    refine V_icmp_ne X 29 dX6_drops_24 (by decide) (fun h24 => ?_) (fun h24 => ?_)
    · refine V_aload_n X dX6_drops_29 rfl ?_
      refine V_getr X flX6_19 (ltN (by decide) hN) rfl rfl dX6_drops_30 ?_
      refine V_iload_n X dX6_drops_33 rfl ?_
      refine V_bipush X (nI 16) dX6_drops_34 (by decide) ?_
      refine V_addN X dX6_drops_36 ?_
      refine V_iload X dX6_drops_37 rfl ?_
      refine V_addN X dX6_drops_39 ?_
      refine V_iconst X (-1) dX6_drops_40 (by decide) ?_
      refine V_iastN X (ltN (by decide) hN) rfl (by omega) (by decide) dX6_drops_41 ?_
      refine V_aload_n X dX6_drops_42 rfl ?_
      refine V_getr X flX6_19 (ltN (by decide) hN) rfl rfl dX6_drops_43 ?_
      refine V_iload_n X dX6_drops_46 rfl ?_
      refine V_bipush X (nI 26) dX6_drops_47 (by decide) ?_
      refine V_addN X dX6_drops_49 ?_
      refine V_iload X dX6_drops_50 rfl ?_
      refine V_addN X dX6_drops_52 ?_
      refine V_iconst X (nI 0) dX6_drops_53 (by decide) ?_
      refine V_iastN X (ltN (by decide) hN) rfl (by omega) (by decide) dX6_drops_54 ?_
      refine V_aload_n X dX6_drops_55 rfl ?_
      refine V_getr X flX6_19 (ltN (by decide) hN) rfl rfl dX6_drops_56 ?_
      refine V_iload_n X dX6_drops_59 rfl ?_
      refine V_bipush X (nI 36) dX6_drops_60 (by decide) ?_
      refine V_addN X dX6_drops_62 ?_
      refine V_iload X dX6_drops_63 rfl ?_
      refine V_addN X dX6_drops_65 ?_
      refine V_iconst X (nI 1) dX6_drops_66 (by decide) ?_
      refine V_iastN X (ltN (by decide) hN) rfl (by omega) (by decide) dX6_drops_67 ?_
      refine V_aload_n X dX6_drops_68 rfl ?_
      refine V_getr X flX6_19 (ltN (by decide) hN) rfl rfl dX6_drops_69 ?_
      refine V_iload_n X dX6_drops_72 rfl ?_
      refine V_bipush X (nI 46) dX6_drops_73 (by decide) ?_
      refine V_addN X dX6_drops_75 ?_
      refine V_iload X dX6_drops_76 rfl ?_
      refine V_addN X dX6_drops_78 ?_
      refine V_aload_n X dX6_drops_79 rfl ?_
      refine V_getr X flX6_19 (ltN (by decide) hN) rfl rfl dX6_drops_80 ?_
      refine V_iload_n X dX6_drops_83 rfl ?_
      refine V_iconst X (nI 0) dX6_drops_84 (by decide) ?_
      refine V_addN X dX6_drops_85 ?_
      refine V_iload_n X dX6_drops_86 rfl ?_
      refine V_addN X dX6_drops_87 ?_
      refine V_ialdN X (ltN (by decide) hN) rfl (by omega) (by decide) dX6_drops_88 ?_
      refine V_iastN X (ltN (by decide) hN) rfl (by omega) (by decide) dX6_drops_89 ?_
      refine V_aload_n X dX6_drops_90 rfl ?_
      refine V_getr X flX6_19 (ltN (by decide) hN) rfl rfl dX6_drops_91 ?_
      refine V_iload_n X dX6_drops_94 rfl ?_
      refine V_bipush X (nI 94) dX6_drops_95 (by decide) ?_
      refine V_addN X dX6_drops_97 ?_
      refine V_iload X dX6_drops_98 rfl ?_
      refine V_addN X dX6_drops_100 ?_
      refine V_iconst X (nI 1) dX6_drops_101 (by decide) ?_
      refine V_iload_n X dX6_drops_102 rfl ?_
      refine V_ishl X dX6_drops_103 ?_
      refine V_iastN X (ltN (by decide) hN) rfl (by omega) (by decide) dX6_drops_104 ?_
      refine V_aload_n X dX6_drops_105 rfl ?_
      refine V_getr X flX6_19 (ltN (by decide) hN) rfl rfl dX6_drops_106 ?_
      refine V_iload_n X dX6_drops_109 rfl ?_
      refine V_bipush X (nI 56) dX6_drops_110 (by decide) ?_
      refine V_addN X dX6_drops_112 ?_
      refine V_iload X dX6_drops_113 rfl ?_
      refine V_addN X dX6_drops_115 ?_
      refine V_iconst X (nI 1) dX6_drops_116 (by decide) ?_
      refine V_iload_n X dX6_drops_117 rfl ?_
      refine V_ishl X dX6_drops_118 ?_
      refine V_aload_n X dX6_drops_119 rfl ?_
      refine V_getr X flX6_19 (ltN (by decide) hN) rfl rfl dX6_drops_120 ?_
      refine V_iload_n X dX6_drops_123 rfl ?_
      refine V_iconst X (nI 0) dX6_drops_124 (by decide) ?_
      refine V_addN X dX6_drops_125 ?_
      refine V_iload_n X dX6_drops_126 rfl ?_
      refine V_addN X dX6_drops_127 ?_
      refine V_ialdN X (ltN (by decide) hN) rfl (by omega) (by decide) dX6_drops_128 ?_
      refine V_iconst X (-1) dX6_drops_129 (by decide) ?_
      refine V_icmp_ne X 137 dX6_drops_130 (by decide) (fun h130 => ?_) (fun h130 => ?_)
      · refine V_aload_n X dX6_drops_137 rfl ?_
        refine V_getr X flX6_19 (ltN (by decide) hN) rfl rfl dX6_drops_138 ?_
        refine V_iload_n X dX6_drops_141 rfl ?_
        refine V_bipush X (nI 8) dX6_drops_142 (by decide) ?_
        refine V_addN X dX6_drops_144 ?_
        refine V_iload_n X dX6_drops_145 rfl ?_
        refine V_addN X dX6_drops_146 ?_
        refine V_ialdN X (ltN (by decide) hN) rfl (by omega) (by decide) dX6_drops_147 ?_
        refine V_ior X dX6_drops_148 ?_
        refine V_iastN X (ltN (by decide) hN) rfl (by omega) (by decide) dX6_drops_149 ?_
        refine V_iconst X (nI 1) dX6_drops_150 (by decide) ?_
        exact V_zret X E dX6_drops_151 (by first | exact Or.inl rfl | exact Or.inr rfl | exact bi_01 _) (by unfold dpF; rw [if_neg (fun q => q.elim (fun z => h8 (bi_ne.mpr z)) h24)]) (by unfold dpF; rw [if_neg (fun q => q.elim (fun z => h8 (bi_ne.mpr z)) h24)]; unfold dpE; first | (rw [if_pos (show dp5 S to s a t 84 (to + 0 + a) = -1 from ts_nn h130)]; rfl) | (rw [if_neg (show ¬ dp5 S to s a t 84 (to + 0 + a) = -1 from h130)]; rfl))
      · refine V_iconst X (nI 0) dX6_drops_133 (by decide) ?_
        refine V_goto X 148 dX6_drops_134 (by decide) ?_
        refine V_ior X dX6_drops_148 ?_
        refine V_iastN X (ltN (by decide) hN) rfl (by omega) (by decide) dX6_drops_149 ?_
        refine V_iconst X (nI 1) dX6_drops_150 (by decide) ?_
        exact V_zret X E dX6_drops_151 (by first | exact Or.inl rfl | exact Or.inr rfl | exact bi_01 _) (by unfold dpF; rw [if_neg (fun q => q.elim (fun z => h8 (bi_ne.mpr z)) h24)]) (by unfold dpF; rw [if_neg (fun q => q.elim (fun z => h8 (bi_ne.mpr z)) h24)]; unfold dpE; first | (rw [if_pos (show dp5 S to s a t 84 (to + 0 + a) = -1 from ts_nn h130)]; rfl) | (rw [if_neg (show ¬ dp5 S to s a t 84 (to + 0 + a) = -1 from h130)]; rfl))
    · refine V_iconst X (nI 0) dX6_drops_27 (by decide) ?_
      exact V_zret X E dX6_drops_28 (by first | exact Or.inl rfl | exact Or.inr rfl | exact bi_01 _) (by unfold dpF; rw [if_pos (Or.inr (ts_nn h24))]) (by unfold dpF; rw [if_pos (Or.inr (ts_nn h24))])

set_option maxRecDepth 100000 in
set_option maxHeartbeats 4000000 in
theorem kX6_gives {G : Cx} {S : Sx} (hN : 88 ≤ gN G) {to s a t b : Nat} (hto : to + 104 ≤ 26624) (ha : a < 8) (ht : t < 10) (hb : b < 8) : CT G (1) yX6_gives cX6_gives 8 (some .boolean) [ra G 80, .int (nI to), .int (nI s), .int (nI a), .int (nI t), .int (nI b)] S ((gvF S to s a t b).1) ((gvF S to s a t b).2) := by
  refine CT_of (by decide) (Nat.le_of_ble_eq_true rfl) (by intro v hv; simp only [List.mem_cons, List.not_mem_nil, or_false] at hv; rcases hv with rfl | rfl | rfl | rfl | rfl | rfl <;> rfl) (fun F X E => ?_)
  have hR := RI_R E
  refine V_iload_n X dX6_gives_0 rfl ?_
  refine V_iload X dX6_gives_1 rfl ?_
  refine V_cN_eq X 33 (by omega) (by omega) dX6_gives_3 (by decide) (fun h3 => ?_) (fun h3 => ?_)
  · refine V_iconst X (nI 0) dX6_gives_33 (by decide) ?_
    exact V_zret X E dX6_gives_34 (by first | exact Or.inl rfl | exact Or.inr rfl | exact bi_01 _) (by unfold gvF; rw [if_pos (Or.inl h3)]) (by unfold gvF; rw [if_pos (Or.inl h3)])
  · refine V_aload_n X dX6_gives_6 rfl ?_
    refine V_iload_n X dX6_gives_7 rfl ?_
    refine V_iload_n X dX6_gives_8 rfl ?_
    refine V_iload X dX6_gives_9 rfl ?_
    refine V_cvi X (ltN (by decide) hN) rfl rfl rfl (kX6_isOthers hN hto ha ht) cwX6_85 rfl (rm_ok hR (by decide) (by decide)) (Nat.le_of_ble_eq_true rfl) dX6_gives_11 ?_
    refine V_if_ne X 33 dX6_gives_14 (by decide) (fun h14 => ?_) (fun h14 => ?_)
    · refine V_iconst X (nI 0) dX6_gives_33 (by decide) ?_
      exact V_zret X E dX6_gives_34 (by first | exact Or.inl rfl | exact Or.inr rfl | exact bi_01 _) (by unfold gvF; rw [if_pos (Or.inr (Or.inl (bi_ne.mp h14)))]) (by unfold gvF; rw [if_pos (Or.inr (Or.inl (bi_ne.mp h14)))])
    · refine V_aload_n X dX6_gives_17 rfl ?_
      refine V_getr X flX6_19 (ltN (by decide) hN) rfl rfl dX6_gives_18 ?_
      refine V_iload_n X dX6_gives_21 rfl ?_
      refine V_bipush X (nI 36) dX6_gives_22 (by decide) ?_
      refine V_addN X dX6_gives_24 ?_
      refine V_iload X dX6_gives_25 rfl ?_
      refine V_addN X dX6_gives_27 ?_
      refine V_ialdN X (ltN (by decide) hN) rfl (by omega) (by decide) dX6_gives_28 ?_
      refine V_iconst X (nI 1) dX6_gives_29 (by decide) ?_
      refine V_icmp_ne X 35 dX6_gives_30 (by decide) (fun h30 => ?_) (fun h30 => ?_)
      · refine V_aload_n X dX6_gives_35 rfl ?_
        refine V_getr X flX6_19 (ltN (by decide) hN) rfl rfl dX6_gives_36 ?_
        refine V_iload_n X dX6_gives_39 rfl ?_
        refine V_iconst X (nI 0) dX6_gives_40 (by decide) ?_
        refine V_addN X dX6_gives_41 ?_
        refine V_iload_n X dX6_gives_42 rfl ?_
        refine V_addN X dX6_gives_43 ?_
        refine V_ialdN X (ltN (by decide) hN) rfl (by omega) (by decide) dX6_gives_44 ?_
        refine V_istore X dX6_gives_45 (by rw [hR.2]; decide) ?_
        refine V_aload_n X dX6_gives_47 rfl ?_
        refine V_getr X flX6_19 (ltN (by decide) hN) rfl rfl dX6_gives_48 ?_
        refine V_iload_n X dX6_gives_51 rfl ?_
        refine V_iconst X (nI 0) dX6_gives_52 (by decide) ?_
        refine V_addN X dX6_gives_53 ?_
        refine V_iload X dX6_gives_54 rfl ?_
        refine V_addN X dX6_gives_56 ?_
        refine V_ialdN X (ltN (by decide) hN) rfl (by omega) (by decide) dX6_gives_57 ?_
        refine V_istore X dX6_gives_58 (by rw [hR.2]; decide) ?_
        refine V_iload X dX6_gives_60 rfl ?_
        refine V_iconst X (-1) dX6_gives_62 (by decide) ?_
        refine V_icmp_eq X 81 dX6_gives_63 (by decide) (fun h63 => ?_) (fun h63 => ?_)
        · refine V_iload X dX6_gives_81 rfl ?_
          refine V_iconst X (-1) dX6_gives_83 (by decide) ?_
          refine V_icmp_ne X 132 dX6_gives_84 (by decide) (fun h84 => ?_) (fun h84 => ?_)
          · exact absurd h63 h84
          · refine V_iload X dX6_gives_87 rfl ?_
            refine V_iconst X (-1) dX6_gives_89 (by decide) ?_
            refine V_icmp_eq X 132 dX6_gives_90 (by decide) (fun h90 => ?_) (fun h90 => ?_)
            · refine V_iload X dX6_gives_132 rfl ?_
              refine V_iconst X (-1) dX6_gives_134 (by decide) ?_
              refine V_icmp_eq X 184 dX6_gives_135 (by decide) (fun h135 => ?_) (fun h135 => ?_)
              · refine V_aload_n X dX6_gives_184 rfl ?_
                refine V_iload_n X dX6_gives_185 rfl ?_
                refine V_iload_n X dX6_gives_186 rfl ?_
                refine V_iload X dX6_gives_187 rfl ?_
                refine V_iload X dX6_gives_189 rfl ?_
                refine V_cvv X (ltN (by decide) hN) rfl rfl rfl (kX6_has hN hto hb ht) cwX6_88 rfl (rm_ok hR (by decide) (by decide)) (Nat.le_of_ble_eq_true rfl) dX6_gives_191 ?_
                refine V_iconst X (nI 1) dX6_gives_194 (by decide) ?_
                exact V_zret X E dX6_gives_195 (by first | exact Or.inl rfl | exact Or.inr rfl) (by unfold gvF; rw [if_neg (fun q => q.elim h3 (fun q => q.elim (fun z => h14 (bi_ne.mpr z)) h30))]; rw [if_pos h63]; split <;> rfl) (by unfold gvF; rw [if_neg (fun q => q.elim h3 (fun q => q.elim (fun z => h14 (bi_ne.mpr z)) h30))]; rw [if_pos h63]; first | (rw [if_pos h90]; done) | (rw [if_neg h90]; rfl))
              · exact absurd h63 h135
            · refine V_aload_n X dX6_gives_93 rfl ?_
              refine V_getr X flX6_19 (ltN (by decide) hN) rfl rfl dX6_gives_94 ?_
              refine V_iload_n X dX6_gives_97 rfl ?_
              refine V_iconst X (nI 0) dX6_gives_98 (by decide) ?_
              refine V_addN X dX6_gives_99 ?_
              refine V_iload_n X dX6_gives_100 rfl ?_
              refine V_addN X dX6_gives_101 ?_
              refine V_iload X dX6_gives_102 rfl ?_
              refine V_iastN X (ltN (by decide) hN) rfl (by omega) (by decide) dX6_gives_104 ?_
              refine V_aload_n X dX6_gives_105 rfl ?_
              refine V_getr X flX6_19 (ltN (by decide) hN) rfl rfl dX6_gives_106 ?_
              refine V_iload_n X dX6_gives_109 rfl ?_
              refine V_bipush X (nI 8) dX6_gives_110 (by decide) ?_
              refine V_addN X dX6_gives_112 ?_
              refine V_iload_n X dX6_gives_113 rfl ?_
              refine V_addN X dX6_gives_114 ?_
              refine V_iconst X (nI 1) dX6_gives_115 (by decide) ?_
              refine V_iload_n X dX6_gives_116 rfl ?_
              refine V_ishl X dX6_gives_117 ?_
              refine V_aload_n X dX6_gives_118 rfl ?_
              refine V_getr X flX6_19 (ltN (by decide) hN) rfl rfl dX6_gives_119 ?_
              refine V_iload_n X dX6_gives_122 rfl ?_
              refine V_bipush X (nI 8) dX6_gives_123 (by decide) ?_
              refine V_addN X dX6_gives_125 ?_
              refine V_iload X dX6_gives_126 rfl ?_
              refine V_addN X dX6_gives_128 ?_
              refine V_ialdN X (ltN (by decide) hN) rfl (by omega) (by decide) dX6_gives_129 ?_
              refine V_ior X dX6_gives_130 ?_
              refine V_iastN X (ltN (by decide) hN) rfl (by omega) (by decide) dX6_gives_131 ?_
              refine V_iload X dX6_gives_132 rfl ?_
              refine V_iconst X (-1) dX6_gives_134 (by decide) ?_
              refine V_icmp_eq X 184 dX6_gives_135 (by decide) (fun h135 => ?_) (fun h135 => ?_)
              · refine V_aload_n X dX6_gives_184 rfl ?_
                refine V_iload_n X dX6_gives_185 rfl ?_
                refine V_iload_n X dX6_gives_186 rfl ?_
                refine V_iload X dX6_gives_187 rfl ?_
                refine V_iload X dX6_gives_189 rfl ?_
                refine V_cvv X (ltN (by decide) hN) rfl rfl rfl (kX6_has hN hto hb ht) cwX6_88 rfl (rm_ok hR (by decide) (by decide)) (Nat.le_of_ble_eq_true rfl) dX6_gives_191 ?_
                refine V_iconst X (nI 1) dX6_gives_194 (by decide) ?_
                exact V_zret X E dX6_gives_195 (by first | exact Or.inl rfl | exact Or.inr rfl) (by unfold gvF; rw [if_neg (fun q => q.elim h3 (fun q => q.elim (fun z => h14 (bi_ne.mpr z)) h30))]; rw [if_pos h63]; split <;> rfl) (by unfold gvF; rw [if_neg (fun q => q.elim h3 (fun q => q.elim (fun z => h14 (bi_ne.mpr z)) h30))]; rw [if_pos h63]; first | (rw [if_pos h90]; done) | (rw [if_neg h90]; rfl))
              · exact absurd h63 h135
        · refine V_iload X dX6_gives_66 rfl ?_
          refine V_iconst X (-1) dX6_gives_68 (by decide) ?_
          refine V_icmp_eq X 81 dX6_gives_69 (by decide) (fun h69 => ?_) (fun h69 => ?_)
          · refine V_iload X dX6_gives_81 rfl ?_
            refine V_iconst X (-1) dX6_gives_83 (by decide) ?_
            refine V_icmp_ne X 132 dX6_gives_84 (by decide) (fun h84 => ?_) (fun h84 => ?_)
            · refine V_iload X dX6_gives_132 rfl ?_
              refine V_iconst X (-1) dX6_gives_134 (by decide) ?_
              refine V_icmp_eq X 184 dX6_gives_135 (by decide) (fun h135 => ?_) (fun h135 => ?_)
              · exact absurd h135 h63
              · refine V_iload X dX6_gives_138 rfl ?_
                refine V_iconst X (-1) dX6_gives_140 (by decide) ?_
                refine V_icmp_ne X 184 dX6_gives_141 (by decide) (fun h141 => ?_) (fun h141 => ?_)
                · exact absurd h69 h141
                · refine V_aload_n X dX6_gives_144 rfl ?_
                  refine V_getr X flX6_19 (ltN (by decide) hN) rfl rfl dX6_gives_145 ?_
                  refine V_iload_n X dX6_gives_148 rfl ?_
                  refine V_iconst X (nI 0) dX6_gives_149 (by decide) ?_
                  refine V_addN X dX6_gives_150 ?_
                  refine V_iload X dX6_gives_151 rfl ?_
                  refine V_addN X dX6_gives_153 ?_
                  refine V_iload X dX6_gives_154 rfl ?_
                  refine V_iastN X (ltN (by decide) hN) rfl (by omega) (by decide) dX6_gives_156 ?_
                  refine V_aload_n X dX6_gives_157 rfl ?_
                  refine V_getr X flX6_19 (ltN (by decide) hN) rfl rfl dX6_gives_158 ?_
                  refine V_iload_n X dX6_gives_161 rfl ?_
                  refine V_bipush X (nI 8) dX6_gives_162 (by decide) ?_
                  refine V_addN X dX6_gives_164 ?_
                  refine V_iload X dX6_gives_165 rfl ?_
                  refine V_addN X dX6_gives_167 ?_
                  refine V_iconst X (nI 1) dX6_gives_168 (by decide) ?_
                  refine V_iload_n X dX6_gives_169 rfl ?_
                  refine V_ishl X dX6_gives_170 ?_
                  refine V_aload_n X dX6_gives_171 rfl ?_
                  refine V_getr X flX6_19 (ltN (by decide) hN) rfl rfl dX6_gives_172 ?_
                  refine V_iload_n X dX6_gives_175 rfl ?_
                  refine V_bipush X (nI 8) dX6_gives_176 (by decide) ?_
                  refine V_addN X dX6_gives_178 ?_
                  refine V_iload_n X dX6_gives_179 rfl ?_
                  refine V_addN X dX6_gives_180 ?_
                  refine V_ialdN X (ltN (by decide) hN) rfl (by omega) (by decide) dX6_gives_181 ?_
                  refine V_ior X dX6_gives_182 ?_
                  refine V_iastN X (ltN (by decide) hN) rfl (by omega) (by decide) dX6_gives_183 ?_
                  refine V_aload_n X dX6_gives_184 rfl ?_
                  refine V_iload_n X dX6_gives_185 rfl ?_
                  refine V_iload_n X dX6_gives_186 rfl ?_
                  refine V_iload X dX6_gives_187 rfl ?_
                  refine V_iload X dX6_gives_189 rfl ?_
                  refine V_cvv X (ltN (by decide) hN) rfl rfl rfl (kX6_has hN hto hb ht) cwX6_88 rfl (rm_ok hR (by decide) (by decide)) (Nat.le_of_ble_eq_true rfl) dX6_gives_191 ?_
                  refine V_iconst X (nI 1) dX6_gives_194 (by decide) ?_
                  exact V_zret X E dX6_gives_195 (by first | exact Or.inl rfl | exact Or.inr rfl) (by unfold gvF; rw [if_neg (fun q => q.elim h3 (fun q => q.elim (fun z => h14 (bi_ne.mpr z)) h30))]; rw [if_neg h63, if_pos h69]) (by unfold gvF; rw [if_neg (fun q => q.elim h3 (fun q => q.elim (fun z => h14 (bi_ne.mpr z)) h30))]; rw [if_neg h63, if_pos h69]; rfl)
            · exact absurd (ts_nn h84) h63
          · refine V_iload X dX6_gives_72 rfl ?_
            refine V_iload X dX6_gives_74 rfl ?_
            refine V_icmp_eq X 81 dX6_gives_76 (by decide) (fun h76 => ?_) (fun h76 => ?_)
            · refine V_iload X dX6_gives_81 rfl ?_
              refine V_iconst X (-1) dX6_gives_83 (by decide) ?_
              refine V_icmp_ne X 132 dX6_gives_84 (by decide) (fun h84 => ?_) (fun h84 => ?_)
              · refine V_iload X dX6_gives_132 rfl ?_
                refine V_iconst X (-1) dX6_gives_134 (by decide) ?_
                refine V_icmp_eq X 184 dX6_gives_135 (by decide) (fun h135 => ?_) (fun h135 => ?_)
                · exact absurd h135 h63
                · refine V_iload X dX6_gives_138 rfl ?_
                  refine V_iconst X (-1) dX6_gives_140 (by decide) ?_
                  refine V_icmp_ne X 184 dX6_gives_141 (by decide) (fun h141 => ?_) (fun h141 => ?_)
                  · refine V_aload_n X dX6_gives_184 rfl ?_
                    refine V_iload_n X dX6_gives_185 rfl ?_
                    refine V_iload_n X dX6_gives_186 rfl ?_
                    refine V_iload X dX6_gives_187 rfl ?_
                    refine V_iload X dX6_gives_189 rfl ?_
                    refine V_cvv X (ltN (by decide) hN) rfl rfl rfl (kX6_has hN hto hb ht) cwX6_88 rfl (rm_ok hR (by decide) (by decide)) (Nat.le_of_ble_eq_true rfl) dX6_gives_191 ?_
                    refine V_iconst X (nI 1) dX6_gives_194 (by decide) ?_
                    exact V_zret X E dX6_gives_195 (by first | exact Or.inl rfl | exact Or.inr rfl) (by unfold gvF; rw [if_neg (fun q => q.elim h3 (fun q => q.elim (fun z => h14 (bi_ne.mpr z)) h30))]; rw [if_neg h63, if_neg h69, if_pos h76]) (by unfold gvF; rw [if_neg (fun q => q.elim h3 (fun q => q.elim (fun z => h14 (bi_ne.mpr z)) h30))]; rw [if_neg h63, if_neg h69, if_pos h76])
                  · exact absurd (ts_nn h141) h69
              · exact absurd (ts_nn h84) h63
            · refine V_iconst X (nI 0) dX6_gives_79 (by decide) ?_
              exact V_zret X E dX6_gives_80 (by first | exact Or.inl rfl | exact Or.inr rfl | exact bi_01 _) (by unfold gvF; rw [if_neg (fun q => q.elim h3 (fun q => q.elim (fun z => h14 (bi_ne.mpr z)) h30)), if_neg h63, if_neg h69, if_neg h76]) (by unfold gvF; rw [if_neg (fun q => q.elim h3 (fun q => q.elim (fun z => h14 (bi_ne.mpr z)) h30)), if_neg h63, if_neg h69, if_neg h76])
      · refine V_iconst X (nI 0) dX6_gives_33 (by decide) ?_
        exact V_zret X E dX6_gives_34 (by first | exact Or.inl rfl | exact Or.inr rfl | exact bi_01 _) (by unfold gvF; rw [if_pos (Or.inr (Or.inr (ts_nn h30)))]) (by unfold gvF; rw [if_pos (Or.inr (Or.inr (ts_nn h30)))])
end
