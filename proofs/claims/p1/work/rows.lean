section
-- ===== PART A: goes FIRST, ahead of the names: the tables' words, and 'selects' of the private methods out of them =====
/-- a private method of a class that the tables say can be made, by its rows of tables_1 -/
def lw_okq (q : MethodName × Nat) : Prop := (q.1.cls ≠ "java/lang/invoke/MethodHandle" ∧ q.1.cls ≠ "java/lang/invoke/VarHandle") ∧ Cond.instantiable q.1.cls q.2 ∈ tables_1 ∧ Cond.privateMethod q.1 ∈ tables_1 ∧ Cond.instanceMethod q.1 ∈ tables_1
theorem lw_p0 : lw_okq (⟨"NineOpinions", "comes", "(LNineOpinions$Shelf;I)Z"⟩, 10) := ⟨⟨by decide +kernel, by decide +kernel⟩, List.mem_of_getElem? (i := 19) (by decide +kernel), List.mem_of_getElem? (i := 354) (by decide +kernel), List.mem_of_getElem? (i := 355) (by decide +kernel)⟩
theorem lw_p1 : lw_okq (⟨"NineOpinions$Changes", "forgetOldest", "()V"⟩, 7) := ⟨⟨by decide +kernel, by decide +kernel⟩, List.mem_of_getElem? (i := 209) (by decide +kernel), List.mem_of_getElem? (i := 385) (by decide +kernel), List.mem_of_getElem? (i := 386) (by decide +kernel)⟩
theorem lw_p2 : lw_okq (⟨"NineOpinions$Tape", "readLine", "()V"⟩, 6) := ⟨⟨by decide +kernel, by decide +kernel⟩, List.mem_of_getElem? (i := 93) (by decide +kernel), List.mem_of_getElem? (i := 420) (by decide +kernel), List.mem_of_getElem? (i := 421) (by decide +kernel)⟩
theorem lw_p3 : lw_okq (⟨"NineOpinions$Tape", "readLevel", "(II)V"⟩, 6) := ⟨⟨by decide +kernel, by decide +kernel⟩, List.mem_of_getElem? (i := 93) (by decide +kernel), List.mem_of_getElem? (i := 424) (by decide +kernel), List.mem_of_getElem? (i := 425) (by decide +kernel)⟩
theorem lw_p4 : lw_okq (⟨"NineOpinions$Tape", "readOperand", "(I)V"⟩, 6) := ⟨⟨by decide +kernel, by decide +kernel⟩, List.mem_of_getElem? (i := 93) (by decide +kernel), List.mem_of_getElem? (i := 428) (by decide +kernel), List.mem_of_getElem? (i := 429) (by decide +kernel)⟩
theorem lw_p5 : lw_okq (⟨"NineOpinions$Tape", "next", "()I"⟩, 6) := ⟨⟨by decide +kernel, by decide +kernel⟩, List.mem_of_getElem? (i := 93) (by decide +kernel), List.mem_of_getElem? (i := 432) (by decide +kernel), List.mem_of_getElem? (i := 433) (by decide +kernel)⟩
theorem lw_p6 : lw_okq (⟨"NineOpinions$Tape", "readNumber", "()V"⟩, 6) := ⟨⟨by decide +kernel, by decide +kernel⟩, List.mem_of_getElem? (i := 93) (by decide +kernel), List.mem_of_getElem? (i := 439) (by decide +kernel), List.mem_of_getElem? (i := 440) (by decide +kernel)⟩
theorem lw_p7 : lw_okq (⟨"NineOpinions$Tape", "make", "(I)V"⟩, 6) := ⟨⟨by decide +kernel, by decide +kernel⟩, List.mem_of_getElem? (i := 93) (by decide +kernel), List.mem_of_getElem? (i := 443) (by decide +kernel), List.mem_of_getElem? (i := 444) (by decide +kernel)⟩
theorem lw_p8 : lw_okq (⟨"NineOpinions$Tape", "goesOnWith", "(C)Z"⟩, 6) := ⟨⟨by decide +kernel, by decide +kernel⟩, List.mem_of_getElem? (i := 93) (by decide +kernel), List.mem_of_getElem? (i := 450) (by decide +kernel), List.mem_of_getElem? (i := 451) (by decide +kernel)⟩
theorem lw_p9 : lw_okq (⟨"NineOpinions$Thought", "weigh", "(III)I"⟩, 6) := ⟨⟨by decide +kernel, by decide +kernel⟩, List.mem_of_getElem? (i := 121) (by decide +kernel), List.mem_of_getElem? (i := 496) (by decide +kernel), List.mem_of_getElem? (i := 497) (by decide +kernel)⟩
theorem lw_p10 : lw_okq (⟨"NineOpinions$Thought", "tellLaw", "(IIII)V"⟩, 6) := ⟨⟨by decide +kernel, by decide +kernel⟩, List.mem_of_getElem? (i := 121) (by decide +kernel), List.mem_of_getElem? (i := 501) (by decide +kernel), List.mem_of_getElem? (i := 502) (by decide +kernel)⟩
theorem lw_p11 : lw_okq (⟨"NineOpinions$Law", "push", "(I)V"⟩, 5) := ⟨⟨by decide +kernel, by decide +kernel⟩, List.mem_of_getElem? (i := 71) (by decide +kernel), List.mem_of_getElem? (i := 528) (by decide +kernel), List.mem_of_getElem? (i := 529) (by decide +kernel)⟩
theorem lw_p12 : lw_okq (⟨"NineOpinions$Law", "pop", "()I"⟩, 5) := ⟨⟨by decide +kernel, by decide +kernel⟩, List.mem_of_getElem? (i := 71) (by decide +kernel), List.mem_of_getElem? (i := 532) (by decide +kernel), List.mem_of_getElem? (i := 533) (by decide +kernel)⟩
theorem lw_p13 : lw_okq (⟨"NineOpinions$Law", "worked", "(II)I"⟩, 5) := ⟨⟨by decide +kernel, by decide +kernel⟩, List.mem_of_getElem? (i := 71) (by decide +kernel), List.mem_of_getElem? (i := 542) (by decide +kernel), List.mem_of_getElem? (i := 543) (by decide +kernel)⟩
theorem lw_p14 : lw_okq (⟨"NineOpinions$Thought", "beginWithAll", "()V"⟩, 6) := ⟨⟨by decide +kernel, by decide +kernel⟩, List.mem_of_getElem? (i := 121) (by decide +kernel), List.mem_of_getElem? (i := 558) (by decide +kernel), List.mem_of_getElem? (i := 559) (by decide +kernel)⟩
theorem lw_p15 : lw_okq (⟨"NineOpinions$Thought", "weighAllBoards", "()V"⟩, 6) := ⟨⟨by decide +kernel, by decide +kernel⟩, List.mem_of_getElem? (i := 121) (by decide +kernel), List.mem_of_getElem? (i := 573) (by decide +kernel), List.mem_of_getElem? (i := 574) (by decide +kernel)⟩
def lw_privs_1 : List (MethodName × Nat) := [(⟨"NineOpinions", "comes", "(LNineOpinions$Shelf;I)Z"⟩, 10), (⟨"NineOpinions$Changes", "forgetOldest", "()V"⟩, 7), (⟨"NineOpinions$Tape", "readLine", "()V"⟩, 6), (⟨"NineOpinions$Tape", "readLevel", "(II)V"⟩, 6), (⟨"NineOpinions$Tape", "readOperand", "(I)V"⟩, 6), (⟨"NineOpinions$Tape", "next", "()I"⟩, 6), (⟨"NineOpinions$Tape", "readNumber", "()V"⟩, 6), (⟨"NineOpinions$Tape", "make", "(I)V"⟩, 6), (⟨"NineOpinions$Tape", "goesOnWith", "(C)Z"⟩, 6), (⟨"NineOpinions$Thought", "weigh", "(III)I"⟩, 6), (⟨"NineOpinions$Thought", "tellLaw", "(IIII)V"⟩, 6), (⟨"NineOpinions$Law", "push", "(I)V"⟩, 5), (⟨"NineOpinions$Law", "pop", "()I"⟩, 5), (⟨"NineOpinions$Law", "worked", "(II)I"⟩, 5), (⟨"NineOpinions$Thought", "beginWithAll", "()V"⟩, 6), (⟨"NineOpinions$Thought", "weighAllBoards", "()V"⟩, 6)]
theorem lw_r1 : ∀ q ∈ lw_privs_1, lw_okq q := List.forall_mem_cons.mpr ⟨lw_p0, List.forall_mem_cons.mpr ⟨lw_p1, List.forall_mem_cons.mpr ⟨lw_p2, List.forall_mem_cons.mpr ⟨lw_p3, List.forall_mem_cons.mpr ⟨lw_p4, List.forall_mem_cons.mpr ⟨lw_p5, List.forall_mem_cons.mpr ⟨lw_p6, List.forall_mem_cons.mpr ⟨lw_p7, List.forall_mem_cons.mpr ⟨lw_p8, List.forall_mem_cons.mpr ⟨lw_p9, List.forall_mem_cons.mpr ⟨lw_p10, List.forall_mem_cons.mpr ⟨lw_p11, List.forall_mem_cons.mpr ⟨lw_p12, List.forall_mem_cons.mpr ⟨lw_p13, List.forall_mem_cons.mpr ⟨lw_p14, List.forall_mem_cons.mpr ⟨lw_p15, fun _ h => absurd h List.not_mem_nil⟩⟩⟩⟩⟩⟩⟩⟩⟩⟩⟩⟩⟩⟩⟩⟩
theorem lw_p16 : lw_okq (⟨"NineOpinions$Thought", "sumUpLeast", "()V"⟩, 6) := ⟨⟨by decide +kernel, by decide +kernel⟩, List.mem_of_getElem? (i := 121) (by decide +kernel), List.mem_of_getElem? (i := 577) (by decide +kernel), List.mem_of_getElem? (i := 578) (by decide +kernel)⟩
theorem lw_p17 : lw_okq (⟨"NineOpinions$Thought", "leastViews", "(II)I"⟩, 6) := ⟨⟨by decide +kernel, by decide +kernel⟩, List.mem_of_getElem? (i := 121) (by decide +kernel), List.mem_of_getElem? (i := 581) (by decide +kernel), List.mem_of_getElem? (i := 582) (by decide +kernel)⟩
theorem lw_p18 : lw_okq (⟨"NineOpinions$Thought", "leastWith", "(III)I"⟩, 6) := ⟨⟨by decide +kernel, by decide +kernel⟩, List.mem_of_getElem? (i := 121) (by decide +kernel), List.mem_of_getElem? (i := 585) (by decide +kernel), List.mem_of_getElem? (i := 586) (by decide +kernel)⟩
theorem lw_p19 : lw_okq (⟨"NineOpinions$Thought", "leastOf", "(II)I"⟩, 6) := ⟨⟨by decide +kernel, by decide +kernel⟩, List.mem_of_getElem? (i := 121) (by decide +kernel), List.mem_of_getElem? (i := 589) (by decide +kernel), List.mem_of_getElem? (i := 590) (by decide +kernel)⟩
theorem lw_p20 : lw_okq (⟨"NineOpinions$Votes", "believersOf", "(I)I"⟩, 1) := ⟨⟨by decide +kernel, by decide +kernel⟩, List.mem_of_getElem? (i := 166) (by decide +kernel), List.mem_of_getElem? (i := 648) (by decide +kernel), List.mem_of_getElem? (i := 649) (by decide +kernel)⟩
theorem lw_p21 : lw_okq (⟨"NineOpinions$Votes", "haveMoreThanHalf", "(I)Z"⟩, 1) := ⟨⟨by decide +kernel, by decide +kernel⟩, List.mem_of_getElem? (i := 166) (by decide +kernel), List.mem_of_getElem? (i := 657) (by decide +kernel), List.mem_of_getElem? (i := 658) (by decide +kernel)⟩
theorem lw_p22 : lw_okq (⟨"NineOpinions$Votes", "standingOf", "(I)I"⟩, 1) := ⟨⟨by decide +kernel, by decide +kernel⟩, List.mem_of_getElem? (i := 166) (by decide +kernel), List.mem_of_getElem? (i := 661) (by decide +kernel), List.mem_of_getElem? (i := 662) (by decide +kernel)⟩
theorem lw_p23 : lw_okq (⟨"NineOpinions$Turns", "best", "(IIII)I"⟩, 4) := ⟨⟨by decide +kernel, by decide +kernel⟩, List.mem_of_getElem? (i := 146) (by decide +kernel), List.mem_of_getElem? (i := 696) (by decide +kernel), List.mem_of_getElem? (i := 697) (by decide +kernel)⟩
theorem lw_p24 : lw_okq (⟨"NineOpinions", "writersOf", "(LNineOpinions$Shelf;)I"⟩, 10) := ⟨⟨by decide +kernel, by decide +kernel⟩, List.mem_of_getElem? (i := 19) (by decide +kernel), List.mem_of_getElem? (i := 745) (by decide +kernel), List.mem_of_getElem? (i := 746) (by decide +kernel)⟩
theorem lw_p25 : lw_okq (⟨"NineOpinions$Votes", "apartOn", "(III)I"⟩, 1) := ⟨⟨by decide +kernel, by decide +kernel⟩, List.mem_of_getElem? (i := 166) (by decide +kernel), List.mem_of_getElem? (i := 762) (by decide +kernel), List.mem_of_getElem? (i := 763) (by decide +kernel)⟩
theorem lw_p26 : lw_okq (⟨"NineOpinions$Votes", "standingFor", "(II)I"⟩, 1) := ⟨⟨by decide +kernel, by decide +kernel⟩, List.mem_of_getElem? (i := 166) (by decide +kernel), List.mem_of_getElem? (i := 792) (by decide +kernel), List.mem_of_getElem? (i := 793) (by decide +kernel)⟩
theorem lw_p27 : lw_okq (⟨"NineOpinions$Bodies", "run", "(IIIII)I"⟩, 4) := ⟨⟨by decide +kernel, by decide +kernel⟩, List.mem_of_getElem? (i := 239) (by decide +kernel), List.mem_of_getElem? (i := 908) (by decide +kernel), List.mem_of_getElem? (i := 909) (by decide +kernel)⟩
theorem lw_p28 : lw_okq (⟨"NineOpinions$Bodies", "note", "(I)V"⟩, 4) := ⟨⟨by decide +kernel, by decide +kernel⟩, List.mem_of_getElem? (i := 239) (by decide +kernel), List.mem_of_getElem? (i := 917) (by decide +kernel), List.mem_of_getElem? (i := 918) (by decide +kernel)⟩
theorem lw_p29 : lw_okq (⟨"NineOpinions$Bodies", "runRoot", "(IIII)I"⟩, 4) := ⟨⟨by decide +kernel, by decide +kernel⟩, List.mem_of_getElem? (i := 239) (by decide +kernel), List.mem_of_getElem? (i := 921) (by decide +kernel), List.mem_of_getElem? (i := 922) (by decide +kernel)⟩
theorem lw_p30 : lw_okq (⟨"NineOpinions$Bodies", "runUnder", "(IIIII)I"⟩, 4) := ⟨⟨by decide +kernel, by decide +kernel⟩, List.mem_of_getElem? (i := 239) (by decide +kernel), List.mem_of_getElem? (i := 925) (by decide +kernel), List.mem_of_getElem? (i := 926) (by decide +kernel)⟩
theorem lw_p31 : lw_okq (⟨"NineOpinions$Shelf", "lowestBits", "(J)J"⟩, 4) := ⟨⟨by decide +kernel, by decide +kernel⟩, List.mem_of_getElem? (i := 263) (by decide +kernel), List.mem_of_getElem? (i := 971) (by decide +kernel), List.mem_of_getElem? (i := 972) (by decide +kernel)⟩
def lw_privs_2 : List (MethodName × Nat) := [(⟨"NineOpinions$Thought", "sumUpLeast", "()V"⟩, 6), (⟨"NineOpinions$Thought", "leastViews", "(II)I"⟩, 6), (⟨"NineOpinions$Thought", "leastWith", "(III)I"⟩, 6), (⟨"NineOpinions$Thought", "leastOf", "(II)I"⟩, 6), (⟨"NineOpinions$Votes", "believersOf", "(I)I"⟩, 1), (⟨"NineOpinions$Votes", "haveMoreThanHalf", "(I)Z"⟩, 1), (⟨"NineOpinions$Votes", "standingOf", "(I)I"⟩, 1), (⟨"NineOpinions$Turns", "best", "(IIII)I"⟩, 4), (⟨"NineOpinions", "writersOf", "(LNineOpinions$Shelf;)I"⟩, 10), (⟨"NineOpinions$Votes", "apartOn", "(III)I"⟩, 1), (⟨"NineOpinions$Votes", "standingFor", "(II)I"⟩, 1), (⟨"NineOpinions$Bodies", "run", "(IIIII)I"⟩, 4), (⟨"NineOpinions$Bodies", "note", "(I)V"⟩, 4), (⟨"NineOpinions$Bodies", "runRoot", "(IIII)I"⟩, 4), (⟨"NineOpinions$Bodies", "runUnder", "(IIIII)I"⟩, 4), (⟨"NineOpinions$Shelf", "lowestBits", "(J)J"⟩, 4)]
theorem lw_r2 : ∀ q ∈ lw_privs_2, lw_okq q := List.forall_mem_cons.mpr ⟨lw_p16, List.forall_mem_cons.mpr ⟨lw_p17, List.forall_mem_cons.mpr ⟨lw_p18, List.forall_mem_cons.mpr ⟨lw_p19, List.forall_mem_cons.mpr ⟨lw_p20, List.forall_mem_cons.mpr ⟨lw_p21, List.forall_mem_cons.mpr ⟨lw_p22, List.forall_mem_cons.mpr ⟨lw_p23, List.forall_mem_cons.mpr ⟨lw_p24, List.forall_mem_cons.mpr ⟨lw_p25, List.forall_mem_cons.mpr ⟨lw_p26, List.forall_mem_cons.mpr ⟨lw_p27, List.forall_mem_cons.mpr ⟨lw_p28, List.forall_mem_cons.mpr ⟨lw_p29, List.forall_mem_cons.mpr ⟨lw_p30, List.forall_mem_cons.mpr ⟨lw_p31, fun _ h => absurd h List.not_mem_nil⟩⟩⟩⟩⟩⟩⟩⟩⟩⟩⟩⟩⟩⟩⟩⟩
theorem lw_p32 : lw_okq (⟨"NineOpinionsModel", "adds", "(II)V"⟩, 38) := ⟨⟨by decide +kernel, by decide +kernel⟩, List.mem_of_getElem? (i := 997) (by decide +kernel), List.mem_of_getElem? (i := 1134) (by decide +kernel), List.mem_of_getElem? (i := 1135) (by decide +kernel)⟩
theorem lw_p33 : lw_okq (⟨"NineOpinionsModel", "placeOf", "(II)I"⟩, 38) := ⟨⟨by decide +kernel, by decide +kernel⟩, List.mem_of_getElem? (i := 997) (by decide +kernel), List.mem_of_getElem? (i := 1152) (by decide +kernel), List.mem_of_getElem? (i := 1153) (by decide +kernel)⟩
theorem lw_p34 : lw_okq (⟨"NineOpinionsModel", "isOne", "(J)Z"⟩, 38) := ⟨⟨by decide +kernel, by decide +kernel⟩, List.mem_of_getElem? (i := 997) (by decide +kernel), List.mem_of_getElem? (i := 1156) (by decide +kernel), List.mem_of_getElem? (i := 1157) (by decide +kernel)⟩
theorem lw_p35 : lw_okq (⟨"NineOpinionsModel", "becomes", "(II)I"⟩, 38) := ⟨⟨by decide +kernel, by decide +kernel⟩, List.mem_of_getElem? (i := 997) (by decide +kernel), List.mem_of_getElem? (i := 1164) (by decide +kernel), List.mem_of_getElem? (i := 1165) (by decide +kernel)⟩
theorem lw_p36 : lw_okq (⟨"NineOpinionsModel", "workOut", "(II)I"⟩, 38) := ⟨⟨by decide +kernel, by decide +kernel⟩, List.mem_of_getElem? (i := 997) (by decide +kernel), List.mem_of_getElem? (i := 1181) (by decide +kernel), List.mem_of_getElem? (i := 1182) (by decide +kernel)⟩
theorem lw_p37 : lw_okq (⟨"NineOpinionsModel", "either", "()I"⟩, 38) := ⟨⟨by decide +kernel, by decide +kernel⟩, List.mem_of_getElem? (i := 997) (by decide +kernel), List.mem_of_getElem? (i := 1185) (by decide +kernel), List.mem_of_getElem? (i := 1186) (by decide +kernel)⟩
theorem lw_p38 : lw_okq (⟨"NineOpinionsModel", "both", "()I"⟩, 38) := ⟨⟨by decide +kernel, by decide +kernel⟩, List.mem_of_getElem? (i := 997) (by decide +kernel), List.mem_of_getElem? (i := 1189) (by decide +kernel), List.mem_of_getElem? (i := 1190) (by decide +kernel)⟩
theorem lw_p39 : lw_okq (⟨"NineOpinionsModel", "compared", "()I"⟩, 38) := ⟨⟨by decide +kernel, by decide +kernel⟩, List.mem_of_getElem? (i := 997) (by decide +kernel), List.mem_of_getElem? (i := 1193) (by decide +kernel), List.mem_of_getElem? (i := 1194) (by decide +kernel)⟩
theorem lw_p40 : lw_okq (⟨"NineOpinionsModel", "sums", "()I"⟩, 38) := ⟨⟨by decide +kernel, by decide +kernel⟩, List.mem_of_getElem? (i := 997) (by decide +kernel), List.mem_of_getElem? (i := 1197) (by decide +kernel), List.mem_of_getElem? (i := 1198) (by decide +kernel)⟩
theorem lw_p41 : lw_okq (⟨"NineOpinionsModel", "product", "()I"⟩, 38) := ⟨⟨by decide +kernel, by decide +kernel⟩, List.mem_of_getElem? (i := 997) (by decide +kernel), List.mem_of_getElem? (i := 1201) (by decide +kernel), List.mem_of_getElem? (i := 1202) (by decide +kernel)⟩
theorem lw_p42 : lw_okq (⟨"NineOpinionsModel", "one", "()I"⟩, 38) := ⟨⟨by decide +kernel, by decide +kernel⟩, List.mem_of_getElem? (i := 997) (by decide +kernel), List.mem_of_getElem? (i := 1205) (by decide +kernel), List.mem_of_getElem? (i := 1206) (by decide +kernel)⟩
theorem lw_p43 : lw_okq (⟨"NineOpinionsModel", "byteAt", "()I"⟩, 38) := ⟨⟨by decide +kernel, by decide +kernel⟩, List.mem_of_getElem? (i := 997) (by decide +kernel), List.mem_of_getElem? (i := 1209) (by decide +kernel), List.mem_of_getElem? (i := 1210) (by decide +kernel)⟩
theorem lw_p44 : lw_okq (⟨"NineOpinionsModel", "wrong", "()I"⟩, 38) := ⟨⟨by decide +kernel, by decide +kernel⟩, List.mem_of_getElem? (i := 997) (by decide +kernel), List.mem_of_getElem? (i := 1213) (by decide +kernel), List.mem_of_getElem? (i := 1214) (by decide +kernel)⟩
theorem lw_p45 : lw_okq (⟨"NineOpinionsModel", "takes", "(I)Z"⟩, 38) := ⟨⟨by decide +kernel, by decide +kernel⟩, List.mem_of_getElem? (i := 997) (by decide +kernel), List.mem_of_getElem? (i := 1217) (by decide +kernel), List.mem_of_getElem? (i := 1218) (by decide +kernel)⟩
theorem lw_p46 : lw_okq (⟨"NineOpinionsModel", "begins", "()V"⟩, 38) := ⟨⟨by decide +kernel, by decide +kernel⟩, List.mem_of_getElem? (i := 997) (by decide +kernel), List.mem_of_getElem? (i := 1229) (by decide +kernel), List.mem_of_getElem? (i := 1230) (by decide +kernel)⟩
theorem lw_p47 : lw_okq (⟨"NineOpinionsModel", "mindsOf", "(III)I"⟩, 38) := ⟨⟨by decide +kernel, by decide +kernel⟩, List.mem_of_getElem? (i := 997) (by decide +kernel), List.mem_of_getElem? (i := 1233) (by decide +kernel), List.mem_of_getElem? (i := 1234) (by decide +kernel)⟩
def lw_privs_3 : List (MethodName × Nat) := [(⟨"NineOpinionsModel", "adds", "(II)V"⟩, 38), (⟨"NineOpinionsModel", "placeOf", "(II)I"⟩, 38), (⟨"NineOpinionsModel", "isOne", "(J)Z"⟩, 38), (⟨"NineOpinionsModel", "becomes", "(II)I"⟩, 38), (⟨"NineOpinionsModel", "workOut", "(II)I"⟩, 38), (⟨"NineOpinionsModel", "either", "()I"⟩, 38), (⟨"NineOpinionsModel", "both", "()I"⟩, 38), (⟨"NineOpinionsModel", "compared", "()I"⟩, 38), (⟨"NineOpinionsModel", "sums", "()I"⟩, 38), (⟨"NineOpinionsModel", "product", "()I"⟩, 38), (⟨"NineOpinionsModel", "one", "()I"⟩, 38), (⟨"NineOpinionsModel", "byteAt", "()I"⟩, 38), (⟨"NineOpinionsModel", "wrong", "()I"⟩, 38), (⟨"NineOpinionsModel", "takes", "(I)Z"⟩, 38), (⟨"NineOpinionsModel", "begins", "()V"⟩, 38), (⟨"NineOpinionsModel", "mindsOf", "(III)I"⟩, 38)]
theorem lw_r3 : ∀ q ∈ lw_privs_3, lw_okq q := List.forall_mem_cons.mpr ⟨lw_p32, List.forall_mem_cons.mpr ⟨lw_p33, List.forall_mem_cons.mpr ⟨lw_p34, List.forall_mem_cons.mpr ⟨lw_p35, List.forall_mem_cons.mpr ⟨lw_p36, List.forall_mem_cons.mpr ⟨lw_p37, List.forall_mem_cons.mpr ⟨lw_p38, List.forall_mem_cons.mpr ⟨lw_p39, List.forall_mem_cons.mpr ⟨lw_p40, List.forall_mem_cons.mpr ⟨lw_p41, List.forall_mem_cons.mpr ⟨lw_p42, List.forall_mem_cons.mpr ⟨lw_p43, List.forall_mem_cons.mpr ⟨lw_p44, List.forall_mem_cons.mpr ⟨lw_p45, List.forall_mem_cons.mpr ⟨lw_p46, List.forall_mem_cons.mpr ⟨lw_p47, fun _ h => absurd h List.not_mem_nil⟩⟩⟩⟩⟩⟩⟩⟩⟩⟩⟩⟩⟩⟩⟩⟩
theorem lw_p48 : lw_okq (⟨"NineOpinionsModel", "viewOf", "(II)I"⟩, 38) := ⟨⟨by decide +kernel, by decide +kernel⟩, List.mem_of_getElem? (i := 997) (by decide +kernel), List.mem_of_getElem? (i := 1237) (by decide +kernel), List.mem_of_getElem? (i := 1238) (by decide +kernel)⟩
theorem lw_p49 : lw_okq (⟨"NineOpinionsModel", "ifChanged", "(II)I"⟩, 38) := ⟨⟨by decide +kernel, by decide +kernel⟩, List.mem_of_getElem? (i := 997) (by decide +kernel), List.mem_of_getElem? (i := 1257) (by decide +kernel), List.mem_of_getElem? (i := 1258) (by decide +kernel)⟩
theorem lw_p50 : lw_okq (⟨"NineOpinionsModel", "allMind", "(I)I"⟩, 38) := ⟨⟨by decide +kernel, by decide +kernel⟩, List.mem_of_getElem? (i := 997) (by decide +kernel), List.mem_of_getElem? (i := 1261) (by decide +kernel), List.mem_of_getElem? (i := 1262) (by decide +kernel)⟩
theorem lw_p51 : lw_okq (⟨"NineOpinionsModel", "mindsAll", "(II)I"⟩, 38) := ⟨⟨by decide +kernel, by decide +kernel⟩, List.mem_of_getElem? (i := 997) (by decide +kernel), List.mem_of_getElem? (i := 1265) (by decide +kernel), List.mem_of_getElem? (i := 1266) (by decide +kernel)⟩
theorem lw_p52 : lw_okq (⟨"NineOpinionsModel", "nearestBoard", "(Z)I"⟩, 38) := ⟨⟨by decide +kernel, by decide +kernel⟩, List.mem_of_getElem? (i := 997) (by decide +kernel), List.mem_of_getElem? (i := 1273) (by decide +kernel), List.mem_of_getElem? (i := 1274) (by decide +kernel)⟩
theorem lw_p53 : lw_okq (⟨"NineOpinionsModel", "matterMinds", "(II)I"⟩, 38) := ⟨⟨by decide +kernel, by decide +kernel⟩, List.mem_of_getElem? (i := 997) (by decide +kernel), List.mem_of_getElem? (i := 1277) (by decide +kernel), List.mem_of_getElem? (i := 1278) (by decide +kernel)⟩
theorem lw_p54 : lw_okq (⟨"NineOpinionsModel", "isRoom", "(I)Z"⟩, 38) := ⟨⟨by decide +kernel, by decide +kernel⟩, List.mem_of_getElem? (i := 997) (by decide +kernel), List.mem_of_getElem? (i := 1290) (by decide +kernel), List.mem_of_getElem? (i := 1291) (by decide +kernel)⟩
theorem lw_p55 : lw_okq (⟨"NineOpinionsModel", "mayStrike", "(II)Z"⟩, 38) := ⟨⟨by decide +kernel, by decide +kernel⟩, List.mem_of_getElem? (i := 997) (by decide +kernel), List.mem_of_getElem? (i := 1299) (by decide +kernel), List.mem_of_getElem? (i := 1300) (by decide +kernel)⟩
theorem lw_p56 : lw_okq (⟨"NineOpinionsModel", "isBelieved", "(II)Z"⟩, 38) := ⟨⟨by decide +kernel, by decide +kernel⟩, List.mem_of_getElem? (i := 997) (by decide +kernel), List.mem_of_getElem? (i := 1303) (by decide +kernel), List.mem_of_getElem? (i := 1304) (by decide +kernel)⟩
theorem lw_p57 : lw_okq (⟨"NineOpinionsModel", "believers", "(I)I"⟩, 38) := ⟨⟨by decide +kernel, by decide +kernel⟩, List.mem_of_getElem? (i := 997) (by decide +kernel), List.mem_of_getElem? (i := 1307) (by decide +kernel), List.mem_of_getElem? (i := 1308) (by decide +kernel)⟩
theorem lw_p58 : lw_okq (⟨"NineOpinionsModel", "playFrom", "(IIIII)I"⟩, 38) := ⟨⟨by decide +kernel, by decide +kernel⟩, List.mem_of_getElem? (i := 997) (by decide +kernel), List.mem_of_getElem? (i := 1325) (by decide +kernel), List.mem_of_getElem? (i := 1326) (by decide +kernel)⟩
theorem lw_p59 : lw_okq (⟨"NineOpinionsModel", "bytesIs", "(I)I"⟩, 38) := ⟨⟨by decide +kernel, by decide +kernel⟩, List.mem_of_getElem? (i := 997) (by decide +kernel), List.mem_of_getElem? (i := 1333) (by decide +kernel), List.mem_of_getElem? (i := 1334) (by decide +kernel)⟩
theorem lw_p60 : lw_okq (⟨"NineOpinionsModel", "firstFalse", "(II)I"⟩, 38) := ⟨⟨by decide +kernel, by decide +kernel⟩, List.mem_of_getElem? (i := 997) (by decide +kernel), List.mem_of_getElem? (i := 1337) (by decide +kernel), List.mem_of_getElem? (i := 1338) (by decide +kernel)⟩
theorem lw_p61 : lw_okq (⟨"NineOpinionsModel", "fitsView", "(III)Z"⟩, 38) := ⟨⟨by decide +kernel, by decide +kernel⟩, List.mem_of_getElem? (i := 997) (by decide +kernel), List.mem_of_getElem? (i := 1345) (by decide +kernel), List.mem_of_getElem? (i := 1346) (by decide +kernel)⟩
theorem lw_p62 : lw_okq (⟨"NineOpinionsModel", "farOf", "(II)I"⟩, 38) := ⟨⟨by decide +kernel, by decide +kernel⟩, List.mem_of_getElem? (i := 997) (by decide +kernel), List.mem_of_getElem? (i := 1358) (by decide +kernel), List.mem_of_getElem? (i := 1359) (by decide +kernel)⟩
theorem lw_p63 : lw_okq (⟨"NineOpinionsModel", "standingWith", "(I)I"⟩, 38) := ⟨⟨by decide +kernel, by decide +kernel⟩, List.mem_of_getElem? (i := 997) (by decide +kernel), List.mem_of_getElem? (i := 1370) (by decide +kernel), List.mem_of_getElem? (i := 1371) (by decide +kernel)⟩
def lw_privs_4 : List (MethodName × Nat) := [(⟨"NineOpinionsModel", "viewOf", "(II)I"⟩, 38), (⟨"NineOpinionsModel", "ifChanged", "(II)I"⟩, 38), (⟨"NineOpinionsModel", "allMind", "(I)I"⟩, 38), (⟨"NineOpinionsModel", "mindsAll", "(II)I"⟩, 38), (⟨"NineOpinionsModel", "nearestBoard", "(Z)I"⟩, 38), (⟨"NineOpinionsModel", "matterMinds", "(II)I"⟩, 38), (⟨"NineOpinionsModel", "isRoom", "(I)Z"⟩, 38), (⟨"NineOpinionsModel", "mayStrike", "(II)Z"⟩, 38), (⟨"NineOpinionsModel", "isBelieved", "(II)Z"⟩, 38), (⟨"NineOpinionsModel", "believers", "(I)I"⟩, 38), (⟨"NineOpinionsModel", "playFrom", "(IIIII)I"⟩, 38), (⟨"NineOpinionsModel", "bytesIs", "(I)I"⟩, 38), (⟨"NineOpinionsModel", "firstFalse", "(II)I"⟩, 38), (⟨"NineOpinionsModel", "fitsView", "(III)Z"⟩, 38), (⟨"NineOpinionsModel", "farOf", "(II)I"⟩, 38), (⟨"NineOpinionsModel", "standingWith", "(I)I"⟩, 38)]
theorem lw_r4 : ∀ q ∈ lw_privs_4, lw_okq q := List.forall_mem_cons.mpr ⟨lw_p48, List.forall_mem_cons.mpr ⟨lw_p49, List.forall_mem_cons.mpr ⟨lw_p50, List.forall_mem_cons.mpr ⟨lw_p51, List.forall_mem_cons.mpr ⟨lw_p52, List.forall_mem_cons.mpr ⟨lw_p53, List.forall_mem_cons.mpr ⟨lw_p54, List.forall_mem_cons.mpr ⟨lw_p55, List.forall_mem_cons.mpr ⟨lw_p56, List.forall_mem_cons.mpr ⟨lw_p57, List.forall_mem_cons.mpr ⟨lw_p58, List.forall_mem_cons.mpr ⟨lw_p59, List.forall_mem_cons.mpr ⟨lw_p60, List.forall_mem_cons.mpr ⟨lw_p61, List.forall_mem_cons.mpr ⟨lw_p62, List.forall_mem_cons.mpr ⟨lw_p63, fun _ h => absurd h List.not_mem_nil⟩⟩⟩⟩⟩⟩⟩⟩⟩⟩⟩⟩⟩⟩⟩⟩
theorem lw_p64 : lw_okq (⟨"NineOpinionsModel", "isBody", "(I)Z"⟩, 38) := ⟨⟨by decide +kernel, by decide +kernel⟩, List.mem_of_getElem? (i := 997) (by decide +kernel), List.mem_of_getElem? (i := 1417) (by decide +kernel), List.mem_of_getElem? (i := 1418) (by decide +kernel)⟩
theorem lw_p65 : lw_okq (⟨"NineOpinionsModel", "holdsAs", "(II)I"⟩, 38) := ⟨⟨by decide +kernel, by decide +kernel⟩, List.mem_of_getElem? (i := 997) (by decide +kernel), List.mem_of_getElem? (i := 1421) (by decide +kernel), List.mem_of_getElem? (i := 1422) (by decide +kernel)⟩
theorem lw_p66 : lw_okq (⟨"NineOpinionsModel", "runs", "(I)V"⟩, 38) := ⟨⟨by decide +kernel, by decide +kernel⟩, List.mem_of_getElem? (i := 997) (by decide +kernel), List.mem_of_getElem? (i := 1425) (by decide +kernel), List.mem_of_getElem? (i := 1426) (by decide +kernel)⟩
theorem lw_p67 : lw_okq (⟨"NineOpinionsModel", "mindsAs", "(II)I"⟩, 38) := ⟨⟨by decide +kernel, by decide +kernel⟩, List.mem_of_getElem? (i := 997) (by decide +kernel), List.mem_of_getElem? (i := 1429) (by decide +kernel), List.mem_of_getElem? (i := 1430) (by decide +kernel)⟩
theorem lw_p68 : lw_okq (⟨"NineOpinionsModel", "tradesAs", "(II)I"⟩, 38) := ⟨⟨by decide +kernel, by decide +kernel⟩, List.mem_of_getElem? (i := 997) (by decide +kernel), List.mem_of_getElem? (i := 1433) (by decide +kernel), List.mem_of_getElem? (i := 1434) (by decide +kernel)⟩
theorem lw_p69 : lw_okq (⟨"NineOpinionsModel", "tellsAs", "(II)I"⟩, 38) := ⟨⟨by decide +kernel, by decide +kernel⟩, List.mem_of_getElem? (i := 997) (by decide +kernel), List.mem_of_getElem? (i := 1437) (by decide +kernel), List.mem_of_getElem? (i := 1438) (by decide +kernel)⟩
theorem lw_p70 : lw_okq (⟨"NineOpinionsModel", "refusal", "(II)I"⟩, 38) := ⟨⟨by decide +kernel, by decide +kernel⟩, List.mem_of_getElem? (i := 997) (by decide +kernel), List.mem_of_getElem? (i := 1457) (by decide +kernel), List.mem_of_getElem? (i := 1458) (by decide +kernel)⟩
theorem lw_p71 : lw_okq (⟨"NineOpinionsModel", "kindOf", "(I)I"⟩, 38) := ⟨⟨by decide +kernel, by decide +kernel⟩, List.mem_of_getElem? (i := 997) (by decide +kernel), List.mem_of_getElem? (i := 1477) (by decide +kernel), List.mem_of_getElem? (i := 1478) (by decide +kernel)⟩
def lw_privs_5 : List (MethodName × Nat) := [(⟨"NineOpinionsModel", "isBody", "(I)Z"⟩, 38), (⟨"NineOpinionsModel", "holdsAs", "(II)I"⟩, 38), (⟨"NineOpinionsModel", "runs", "(I)V"⟩, 38), (⟨"NineOpinionsModel", "mindsAs", "(II)I"⟩, 38), (⟨"NineOpinionsModel", "tradesAs", "(II)I"⟩, 38), (⟨"NineOpinionsModel", "tellsAs", "(II)I"⟩, 38), (⟨"NineOpinionsModel", "refusal", "(II)I"⟩, 38), (⟨"NineOpinionsModel", "kindOf", "(I)I"⟩, 38)]
theorem lw_r5 : ∀ q ∈ lw_privs_5, lw_okq q := List.forall_mem_cons.mpr ⟨lw_p64, List.forall_mem_cons.mpr ⟨lw_p65, List.forall_mem_cons.mpr ⟨lw_p66, List.forall_mem_cons.mpr ⟨lw_p67, List.forall_mem_cons.mpr ⟨lw_p68, List.forall_mem_cons.mpr ⟨lw_p69, List.forall_mem_cons.mpr ⟨lw_p70, List.forall_mem_cons.mpr ⟨lw_p71, fun _ h => absurd h List.not_mem_nil⟩⟩⟩⟩⟩⟩⟩⟩
def lw_privs : List (MethodName × Nat) := lw_privs_1 ++ (lw_privs_2 ++ (lw_privs_3 ++ (lw_privs_4 ++ (lw_privs_5))))
def lw_tbl : List Cond := k2_sels lw_privs ++ tables_1
theorem lw_privs_ok : ∀ q ∈ lw_privs, lw_okq q := by
  show ∀ q ∈ lw_privs_1 ++ (lw_privs_2 ++ (lw_privs_3 ++ (lw_privs_4 ++ (lw_privs_5)))), lw_okq q
  exact List.forall_mem_append.mpr ⟨lw_r1, List.forall_mem_append.mpr ⟨lw_r2, List.forall_mem_append.mpr ⟨lw_r3, List.forall_mem_append.mpr ⟨lw_r4, lw_r5⟩⟩⟩⟩
end
section
/-! PART 02: THE PURE WORLD. Cells made since the law's start lie one behind another: a pure reference i + 3 is the cell at z + i; 0 and 1 are the two static tables, 2 is the script. -/
def zx_tbl : List Cond := lw_tbl.filter goodWord
theorem zx_good : GoodIn zx_tbl zx_tbl := fun w h => ⟨h, good_of_word (List.mem_filter.mp h).2⟩
def zx_q (i : Nat) (w : Cond) : Bool := decide (lw_tbl[i]? = some w) && goodWord w
theorem zx_of {i : Nat} {w : Cond} (h : zx_q i w = true) : w ∈ zx_tbl := by
  simp only [zx_q, Bool.and_eq_true, decide_eq_true_eq] at h
  exact List.mem_filter.mpr ⟨List.mem_of_getElem? h.1, h.2⟩
/-- the classes whose objects there are: name, fields (declaring class, name, descriptor, final) -/
def zc_L : List (String × List (String × String × String × Bool)) := [
  ("NineOpinions", [("NineOpinions", "town", "LNineOpinions$Town;", true), ("NineOpinions", "law", "LNineOpinions$Law;", true), ("NineOpinions", "tape", "LNineOpinions$Tape;", true), ("NineOpinions", "thought", "LNineOpinions$Thought;", true), ("NineOpinions", "turns", "LNineOpinions$Turns;", true), ("NineOpinions", "votes", "LNineOpinions$Votes;", true), ("NineOpinions", "deeds", "LNineOpinions$Deeds;", true), ("NineOpinions", "changes", "LNineOpinions$Changes;", true), ("NineOpinions", "bodies", "LNineOpinions$Bodies;", true), ("NineOpinions", "shelves", "[LNineOpinions$Shelf;", true)]),
  ("NineOpinions$Town", [("NineOpinions$Town", "worn", "[I", true), ("NineOpinions$Town", "beliefs", "[I", true), ("NineOpinions$Town", "standings", "[I", true), ("NineOpinions$Town", "lines", "I", false), ("NineOpinions$Town", "room", "I", false), ("NineOpinions$Town", "people", "I", false)]),
  ("NineOpinions$Law", [("NineOpinions$Law", "steps", "[I", true), ("NineOpinions$Law", "stack", "[I", true), ("NineOpinions$Law", "names", "[I", true), ("NineOpinions$Law", "length", "I", false), ("NineOpinions$Law", "top", "I", false)]),
  ("NineOpinions$Tape", [("NineOpinions$Tape", "bytes", "[I", true), ("NineOpinions$Tape", "codes", "[I", true), ("NineOpinions$Tape", "length", "I", false), ("NineOpinions$Tape", "made", "I", false), ("NineOpinions$Tape", "at", "I", false), ("NineOpinions$Tape", "broken", "Z", false)]),
  ("NineOpinions$Thought", [("NineOpinions$Thought", "town", "LNineOpinions$Town;", true), ("NineOpinions$Thought", "law", "LNineOpinions$Law;", true), ("NineOpinions$Thought", "weighed", "[I", true), ("NineOpinions$Thought", "least", "[I", true), ("NineOpinions$Thought", "added", "I", false), ("NineOpinions$Thought", "taken", "I", false)]),
  ("NineOpinions$Turns", [("NineOpinions$Turns", "town", "LNineOpinions$Town;", true), ("NineOpinions$Turns", "thought", "LNineOpinions$Thought;", true), ("NineOpinions$Turns", "times", "I", false), ("NineOpinions$Turns", "bestFirst", "I", false)]),
  ("NineOpinions$Votes", [("NineOpinions$Votes", "town", "LNineOpinions$Town;", true)]),
  ("NineOpinions$Deeds", [("NineOpinions$Deeds", "town", "LNineOpinions$Town;", true), ("NineOpinions$Deeds", "led", "[I", true), ("NineOpinions$Deeds", "hasImage", "Z", false), ("NineOpinions$Deeds", "linesThen", "I", false), ("NineOpinions$Deeds", "peopleThen", "I", false), ("NineOpinions$Deeds", "wornThen", "[I", true), ("NineOpinions$Deeds", "beliefsThen", "[I", true), ("NineOpinions$Deeds", "ledThen", "[I", true)]),
  ("NineOpinions$Changes", [("NineOpinions$Changes", "town", "LNineOpinions$Town;", true), ("NineOpinions$Changes", "whats", "[I", true), ("NineOpinions$Changes", "numbers", "[I", true), ("NineOpinions$Changes", "befores", "[I", true), ("NineOpinions$Changes", "afters", "[I", true), ("NineOpinions$Changes", "undoable", "I", false), ("NineOpinions$Changes", "kept", "I", false)]),
  ("NineOpinions$Bodies", [("NineOpinions$Bodies", "kinds", "[I", true), ("NineOpinions$Bodies", "trail", "[I", true), ("NineOpinions$Bodies", "number", "I", false), ("NineOpinions$Bodies", "ran", "I", false)]),
  ("NineOpinions$Shelf", [("NineOpinions$Shelf", "cells", "[J", true), ("NineOpinions$Shelf", "body", "I", false), ("NineOpinions$Shelf", "sort", "I", false), ("NineOpinions$Shelf", "length", "I", false)]),
  ("NineOpinionsModel", [("NineOpinionsModel", "may", "[I", true), ("NineOpinionsModel", "changeAt", "[I", true), ("NineOpinionsModel", "changeWas", "[I", true), ("NineOpinionsModel", "changeIs", "[I", true), ("NineOpinionsModel", "keptMany", "I", false), ("NineOpinionsModel", "done", "I", false), ("NineOpinionsModel", "people", "I", false), ("NineOpinionsModel", "stands", "I", false), ("NineOpinionsModel", "tape", "[I", true), ("NineOpinionsModel", "tapeMany", "I", false), ("NineOpinionsModel", "text", "[I", true), ("NineOpinionsModel", "textMany", "I", false), ("NineOpinionsModel", "base", "I", false), ("NineOpinionsModel", "at", "I", false), ("NineOpinionsModel", "ends", "I", false), ("NineOpinionsModel", "fault", "I", false), ("NineOpinionsModel", "opened", "I", false), ("NineOpinionsModel", "names", "[I", true), ("NineOpinionsModel", "worn", "[I", true), ("NineOpinionsModel", "leastBy", "[I", true), ("NineOpinionsModel", "mindsBy", "[I", true), ("NineOpinionsModel", "ledNow", "[I", true), ("NineOpinionsModel", "isKept", "Z", false), ("NineOpinionsModel", "imagePeople", "I", false), ("NineOpinionsModel", "imageStands", "I", false), ("NineOpinionsModel", "imageBelief", "[I", true), ("NineOpinionsModel", "imageWorn", "[I", true), ("NineOpinionsModel", "imageLed", "[I", true), ("NineOpinionsModel", "bodies", "I", false), ("NineOpinionsModel", "bodyKind", "[I", true), ("NineOpinionsModel", "trace", "[I", true), ("NineOpinionsModel", "ran", "I", false), ("NineOpinionsModel", "ownKind", "I", false), ("NineOpinionsModel", "ownNumber", "I", false), ("NineOpinionsModel", "shelf", "[I", true), ("NineOpinionsModel", "many", "[I", true), ("NineOpinionsModel", "items", "[J", true), ("NineOpinionsModel", "carried", "[J", true)])]
/-- the places of the words that lay these fields -/
def zc_P : List (List Nat) := [
  [369, 371, 373, 375, 377, 379, 381, 383, 385, 387],
  [128, 130, 132, 134, 136, 138],
  [153, 155, 157, 159, 161],
  [179, 181, 183, 185, 187, 189],
  [204, 206, 208, 210, 212, 214],
  [228, 230, 232, 234],
  [244],
  [263, 265, 267, 269, 271, 273, 275, 277],
  [295, 297, 299, 301, 303, 305, 307],
  [324, 326, 328, 330],
  [349, 351, 353, 355],
  [1112, 1114, 1116, 1118, 1120, 1122, 1124, 1126, 1128, 1130, 1132, 1134, 1136, 1138, 1140, 1142, 1144, 1146, 1148, 1150, 1152, 1154, 1156, 1158, 1160, 1162, 1164, 1166, 1168, 1170, 1172, 1174, 1176, 1178, 1180, 1182, 1184, 1186]]
def zc_T (fs : List (String × String × String × Bool)) : u_T := fun k => fs.getD k ("", "", "", false)
def zc : List vw_C := zc_L.map (fun q => (q.1, zc_T q.2, q.2.length))
def zc_ok (ci : Nat) : Bool := match zc[ci]? with
  | some q => (List.range q.2.2).all (fun k => zx_q ((zc_P.getD ci []).getD k 0) (u_lay q.1 q.2.1 k))
  | none => true
theorem zc_ok_all : (List.range 12).all zc_ok = true := by decide +kernel
theorem zc_len : zc.length = 12 := by decide +kernel
theorem zc_lt {ci : Nat} {q : vw_C} (h : zc[ci]? = some q) : ci < 12 := by
  have := (List.getElem?_eq_some_iff.mp h).1
  rw [zc_len] at this
  exact this
theorem zc_in {ci : Nat} {q : vw_C} (h : zc[ci]? = some q) : ∀ w ∈ u_ws q.1 q.2.1 q.2.2, w ∈ zx_tbl := by
  intro w hw
  obtain ⟨k, hk, rfl⟩ := List.mem_map.mp hw
  have h1 := List.all_eq_true.mp zc_ok_all ci (List.mem_range.mpr (zc_lt h))
  unfold zc_ok at h1
  rw [h] at h1
  exact zx_of (List.all_eq_true.mp h1 k hk)
def zc_ty (q : vw_C) (k : Nat) : FieldType := (parseFieldDescriptor (q.2.1 k).2.2.1).getD .int
theorem zc_tyB : (List.range 12).all (fun ci => match zc[ci]? with
  | some q => (List.range q.2.2).all (fun k => (parseFieldDescriptor (q.2.1 k).2.2.1).isSome)
  | none => true) = true := by decide +kernel
theorem zc_tyOk {ci : Nat} {q : vw_C} (h : zc[ci]? = some q) : ∀ k, k < q.2.2 → parseFieldDescriptor (q.2.1 k).2.2.1 = some (zc_ty q k) := by
  intro k hk
  have h1 := List.all_eq_true.mp zc_tyB ci (List.mem_range.mpr (zc_lt h))
  rw [h] at h1
  have h2 := List.all_eq_true.mp h1 k (List.mem_range.mpr hk)
  obtain ⟨t, ht⟩ := Option.isSome_iff_exists.mp h2
  rw [ht]
  simp [zc_ty, ht]
theorem zc_nmB : (List.range 12).all (fun ci => match zc[ci]? with
  | some q => (List.range q.2.2).all (fun a => (List.range q.2.2).all (fun b => a == b || decide ((q.2.1 a).2.1 ≠ (q.2.1 b).2.1)))
  | none => true) = true := by decide +kernel
theorem zc_nm {ci : Nat} {q : vw_C} (h : zc[ci]? = some q) : ∀ a, a < q.2.2 → ∀ b, b < q.2.2 → a ≠ b → (q.2.1 a).2.1 ≠ (q.2.1 b).2.1 := by
  intro a ha b hb hab
  have h1 := List.all_eq_true.mp zc_nmB ci (List.mem_range.mpr (zc_lt h))
  rw [h] at h1
  have h2 := List.all_eq_true.mp (List.all_eq_true.mp h1 a (List.mem_range.mpr ha)) b (List.mem_range.mpr hb)
  simp only [Bool.or_eq_true, beq_iff_eq, decide_eq_true_eq] at h2
  rcases h2 with h2 | h2
  · exact absurd h2 hab
  · exact h2
/-- what a machine start gives: (z, the tables' cells, the script's cell), the classes' numbers, the array classes' numbers -/
abbrev zx_K : Type := (Nat × Nat × Nat × Nat) × va_G × (Nat → ClassId)
def zk_z (K : zx_K) : Nat := K.1.1
def zk_o (K : zx_K) : Nat := K.1.2.1
def zk_a (K : zx_K) : Nat := K.1.2.2.1
def zk_b (K : zx_K) : Nat := K.1.2.2.2
def zk_D (K : zx_K) : va_G := K.2.1
def zk_c (K : zx_K) : Nat → ClassId := K.2.2
def zk_A (K : zx_K) : Nat → Prop := fun q => zk_z K ≤ q
/-- the script: how many ints, which -/
abbrev zx_X : Type := Nat × (Nat → Int32)
def z_ad (K : zx_K) : Nat → Nat
  | 0 => zk_o K
  | 1 => zk_a K
  | 2 => zk_b K
  | j + 3 => zk_z K + j
def z_em (K : zx_K) : Value → Value
  | .ref i => .ref (z_ad K i)
  | v => v
theorem z_emc (K : zx_K) (v : Value) : (z_em K v).category = v.category := by cases v <;> rfl
abbrev z_S : Type := (Nat → Int32) ⊕ (Nat → Int64) ⊕ (Nat → UInt32) ⊕ (Nat → UInt64) ⊕ (Nat → Option Nat)
def z_ax (K : zx_K) : z_S → z_S
  | .inl f => .inl f
  | .inr (.inl f) => .inr (.inl f)
  | .inr (.inr (.inl f)) => .inr (.inr (.inl f))
  | .inr (.inr (.inr (.inl f))) => .inr (.inr (.inr (.inl f)))
  | .inr (.inr (.inr (.inr f))) => .inr (.inr (.inr (.inr (fun j => (f j).map (z_ad K)))))
/-- a pure cell: an array (its class by number, its length, what it holds), or an object (its class by number, its fields) -/
abbrev z_C : Type := (Nat × Nat × z_S) ⊕ (Nat × List Value)
def z_ce (K : zx_K) : z_C → va_E
  | .inl q => .inl (zk_c K q.1, q.2.1, z_ax K q.2.2)
  | .inr q => .inr (q.1, q.2.map (z_em K))
def z_ws (K : zx_K) (ph : List z_C) : va_W := ph.mapIdx (fun i c => (zk_z K + i, z_ce K c))
theorem z_ws_get {K : zx_K} {ph : List z_C} {i : Nat} {c : z_C} (h : ph[i]? = some c) : (z_ws K ph)[i]? = some (zk_z K + i, z_ce K c) := by
  simp [z_ws, List.getElem?_mapIdx, h]
theorem z_ws_inv {K : zx_K} {ph : List z_C} {i : Nat} {q : Nat × va_E} (h : (z_ws K ph)[i]? = some q) : ∃ c, ph[i]? = some c ∧ q = (zk_z K + i, z_ce K c) := by
  simp only [z_ws, List.getElem?_mapIdx, Option.map_eq_some_iff] at h
  obtain ⟨c, h1, h2⟩ := h
  exact ⟨c, h1, h2.symm⟩
theorem z_ws_set (K : zx_K) (ph : List z_C) (i : Nat) (c : z_C) : (z_ws K ph).set i (zk_z K + i, z_ce K c) = z_ws K (ph.set i c) := by
  apply List.ext_getElem?
  intro j
  simp only [z_ws, List.getElem?_mapIdx, List.getElem?_set, List.length_mapIdx]
  by_cases hij : i = j
  · subst hij
    by_cases hl : i < ph.length
    · simp [hl]
    · simp [hl]
  · simp [hij]
theorem z_ws_push (K : zx_K) (ph : List z_C) (c : z_C) : z_ws K (ph ++ [c]) = z_ws K ph ++ [(zk_z K + ph.length, z_ce K c)] := by
  simp [z_ws, List.mapIdx_append]
theorem z_wsD (K : zx_K) (ph : List z_C) : va_D (zk_A K) (z_ws K ph) := by
  refine ⟨fun i j p q hi hj h => ?_, fun k q hk => ?_⟩
  · obtain ⟨c1, -, rfl⟩ := z_ws_inv hi
    obtain ⟨c2, -, rfl⟩ := z_ws_inv hj
    have h' : zk_z K + i = zk_z K + j := h
    omega
  · obtain ⟨c1, -, rfl⟩ := z_ws_inv hk
    exact Nat.le_add_right _ _
def zs_own : List Int32 := [1, 10, 11, 2, 20, 0, 0, 0, 0, 30, 0, 0, 0, 41, 40, 0, 0, 0, 50, 0, 0, 0, 0, 60, 70, 0, 0, 0, 0, 80, 0, 81]
def zs_abv : List Int32 := [-1, 0, 0, 2, 1, 3, 0, 4]
def zs_B : String := "NineOpinions$Bodies"
def zs_S : String := "NineOpinions$Shelf"
/-- what is there before the law begins, and stays: the tables, the script -/
def z_St (K : zx_K) (X : zx_X) (U : State) (H : Heap) : Prop :=
  va_Z zs_B "OWN" "[I" (.ref (zk_o K)) (zk_A K) U H ∧ va_Z zs_B "ABOVE" "[I" (.ref (zk_a K)) (zk_A K) U H ∧
  va_T .int (zk_o K) 32 (fun j => .int (zs_own.getD j 0)) (zk_A K) U H ∧ va_T .int (zk_a K) 8 (fun j => .int (zs_abv.getD j 0)) (zk_A K) U H ∧
  va_X (zk_b K) X.1 X.2 U H ∧ zk_b K < zk_z K ∧ va_AO zs_S U
theorem z_St.moved {K : zx_K} {X : zx_X} {u U : State} {H : Heap} (hvm : u.vm.Alike U.vm) (h : z_St K X u H) : z_St K X U H := by
  obtain ⟨h1, h2, h3, h4, h5, h6, h7⟩ := h
  exact ⟨h1.moved hvm, h2.moved hvm, h3.moved hvm, h4.moved hvm, h5.moved hvm, h6, h7.moved hvm⟩
theorem z_St.kept {K : zx_K} {X : zx_X} {U : State} {H H1 : Heap} (h : z_St K X U H) (hz : zk_z K ≤ H.size) (hq : ∀ a : Nat, a < H.size → ¬ zk_A K a → H1[a]? = H[a]?) : z_St K X U H1 := by
  obtain ⟨h1, h2, h3, h4, h5, h6, h7⟩ := h
  exact ⟨h1.kept hq, h2.kept hq, h3.kept hq, h4.kept hq, h5.kept (hq _ (Nat.lt_of_lt_of_le h6 hz) (Nat.not_le.mpr h6)), h6, h7⟩
def z_tys (K : zx_K) : List (ClassId × FieldType) := [(zk_c K 0, .int), (zk_c K 1, .long), (zk_c K 2, .object zs_S)]
/-- the heap H is the pure one; since s.heap nothing old has changed; so many cells were made since -/
def zWo (K : zx_K) (s : State) (H : Heap) (locs : List Loc) (ph : List z_C) (cells : Nat) : Prop :=
  s.heap.size + cells = zk_z K + ph.length ∧ va_P (zk_D K) zc (z_ws K ph) H ∧ va_S (zk_A K) s.heap H locs
theorem z_size {p : Program} {l : Launch} {e : Env} {R : Room} {s : State} {m : MethodId} {args : Array Value} {below : List Frame} {meth : Method} {c : Code} {T : State} {locs : List Loc} {cells slots : Nat} {K : zx_K} {ph : List z_C}
    (X : Stand p l e R s m args below meth c T locs cells slots) (hz : zk_z K ≤ s.heap.size) (w : zWo K s T.heap locs ph cells) : T.heap.size = zk_z K + ph.length := by
  obtain ⟨h1, h2, h3⟩ := w
  have hu : T.heap.size ≤ s.heap.size + cells := X.same.2.2.1
  have hl : zk_z K + ph.length ≤ T.heap.size := by
    by_cases h0 : ph.length = 0
    · have := h3.1
      omega
    · have hlt : ph.length - 1 < ph.length := by omega
      obtain ⟨c0, hc0⟩ : ∃ c0, ph[ph.length - 1]? = some c0 := ⟨_, List.getElem?_eq_getElem hlt⟩
      have := (h2 _ _ (z_ws_get (K := K) hc0)).lt
      have h4 : zk_z K + (ph.length - 1) < T.heap.size := this
      omega
  omega
end
section
/-! PART 03: ZW, the machine over the pure world: a row an instruction. -/
/-- a method: its name, its bytes, how many locals, what it returns -/
abbrev zx_Y : Type := MethodName × ByteArray × Nat × Option FieldType
def zx_wd (y : zx_Y) : List Cond := .code y.1 y.2.1 y.2.2.1 y.2.2.2 :: zx_tbl
def zCx (K : zx_K) (X : zx_X) (y : zx_Y) (p : Program) (s : State) (m : MethodId) (args : Array Value) (meth : Method) (c : Code) : Prop :=
  p.tables.exec = Jvm.exec ∧ c.code = y.2.1 ∧ c.maxLocals = y.2.2.1 ∧ s.vm.findClass y.1.cls = some m.cls ∧ (∀ w ∈ zx_tbl, w.before args s = true) ∧
  va_K (zk_D K) zc (z_tys K) s ∧ z_St K X s s.heap ∧ zk_z K ≤ s.heap.size ∧ (y.1.name = "<init>" → meth.name = "<init>")
/-- how a method ends: which instruction with which answer -/
def zEn (y : zx_Y) (pc : Nat) (v : Option Value) : Prop :=
  (∃ (x : Int32) (ty : FieldType), v = some (.int x) ∧ decode y.2.1 pc = .ok (.ireturn, 1) ∧ y.2.2.2 = some ty ∧ narrow ty (.int x) = .int x) ∨
  (∃ x : Int64, v = some (.long x) ∧ decode y.2.1 pc = .ok (.lreturn, 1) ∧ y.2.2.2 = some .long) ∨
  (v = none ∧ decode y.2.1 pc = .ok (.return_, 1) ∧ y.2.2.2 = none)
def zRt (y : zx_Y) (mc ms : Nat) (Q : Option Value → List z_C → Prop) (K : zx_K) (p : Program) (l : Launch) (e : Env) (R : Room) (s : State) (m : MethodId) (args : Array Value) (below : List Frame) (meth : Method) (c : Code) (QF : State → Prop) : Prop :=
  ∀ (v : Option Value) (ph : List z_C) (H : Heap) (locs : List Loc) (ns pc : Nat) (ls : Array Slot), Q v ph → ns ≤ ms → zWo K s H locs ph mc → zEn y pc v →
    W p l e R s m args below meth c H locs mc ns QF (F0 m pc ls v.toList)
def zLs (K : zx_K) (lv : List (Nat × Value)) : List (Nat × Value) := lv.map (fun q => (q.1, z_em K q.2))
/-- from here the method comes to its end with an answer and a heap of which Q holds, with d frames more, mc new cells in all, ms new slots at most -/
def ZW (l : Launch) (d : Nat) (y : zx_Y) (X : zx_X) (mc ms : Nat) (Q : Option Value → List z_C → Prop) (pc : Nat) (lv : List (Nat × Value)) (st : List Value) (ph : List z_C) (cc ns : Nat) : Prop :=
  ∀ (K : zx_K) (p : Program) (e : Env) (R : Room) (s : State) (m : MethodId) (args : Array Value) (below : List Frame) (meth : Method) (c : Code) (H : Heap) (locs : List Loc) (QF : State → Prop) (ls : Array Slot),
    zCx K X y p s m args meth c → zWo K s H locs ph cc → d ≤ R.frames ∧ 40 * (d + 1) ≤ R.locals ∧ mc ≤ R.cells ∧ ms ≤ R.slots → zRt y mc ms Q K p l e R s m args below meth c QF → lv_has ls y.2.2.1 (zLs K lv) →
    W p l e R s m args below meth c H locs cc ns QF (F0 m pc ls (st.map (z_em K)))
def zPc (K : zx_K) (X : zx_X) (as : List Value) (ph : List z_C) : Array Value → State → Prop :=
  va_Pc (as.map (z_em K)) (fun U => U.heap.size = zk_z K + ph.length ∧ va_P (zk_D K) zc (z_ws K ph) U.heap ∧ va_K (zk_D K) zc (z_tys K) U ∧ z_St K X U U.heap)
def zQc (K : zx_K) (ph : List z_C) (mc : Nat) (Q : Option Value → List z_C → Prop) : Array Value → State → Outcome → State → Prop := fun _ st o t =>
  (∃ (v : Option Value) (ph' : List z_C), o = .returned v ∧ Q v ph' ∧ v.map (z_em K) = v ∧ ph'.length = ph.length + mc ∧ va_P (zk_D K) zc (z_ws K ph') t.heap) ∧ va_F (zk_A K) st t
/-- the contract of a method at these arguments and this heap -/
def ZM (l : Launch) (d : Nat) (y : zx_Y) (X : zx_X) (as : List Value) (ph : List z_C) (mc ms : Nat) (Q : Option Value → List z_C → Prop) : Prop :=
  ∀ K : zx_K, Met l y.1 (zx_wd y) { frames := d, cells := mc, slots := ms, locals := 40 * (d + 1) } (zPc K X as ph) (zQc K ph mc Q) mc ms (zk_A K)
theorem zLs_args (K : zx_K) (as : List Value) (n : Nat) : lv_args n (as.map (z_em K)) = zLs K (lv_args n as) := by
  induction as generalizing n with
  | nil => rfl
  | cons v vs ih =>
    show (n, z_em K v) :: lv_args _ (vs.map (z_em K)) = (n, z_em K v) :: zLs K (lv_args _ vs)
    rw [z_emc, ih]
theorem z_slLen (K : zx_K) (as : List Value) : (lg_sl (as.map (z_em K))).length = (lg_sl as).length := by
  induction as with
  | nil => rfl
  | cons v vs ih =>
    have e1 : ∀ (w : Value) (ws : List Value), (lg_sl (w :: ws)).length = (if w.category = 2 then 2 else 1) + (lg_sl ws).length := by
      intro w ws
      simp only [lg_sl, List.flatMap_cons, List.length_append]
      by_cases h : w.category = 2 <;> simp [h]
    rw [List.map_cons, e1, e1, z_emc, ih]
theorem zWo.app {K : zx_K} {s : State} {H : Heap} {locs : List Loc} {ph : List z_C} {cells : Nat} (w : zWo K s H locs ph cells) : va_D (zk_A K) (z_ws K ph) := z_wsD K ph
section ZR
variable {l : Launch} {d : Nat} {y : zx_Y} {X : zx_X} {mc ms : Nat} {Q : Option Value → List z_C → Prop} {pc : Nat} {lv : List (Nat × Value)} {st : List Value} {ph : List z_C} {cc ns : Nat}
/-- the start of a method -/
theorem ZM.of {as : List Value} (hy : plainName y.1.cls = true) (ha : (lg_sl as).length ≤ y.2.2.1) (hw : ZW l d y X mc ms Q 0 (lv_args 0 as) [] ph 0 0) : ZM l d y X as ph mc ms Q := by
  intro K
  refine Met.ofW (cc := y.2.1) (maxL := y.2.2.1) (ret := y.2.2.2) (ws' := zx_tbl) hy rfl ?_
  intro p e s m args below meth c s₁ B hml hv
  obtain ⟨rfl, hsz, hP, hK, hSt⟩ := hv
  have hx := B.exec
  have hb := B.bytes
  have hr := B.returns
  have hts := atoms_spec (ws := zx_wd y) B.pre
  have hown : s.vm.findClass y.1.cls = some m.cls := findClass_of_methodNamed B.named
  have hlocks := B.notSynchronized
  have hnm : meth.name = y.1.name := (name_of_methodNamed B.named B.method).1
  have hl := lv_entry (as.map (z_em K)) (n := y.2.2.1) (by rw [z_slLen]; exact ha)
  rw [lg_entry_eq]
  generalize (lg_sl (as.map (z_em K)) ++ List.replicate (y.2.2.1 - (lg_sl (as.map (z_em K))).length) Slot.unset).toArray = ls at hl ⊢
  rw [zLs_args] at hl
  refine hw K p e _ s m _ below meth c s.heap [] _ ls ⟨hx, hb, hml, hown, fun w hw' => hts w (List.mem_cons_of_mem _ hw'), hK, hSt, by omega, fun h => hnm.trans h⟩ ⟨by omega, hP, va_S.rf⟩ ⟨Nat.le_refl _, Nat.le_refl _, Nat.le_refl _, Nat.le_refl _⟩ ?_ hl
  intro v ph' H locs ns' pc' ls' hq hns hwo hen
  have hlen : ph'.length = ph.length + mc := by have := hwo.1; omega
  refine W.widen (Nat.le_refl _) hns ?_
  rcases hen with ⟨x, ty, rfl, hd, hrt, hn⟩ | ⟨x, rfl, hd, hrt⟩ | ⟨rfl, hd, hrt⟩
  · exact W.zret hx hb (hr.trans hrt) hn (fun t ht hW => ⟨⟨_, ph', rfl, hq, rfl, hlen, by rw [ht]; exact hwo.2.1⟩, hwo.2.2.F ht⟩) hwo.2.2.2.2 hd
  · exact W.lret hx hb (hr.trans hrt) (fun t ht hW => ⟨⟨_, ph', rfl, hq, rfl, hlen, by rw [ht]; exact hwo.2.1⟩, hwo.2.2.F ht⟩) hwo.2.2.2.2 hd
  · exact W.vret hx hb (hr.trans hrt) (fun t ht hW => ⟨⟨_, ph', rfl, hq, rfl, hlen, by rw [ht]; exact hwo.2.1⟩, hwo.2.2.F ht⟩) hwo.2.2.2.2 hd
/-- the end of a method -/
theorem zs_ret {v : Option Value} (hv : st = v.toList) (he : zEn y pc v) (hc : cc = mc) (hs : ns ≤ ms) (hq : Q v ph) : ZW l d y X mc ms Q pc lv st ph cc ns := by
  intro K p e R s m args below meth c H locs QF ls C w h4 r hl
  subst hv
  subst hc
  have h := r v ph H locs ns pc ls hq hs w he
  have e1 : v.toList.map (z_em K) = v.toList := by
    rcases he with ⟨x, ty, rfl, -⟩ | ⟨x, rfl, -⟩ | ⟨rfl, -⟩ <;> rfl
  rw [e1]
  exact h
/-- an instruction that changes pc and stack alone -/
theorem zw_s {pc' : Nat} {st' : List Value}
    (h : ∀ (K : zx_K) (p : Program) (e : Env) (R : Room) (s : State) (m : MethodId) (args : Array Value) (below : List Frame) (meth : Method) (c : Code) (H : Heap) (locs : List Loc) (QF : State → Prop) (ls : Array Slot), p.tables.exec = Jvm.exec → c.code = y.2.1 →
      s.vm.findClass y.1.cls = some m.cls → (∀ w ∈ zx_tbl, w.before args s = true) → lv_has ls y.2.2.1 (zLs K lv) →
      W p l e R s m args below meth c H locs cc ns QF (F0 m pc' ls (st'.map (z_em K))) → W p l e R s m args below meth c H locs cc ns QF (F0 m pc ls (st.map (z_em K))))
    (k : ZW l d y X mc ms Q pc' lv st' ph cc ns) : ZW l d y X mc ms Q pc lv st ph cc ns :=
  fun K p e R s m args below meth c H locs QF ls C w h4 r hl => h K p e R s m args below meth c H locs QF ls C.1 C.2.1 C.2.2.2.1 C.2.2.2.2.1 hl (k K p e R s m args below meth c H locs QF ls C w h4 r hl)
theorem z_at {K : zx_K} {ls : Array Slot} {nL i : Nat} {v : Value} (h : lv_has ls nL (zLs K lv)) (hl : lv.lookup i = some v) : ls[i]? = some (.val (z_em K v)) := by
  have hm : (i, v) ∈ lv := by
    clear h
    induction lv with
    | nil => cases hl
    | cons a r ih =>
      obtain ⟨j, w⟩ := a
      rw [List.lookup_cons] at hl
      by_cases hij : (i == j) = true
      · rw [hij] at hl
        have e1 : w = v := Option.some.inj hl
        have e2 : i = j := by simpa using hij
        rw [e1, e2]
        exact List.mem_cons_self
      · have e3 : (i == j) = false := by simpa using hij
        rw [e3] at hl
        exact List.mem_cons_of_mem _ (ih hl)
  exact h.2.2 (i, z_em K v) (List.mem_map.mpr ⟨(i, v), hm, rfl⟩)

theorem zs_iconst {n : Int} {v : Int32} (hv : Int32.ofInt n = v) (hd : decode y.2.1 pc = .ok (.iconst n, 1)) (k : ZW l d y X mc ms Q (pc + 1) lv (.int v :: st) ph cc ns) : ZW l d y X mc ms Q pc lv st ph cc ns :=
  zw_s (fun K p e R s m args below meth c H locs QF ls hx hb hown hts hl k => lv_iconst hx hb hd hv k) k
theorem zs_bipush {n : Int} {v : Int32} (hv : (Int8.ofInt n).toInt32 = v) (hd : decode y.2.1 pc = .ok (.bipush n, 2)) (k : ZW l d y X mc ms Q (pc + 2) lv (.int v :: st) ph cc ns) : ZW l d y X mc ms Q pc lv st ph cc ns :=
  zw_s (fun K p e R s m args below meth c H locs QF ls hx hb hown hts hl k => lv_bipush hx hb hd hv k) k
theorem zs_sipush {n : Int} {v : Int32} (hv : (Int16.ofInt n).toInt32 = v) (hd : decode y.2.1 pc = .ok (.sipush n, 3)) (k : ZW l d y X mc ms Q (pc + 3) lv (.int v :: st) ph cc ns) : ZW l d y X mc ms Q pc lv st ph cc ns :=
  zw_s (fun K p e R s m args below meth c H locs QF ls hx hb hown hts hl k => lv_sipush hx hb hd hv k) k
theorem zs_ldc {i : Nat} {v : Int32} (hw : Cond.constant y.1.cls i v ∈ zx_tbl) (hd : decode y.2.1 pc = .ok (.ldc i, 2)) (k : ZW l d y X mc ms Q (pc + 2) lv (.int v :: st) ph cc ns) : ZW l d y X mc ms Q pc lv st ph cc ns :=
  zw_s (fun K p e R s m args below meth c H locs QF ls hx hb hown hts hl k => W.ldc hx hb hown (hts _ hw) rfl hd k) k
theorem zs_ldcw {i : Nat} {v : Int32} (hw : Cond.constant y.1.cls i v ∈ zx_tbl) (hd : decode y.2.1 pc = .ok (.ldc_w i, 3)) (k : ZW l d y X mc ms Q (pc + 3) lv (.int v :: st) ph cc ns) : ZW l d y X mc ms Q pc lv st ph cc ns :=
  zw_s (fun K p e R s m args below meth c H locs QF ls hx hb hown hts hl k => lv_ldcw hx hb hown (hts _ hw) hd k) k
theorem zs_ldc2 {i : Nat} {v : Int64} (hw : Cond.constantLong y.1.cls i v ∈ zx_tbl) (hd : decode y.2.1 pc = .ok (.ldc2_w i, 3)) (k : ZW l d y X mc ms Q (pc + 3) lv (.long v :: st) ph cc ns) : ZW l d y X mc ms Q pc lv st ph cc ns :=
  zw_s (fun K p e R s m args below meth c H locs QF ls hx hb hown hts hl k => lv_ldc2 hx hb hown (hts _ hw) hd k) k
theorem zs_lconst {n : Fin 2} {v : Int64} (hv : Int64.ofNat (n : Nat) = v) (hd : decode y.2.1 pc = .ok (.lconst n, 1)) (k : ZW l d y X mc ms Q (pc + 1) lv (.long v :: st) ph cc ns) : ZW l d y X mc ms Q pc lv st ph cc ns :=
  zw_s (fun K p e R s m args below meth c H locs QF ls hx hb hown hts hl k => lv_lconst hx hb hd hv k) k
theorem zs_iload_n {q : Fin 4} {i : Nat} {x : Int32} (hi : (q : Nat) = i) (hv : lv.lookup i = some (.int x)) (hd : decode y.2.1 pc = .ok (.iload_n q, 1)) (k : ZW l d y X mc ms Q (pc + 1) lv (.int x :: st) ph cc ns) : ZW l d y X mc ms Q pc lv st ph cc ns :=
  zw_s (fun K p e R s m args below meth c H locs QF ls hx hb hown hts hl k => lv_iload_n hx hb hd hi (z_at hl hv) k) k
theorem zs_iload {i : Nat} {x : Int32} (hv : lv.lookup i = some (.int x)) (hd : decode y.2.1 pc = .ok (.iload i, 2)) (k : ZW l d y X mc ms Q (pc + 2) lv (.int x :: st) ph cc ns) : ZW l d y X mc ms Q pc lv st ph cc ns :=
  zw_s (fun K p e R s m args below meth c H locs QF ls hx hb hown hts hl k => lv_iload hx hb hd (z_at hl hv) k) k
theorem zs_lload_n {q : Fin 4} {i : Nat} {x : Int64} (hi : (q : Nat) = i) (hv : lv.lookup i = some (.long x)) (hd : decode y.2.1 pc = .ok (.lload_n q, 1)) (k : ZW l d y X mc ms Q (pc + 1) lv (.long x :: st) ph cc ns) : ZW l d y X mc ms Q pc lv st ph cc ns :=
  zw_s (fun K p e R s m args below meth c H locs QF ls hx hb hown hts hl k => lv_lload_n hx hb hd hi (z_at hl hv) k) k
theorem zs_lload {i : Nat} {x : Int64} (hv : lv.lookup i = some (.long x)) (hd : decode y.2.1 pc = .ok (.lload i, 2)) (k : ZW l d y X mc ms Q (pc + 2) lv (.long x :: st) ph cc ns) : ZW l d y X mc ms Q pc lv st ph cc ns :=
  zw_s (fun K p e R s m args below meth c H locs QF ls hx hb hown hts hl k => lv_lload hx hb hd (z_at hl hv) k) k
theorem zs_aload_n {q : Fin 4} {i : Nat} {x : Nat} (hi : (q : Nat) = i) (hv : lv.lookup i = some (.ref x)) (hd : decode y.2.1 pc = .ok (.aload_n q, 1)) (k : ZW l d y X mc ms Q (pc + 1) lv (.ref x :: st) ph cc ns) : ZW l d y X mc ms Q pc lv st ph cc ns :=
  zw_s (fun K p e R s m args below meth c H locs QF ls hx hb hown hts hl k => lv_aload_n hx hb hd hi (z_at hl hv) k) k
theorem zs_aload {i : Nat} {x : Nat} (hv : lv.lookup i = some (.ref x)) (hd : decode y.2.1 pc = .ok (.aload i, 2)) (k : ZW l d y X mc ms Q (pc + 2) lv (.ref x :: st) ph cc ns) : ZW l d y X mc ms Q pc lv st ph cc ns :=
  zw_s (fun K p e R s m args below meth c H locs QF ls hx hb hown hts hl k => lv_aload hx hb hd (z_at hl hv) k) k
theorem zs_iadd {a b : Int32} (hd : decode y.2.1 pc = .ok (.iadd, 1))  (k : ZW l d y X mc ms Q (pc + 1) lv (.int (a + b) :: st) ph cc ns) : ZW l d y X mc ms Q pc lv (.int b :: .int a :: st) ph cc ns :=
  zw_s (fun K p e R s m args below meth c H locs QF ls hx hb hown hts hl k => lv_iadd hx hb hd k) k
theorem zs_isub {a b : Int32} (hd : decode y.2.1 pc = .ok (.isub, 1))  (k : ZW l d y X mc ms Q (pc + 1) lv (.int (a - b) :: st) ph cc ns) : ZW l d y X mc ms Q pc lv (.int b :: .int a :: st) ph cc ns :=
  zw_s (fun K p e R s m args below meth c H locs QF ls hx hb hown hts hl k => lv_isub hx hb hd k) k
theorem zs_imul {a b : Int32} (hd : decode y.2.1 pc = .ok (.imul, 1))  (k : ZW l d y X mc ms Q (pc + 1) lv (.int (a * b) :: st) ph cc ns) : ZW l d y X mc ms Q pc lv (.int b :: .int a :: st) ph cc ns :=
  zw_s (fun K p e R s m args below meth c H locs QF ls hx hb hown hts hl k => lv_imul hx hb hd k) k
theorem zs_iand {a b : Int32} (hd : decode y.2.1 pc = .ok (.iand, 1))  (k : ZW l d y X mc ms Q (pc + 1) lv (.int (a &&& b) :: st) ph cc ns) : ZW l d y X mc ms Q pc lv (.int b :: .int a :: st) ph cc ns :=
  zw_s (fun K p e R s m args below meth c H locs QF ls hx hb hown hts hl k => lv_iand hx hb hd k) k
theorem zs_ior {a b : Int32} (hd : decode y.2.1 pc = .ok (.ior, 1))  (k : ZW l d y X mc ms Q (pc + 1) lv (.int (a ||| b) :: st) ph cc ns) : ZW l d y X mc ms Q pc lv (.int b :: .int a :: st) ph cc ns :=
  zw_s (fun K p e R s m args below meth c H locs QF ls hx hb hown hts hl k => lv_ior hx hb hd k) k
theorem zs_ixor {a b : Int32} (hd : decode y.2.1 pc = .ok (.ixor, 1))  (k : ZW l d y X mc ms Q (pc + 1) lv (.int (a ^^^ b) :: st) ph cc ns) : ZW l d y X mc ms Q pc lv (.int b :: .int a :: st) ph cc ns :=
  zw_s (fun K p e R s m args below meth c H locs QF ls hx hb hown hts hl k => lv_ixor hx hb hd k) k
theorem zs_ishl {a b : Int32} (hd : decode y.2.1 pc = .ok (.ishl, 1))  (k : ZW l d y X mc ms Q (pc + 1) lv (.int (a <<< (b &&& 31)) :: st) ph cc ns) : ZW l d y X mc ms Q pc lv (.int b :: .int a :: st) ph cc ns :=
  zw_s (fun K p e R s m args below meth c H locs QF ls hx hb hown hts hl k => lv_ishl hx hb hd k) k
theorem zs_ishr {a b : Int32} (hd : decode y.2.1 pc = .ok (.ishr, 1))  (k : ZW l d y X mc ms Q (pc + 1) lv (.int (a >>> (b &&& 31)) :: st) ph cc ns) : ZW l d y X mc ms Q pc lv (.int b :: .int a :: st) ph cc ns :=
  zw_s (fun K p e R s m args below meth c H locs QF ls hx hb hown hts hl k => lv_ishr hx hb hd k) k
theorem zs_idiv {a b : Int32} (hne : ¬ b = 0) (hd : decode y.2.1 pc = .ok (.idiv, 1))  (k : ZW l d y X mc ms Q (pc + 1) lv (.int (a / b) :: st) ph cc ns) : ZW l d y X mc ms Q pc lv (.int b :: .int a :: st) ph cc ns :=
  zw_s (fun K p e R s m args below meth c H locs QF ls hx hb hown hts hl k => lv_idiv hx hb hd hne k) k
theorem zs_irem {a b : Int32} (hne : ¬ b = 0) (hd : decode y.2.1 pc = .ok (.irem, 1))  (k : ZW l d y X mc ms Q (pc + 1) lv (.int (a - a / b * b) :: st) ph cc ns) : ZW l d y X mc ms Q pc lv (.int b :: .int a :: st) ph cc ns :=
  zw_s (fun K p e R s m args below meth c H locs QF ls hx hb hown hts hl k => lv_irem hx hb hd hne k) k
theorem zs_iushr {a b : Int32} (hd : decode y.2.1 pc = .ok (.iushr, 1))  (k : ZW l d y X mc ms Q (pc + 1) lv (.int (a.toUInt32 >>> (b.toUInt32 &&& Int32.toUInt32 31)).toInt32 :: st) ph cc ns) : ZW l d y X mc ms Q pc lv (.int b :: .int a :: st) ph cc ns :=
  zw_s (fun K p e R s m args below meth c H locs QF ls hx hb hown hts hl k => lv_iushr hx hb hd rfl k) k
theorem zs_ineg {a : Int32} (hd : decode y.2.1 pc = .ok (.ineg, 1))  (k : ZW l d y X mc ms Q (pc + 1) lv (.int (-a) :: st) ph cc ns) : ZW l d y X mc ms Q pc lv (.int a :: st) ph cc ns :=
  zw_s (fun K p e R s m args below meth c H locs QF ls hx hb hown hts hl k => lv_ineg hx hb hd k) k
theorem zs_ladd {a b : Int64} (hd : decode y.2.1 pc = .ok (.ladd, 1))  (k : ZW l d y X mc ms Q (pc + 1) lv (.long (a + b) :: st) ph cc ns) : ZW l d y X mc ms Q pc lv (.long b :: .long a :: st) ph cc ns :=
  zw_s (fun K p e R s m args below meth c H locs QF ls hx hb hown hts hl k => lv_ladd hx hb hd k) k
theorem zs_lsub {a b : Int64} (hd : decode y.2.1 pc = .ok (.lsub, 1))  (k : ZW l d y X mc ms Q (pc + 1) lv (.long (a - b) :: st) ph cc ns) : ZW l d y X mc ms Q pc lv (.long b :: .long a :: st) ph cc ns :=
  zw_s (fun K p e R s m args below meth c H locs QF ls hx hb hown hts hl k => lv_lsub hx hb hd k) k
theorem zs_lmul {a b : Int64} (hd : decode y.2.1 pc = .ok (.lmul, 1))  (k : ZW l d y X mc ms Q (pc + 1) lv (.long (a * b) :: st) ph cc ns) : ZW l d y X mc ms Q pc lv (.long b :: .long a :: st) ph cc ns :=
  zw_s (fun K p e R s m args below meth c H locs QF ls hx hb hown hts hl k => lv_lmul hx hb hd k) k
theorem zs_land {a b : Int64} (hd : decode y.2.1 pc = .ok (.land, 1))  (k : ZW l d y X mc ms Q (pc + 1) lv (.long (a &&& b) :: st) ph cc ns) : ZW l d y X mc ms Q pc lv (.long b :: .long a :: st) ph cc ns :=
  zw_s (fun K p e R s m args below meth c H locs QF ls hx hb hown hts hl k => lv_land hx hb hd k) k
theorem zs_lor {a b : Int64} (hd : decode y.2.1 pc = .ok (.lor, 1))  (k : ZW l d y X mc ms Q (pc + 1) lv (.long (a ||| b) :: st) ph cc ns) : ZW l d y X mc ms Q pc lv (.long b :: .long a :: st) ph cc ns :=
  zw_s (fun K p e R s m args below meth c H locs QF ls hx hb hown hts hl k => lv_lor hx hb hd k) k
theorem zs_ldiv {a b : Int64} (hne : ¬ b = 0) (hd : decode y.2.1 pc = .ok (.ldiv, 1))  (k : ZW l d y X mc ms Q (pc + 1) lv (.long (a / b) :: st) ph cc ns) : ZW l d y X mc ms Q pc lv (.long b :: .long a :: st) ph cc ns :=
  zw_s (fun K p e R s m args below meth c H locs QF ls hx hb hown hts hl k => lv_ldiv hx hb hd hne k) k
theorem zs_lrem {a b v : Int64} (hne : ¬ b = 0) (hv : a - a / b * b = v) (hd : decode y.2.1 pc = .ok (.lrem, 1))  (k : ZW l d y X mc ms Q (pc + 1) lv (.long v :: st) ph cc ns) : ZW l d y X mc ms Q pc lv (.long b :: .long a :: st) ph cc ns :=
  zw_s (fun K p e R s m args below meth c H locs QF ls hx hb hown hts hl k => lv_lrem hx hb hd hne (hv ▸ k)) k
theorem zs_lshl {a : Int64} {b : Int32} (hd : decode y.2.1 pc = .ok (.lshl, 1))  (k : ZW l d y X mc ms Q (pc + 1) lv (.long (a <<< (b.toInt64 &&& 63)) :: st) ph cc ns) : ZW l d y X mc ms Q pc lv (.int b :: .long a :: st) ph cc ns :=
  zw_s (fun K p e R s m args below meth c H locs QF ls hx hb hown hts hl k => lv_lshl hx hb hd rfl k) k
theorem zs_lcmp {a b : Int64} (hd : decode y.2.1 pc = .ok (.lcmp, 1))  (k : ZW l d y X mc ms Q (pc + 1) lv (.int (lg_cmp a b) :: st) ph cc ns) : ZW l d y X mc ms Q pc lv (.long b :: .long a :: st) ph cc ns :=
  zw_s (fun K p e R s m args below meth c H locs QF ls hx hb hown hts hl k => W.lcmp hx hb hd k) k
theorem zs_i2l {a : Int32} (hd : decode y.2.1 pc = .ok (.i2l, 1))  (k : ZW l d y X mc ms Q (pc + 1) lv (.long a.toInt64 :: st) ph cc ns) : ZW l d y X mc ms Q pc lv (.int a :: st) ph cc ns :=
  zw_s (fun K p e R s m args below meth c H locs QF ls hx hb hown hts hl k => lv_i2l hx hb hd rfl k) k
theorem zs_l2i {a : Int64} (hd : decode y.2.1 pc = .ok (.l2i, 1))  (k : ZW l d y X mc ms Q (pc + 1) lv (.int a.toInt32 :: st) ph cc ns) : ZW l d y X mc ms Q pc lv (.long a :: st) ph cc ns :=
  zw_s (fun K p e R s m args below meth c H locs QF ls hx hb hown hts hl k => lv_l2i hx hb hd rfl k) k
theorem zs_i2b {a : Int32} (hd : decode y.2.1 pc = .ok (.i2b, 1))  (k : ZW l d y X mc ms Q (pc + 1) lv (.int a.toInt8.toInt32 :: st) ph cc ns) : ZW l d y X mc ms Q pc lv (.int a :: st) ph cc ns :=
  zw_s (fun K p e R s m args below meth c H locs QF ls hx hb hown hts hl k => lv_i2b hx hb hd rfl k) k
theorem zs_i2s {a : Int32} (hd : decode y.2.1 pc = .ok (.i2s, 1))  (k : ZW l d y X mc ms Q (pc + 1) lv (.int a.toInt16.toInt32 :: st) ph cc ns) : ZW l d y X mc ms Q pc lv (.int a :: st) ph cc ns :=
  zw_s (fun K p e R s m args below meth c H locs QF ls hx hb hown hts hl k => lv_i2s hx hb hd rfl k) k
theorem zs_dup {va : Value} (hc : va.category = 1) (hd : decode y.2.1 pc = .ok (.dup, 1))  (k : ZW l d y X mc ms Q (pc + 1) lv (va :: va :: st) ph cc ns) : ZW l d y X mc ms Q pc lv (va :: st) ph cc ns :=
  zw_s (fun K p e R s m args below meth c H locs QF ls hx hb hown hts hl k => lv_dup hx hb hd (by rw [z_emc]; exact hc) k) k
theorem zs_pop {va : Value} (hc : va.category = 1) (hd : decode y.2.1 pc = .ok (.pop, 1))  (k : ZW l d y X mc ms Q (pc + 1) lv (st) ph cc ns) : ZW l d y X mc ms Q pc lv (va :: st) ph cc ns :=
  zw_s (fun K p e R s m args below meth c H locs QF ls hx hb hown hts hl k => lv_pop hx hb hd (by rw [z_emc]; exact hc) k) k
theorem zs_dup2 {va vb : Value} (hc : va.category = 1) (hc2 : vb.category = 1) (hd : decode y.2.1 pc = .ok (.dup2, 1))  (k : ZW l d y X mc ms Q (pc + 1) lv (va :: vb :: va :: vb :: st) ph cc ns) : ZW l d y X mc ms Q pc lv (va :: vb :: st) ph cc ns :=
  zw_s (fun K p e R s m args below meth c H locs QF ls hx hb hown hts hl k => lv_dup2_11 hx hb hd (by rw [z_emc]; exact hc) (by rw [z_emc]; exact hc2) k) k
theorem zs_goto {off : Int} {tgt : Nat} (hd : decode y.2.1 pc = .ok (.goto off, 3)) (ht : (pc : Int) + off = (tgt : Int)) (k : ZW l d y X mc ms Q tgt lv st ph cc ns) : ZW l d y X mc ms Q pc lv st ph cc ns :=
  zw_s (fun K p e R s m args below meth c H locs QF ls hx hb hown hts hl k => lv_goto hx hb hd ht k) k
theorem zs_if_eq {a : Int32} {off : Int} {tgt : Nat} (hd : decode y.2.1 pc = .ok (.ifCond .eq off, 3)) (ht : (pc : Int) + off = (tgt : Int)) (kt : a = 0 → ZW l d y X mc ms Q tgt lv st ph cc ns) (kf : ¬ a = 0 → ZW l d y X mc ms Q (pc + 3) lv st ph cc ns) : ZW l d y X mc ms Q pc lv (.int a :: st) ph cc ns :=
  fun K p e R s m args below meth c H locs QF ls C w h4 r hl => lv_if_eq C.1 C.2.1 hd ht (fun h => kt h K p e R s m args below meth c H locs QF ls C w h4 r hl) (fun h => kf h K p e R s m args below meth c H locs QF ls C w h4 r hl)
theorem zs_if_ne {a : Int32} {off : Int} {tgt : Nat} (hd : decode y.2.1 pc = .ok (.ifCond .ne off, 3)) (ht : (pc : Int) + off = (tgt : Int)) (kt : a ≠ 0 → ZW l d y X mc ms Q tgt lv st ph cc ns) (kf : ¬ a ≠ 0 → ZW l d y X mc ms Q (pc + 3) lv st ph cc ns) : ZW l d y X mc ms Q pc lv (.int a :: st) ph cc ns :=
  fun K p e R s m args below meth c H locs QF ls C w h4 r hl => lv_if_ne C.1 C.2.1 hd ht (fun h => kt h K p e R s m args below meth c H locs QF ls C w h4 r hl) (fun h => kf (fun q => q h) K p e R s m args below meth c H locs QF ls C w h4 r hl)
theorem zs_if_lt {a : Int32} {off : Int} {tgt : Nat} (hd : decode y.2.1 pc = .ok (.ifCond .lt off, 3)) (ht : (pc : Int) + off = (tgt : Int)) (kt : a < 0 → ZW l d y X mc ms Q tgt lv st ph cc ns) (kf : ¬ a < 0 → ZW l d y X mc ms Q (pc + 3) lv st ph cc ns) : ZW l d y X mc ms Q pc lv (.int a :: st) ph cc ns :=
  fun K p e R s m args below meth c H locs QF ls C w h4 r hl => lv_if_lt C.1 C.2.1 hd ht (fun h => kt h K p e R s m args below meth c H locs QF ls C w h4 r hl) (fun h => kf h K p e R s m args below meth c H locs QF ls C w h4 r hl)
theorem zs_if_ge {a : Int32} {off : Int} {tgt : Nat} (hd : decode y.2.1 pc = .ok (.ifCond .ge off, 3)) (ht : (pc : Int) + off = (tgt : Int)) (kt : 0 ≤ a → ZW l d y X mc ms Q tgt lv st ph cc ns) (kf : ¬ 0 ≤ a → ZW l d y X mc ms Q (pc + 3) lv st ph cc ns) : ZW l d y X mc ms Q pc lv (.int a :: st) ph cc ns :=
  fun K p e R s m args below meth c H locs QF ls C w h4 r hl => lv_if_ge C.1 C.2.1 hd ht (fun h => kt h K p e R s m args below meth c H locs QF ls C w h4 r hl) (fun h => kf h K p e R s m args below meth c H locs QF ls C w h4 r hl)
theorem zs_if_gt {a : Int32} {off : Int} {tgt : Nat} (hd : decode y.2.1 pc = .ok (.ifCond .gt off, 3)) (ht : (pc : Int) + off = (tgt : Int)) (kt : 0 < a → ZW l d y X mc ms Q tgt lv st ph cc ns) (kf : ¬ 0 < a → ZW l d y X mc ms Q (pc + 3) lv st ph cc ns) : ZW l d y X mc ms Q pc lv (.int a :: st) ph cc ns :=
  fun K p e R s m args below meth c H locs QF ls C w h4 r hl => lv_if_gt C.1 C.2.1 hd ht (fun h => kt h K p e R s m args below meth c H locs QF ls C w h4 r hl) (fun h => kf h K p e R s m args below meth c H locs QF ls C w h4 r hl)
theorem zs_if_le {a : Int32} {off : Int} {tgt : Nat} (hd : decode y.2.1 pc = .ok (.ifCond .le off, 3)) (ht : (pc : Int) + off = (tgt : Int)) (kt : a ≤ 0 → ZW l d y X mc ms Q tgt lv st ph cc ns) (kf : ¬ a ≤ 0 → ZW l d y X mc ms Q (pc + 3) lv st ph cc ns) : ZW l d y X mc ms Q pc lv (.int a :: st) ph cc ns :=
  fun K p e R s m args below meth c H locs QF ls C w h4 r hl => lv_if_le C.1 C.2.1 hd ht (fun h => kt h K p e R s m args below meth c H locs QF ls C w h4 r hl) (fun h => kf h K p e R s m args below meth c H locs QF ls C w h4 r hl)
theorem zs_icmp_eq {a b : Int32} {off : Int} {tgt : Nat} (hd : decode y.2.1 pc = .ok (.if_icmp .eq off, 3)) (ht : (pc : Int) + off = (tgt : Int)) (kt : a = b → ZW l d y X mc ms Q tgt lv st ph cc ns) (kf : ¬ a = b → ZW l d y X mc ms Q (pc + 3) lv st ph cc ns) : ZW l d y X mc ms Q pc lv (.int b :: .int a :: st) ph cc ns :=
  fun K p e R s m args below meth c H locs QF ls C w h4 r hl => lv_icmp_eq C.1 C.2.1 hd ht (fun h => kt h K p e R s m args below meth c H locs QF ls C w h4 r hl) (fun h => kf h K p e R s m args below meth c H locs QF ls C w h4 r hl)
theorem zs_icmp_ne {a b : Int32} {off : Int} {tgt : Nat} (hd : decode y.2.1 pc = .ok (.if_icmp .ne off, 3)) (ht : (pc : Int) + off = (tgt : Int)) (kt : a ≠ b → ZW l d y X mc ms Q tgt lv st ph cc ns) (kf : ¬ a ≠ b → ZW l d y X mc ms Q (pc + 3) lv st ph cc ns) : ZW l d y X mc ms Q pc lv (.int b :: .int a :: st) ph cc ns :=
  fun K p e R s m args below meth c H locs QF ls C w h4 r hl => lv_icmp_ne C.1 C.2.1 hd ht (fun h => kt h K p e R s m args below meth c H locs QF ls C w h4 r hl) (fun h => kf (fun q => q h) K p e R s m args below meth c H locs QF ls C w h4 r hl)
theorem zs_icmp_lt {a b : Int32} {off : Int} {tgt : Nat} (hd : decode y.2.1 pc = .ok (.if_icmp .lt off, 3)) (ht : (pc : Int) + off = (tgt : Int)) (kt : a < b → ZW l d y X mc ms Q tgt lv st ph cc ns) (kf : ¬ a < b → ZW l d y X mc ms Q (pc + 3) lv st ph cc ns) : ZW l d y X mc ms Q pc lv (.int b :: .int a :: st) ph cc ns :=
  fun K p e R s m args below meth c H locs QF ls C w h4 r hl => lv_icmp_lt C.1 C.2.1 hd ht (fun h => kt h K p e R s m args below meth c H locs QF ls C w h4 r hl) (fun h => kf h K p e R s m args below meth c H locs QF ls C w h4 r hl)
theorem zs_icmp_ge {a b : Int32} {off : Int} {tgt : Nat} (hd : decode y.2.1 pc = .ok (.if_icmp .ge off, 3)) (ht : (pc : Int) + off = (tgt : Int)) (kt : b ≤ a → ZW l d y X mc ms Q tgt lv st ph cc ns) (kf : ¬ b ≤ a → ZW l d y X mc ms Q (pc + 3) lv st ph cc ns) : ZW l d y X mc ms Q pc lv (.int b :: .int a :: st) ph cc ns :=
  fun K p e R s m args below meth c H locs QF ls C w h4 r hl => lv_icmp_ge C.1 C.2.1 hd ht (fun h => kt h K p e R s m args below meth c H locs QF ls C w h4 r hl) (fun h => kf h K p e R s m args below meth c H locs QF ls C w h4 r hl)
theorem zs_icmp_gt {a b : Int32} {off : Int} {tgt : Nat} (hd : decode y.2.1 pc = .ok (.if_icmp .gt off, 3)) (ht : (pc : Int) + off = (tgt : Int)) (kt : b < a → ZW l d y X mc ms Q tgt lv st ph cc ns) (kf : ¬ b < a → ZW l d y X mc ms Q (pc + 3) lv st ph cc ns) : ZW l d y X mc ms Q pc lv (.int b :: .int a :: st) ph cc ns :=
  fun K p e R s m args below meth c H locs QF ls C w h4 r hl => lv_icmp_gt C.1 C.2.1 hd ht (fun h => kt h K p e R s m args below meth c H locs QF ls C w h4 r hl) (fun h => kf h K p e R s m args below meth c H locs QF ls C w h4 r hl)
theorem zs_icmp_le {a b : Int32} {off : Int} {tgt : Nat} (hd : decode y.2.1 pc = .ok (.if_icmp .le off, 3)) (ht : (pc : Int) + off = (tgt : Int)) (kt : a ≤ b → ZW l d y X mc ms Q tgt lv st ph cc ns) (kf : ¬ a ≤ b → ZW l d y X mc ms Q (pc + 3) lv st ph cc ns) : ZW l d y X mc ms Q pc lv (.int b :: .int a :: st) ph cc ns :=
  fun K p e R s m args below meth c H locs QF ls C w h4 r hl => lv_icmp_le C.1 C.2.1 hd ht (fun h => kt h K p e R s m args below meth c H locs QF ls C w h4 r hl) (fun h => kf h K p e R s m args below meth c H locs QF ls C w h4 r hl)
theorem zs_lookup {df : Int} {ps : Array (Int × Int)} {len : Nat} {a : Int32} {off : Int} {tgt : Nat} (hd : decode y.2.1 pc = .ok (.lookupswitch df ps, len)) (hp : (ps.toList.zip (ps.toList.drop 1)).all (fun (a, next) => a.1 < next.1) = true) (ho : Op.lookupswitch.offset ps.toList df a.toInt = off) (ht : (pc : Int) + off = (tgt : Int))
    (k : ZW l d y X mc ms Q tgt lv st ph cc ns) : ZW l d y X mc ms Q pc lv (.int a :: st) ph cc ns :=
  zw_s (fun K p e R s m args below meth c H locs QF ls hx hb hown hts hl k => lv_lookup hx hb hd hp ho ht k) k
theorem zs_tabOut {df lo hi : Int} {offs : Array Int} {len : Nat} {a : Int32} {tgt : Nat} (hd : decode y.2.1 pc = .ok (.tableswitch df lo hi offs, len)) (h : a.toInt < lo ∨ hi < a.toInt) (ht : (pc : Int) + df = (tgt : Int))
    (k : ZW l d y X mc ms Q tgt lv st ph cc ns) : ZW l d y X mc ms Q pc lv (.int a :: st) ph cc ns :=
  zw_s (fun K p e R s m args below meth c H locs QF ls hx hb hown hts hl k => lv_tableOut hx hb hd h ht k) k
theorem zs_tabIn {df lo hi : Int} {offs : Array Int} {len : Nat} {a : Int32} {off : Int} {tgt : Nat} (hd : decode y.2.1 pc = .ok (.tableswitch df lo hi offs, len)) (h1 : ¬ a.toInt < lo) (h2 : ¬ hi < a.toInt) (ho : offs[(a.toInt - lo).toNat]? = some off) (ht : (pc : Int) + off = (tgt : Int))
    (k : ZW l d y X mc ms Q tgt lv st ph cc ns) : ZW l d y X mc ms Q pc lv (.int a :: st) ph cc ns :=
  zw_s (fun K p e R s m args below meth c H locs QF ls hx hb hown hts hl k => lv_tableIn hx hb hd h1 h2 ho ht k) k
def z_st1 (lv : List (Nat × Value)) (i : Nat) (v : Value) : List (Nat × Value) := (i, v) :: lv.filter (fun q => !(q.1 == i) && !(q.1 + 1 == i && q.2.category == 2))
def z_st2 (lv : List (Nat × Value)) (i : Nat) (v : Value) : List (Nat × Value) := (i, v) :: lv.filter (fun q => !(q.1 == i) && (!(q.1 == i + 1) && !(q.1 + 1 == i && q.2.category == 2)))
theorem z_st1_m (K : zx_K) (lv : List (Nat × Value)) (i : Nat) (v : Value) : (i, z_em K v) :: (zLs K lv).filter (fun q => !(q.1 == i) && !(q.1 + 1 == i && q.2.category == 2)) = zLs K (z_st1 lv i v) := by
  simp only [zLs, z_st1, List.map_cons, List.filter_map, Function.comp_def, z_emc]
theorem z_st2_m (K : zx_K) (lv : List (Nat × Value)) (i : Nat) (v : Value) : (i, z_em K v) :: (zLs K lv).filter (fun q => !(q.1 == i) && (!(q.1 == i + 1) && !(q.1 + 1 == i && q.2.category == 2))) = zLs K (z_st2 lv i v) := by
  simp only [zLs, z_st2, List.map_cons, List.filter_map, Function.comp_def, z_emc]

theorem zs_istore_n {q : Fin 4} {i : Nat} {x : Int32} (hi : (q : Nat) = i) (hn : i < y.2.2.1) (hd : decode y.2.1 pc = .ok (.istore_n q, 1)) (k : ZW l d y X mc ms Q (pc + 1) (z_st1 lv i (.int x)) st ph cc ns) : ZW l d y X mc ms Q pc lv (.int x :: st) ph cc ns :=
  fun K p e R s m args below meth c H locs QF ls C w h4 r hl => lv_istore_n C.1 C.2.1 hd hi hl hn (z_st1_m K lv i (.int x)) (fun ls' hl' => k K p e R s m args below meth c H locs QF ls' C w h4 r hl')
theorem zs_istore {i : Nat} {x : Int32} (hn : i < y.2.2.1) (hd : decode y.2.1 pc = .ok (.istore i, 2)) (k : ZW l d y X mc ms Q (pc + 2) (z_st1 lv i (.int x)) st ph cc ns) : ZW l d y X mc ms Q pc lv (.int x :: st) ph cc ns :=
  fun K p e R s m args below meth c H locs QF ls C w h4 r hl => lv_istore C.1 C.2.1 hd hl hn (z_st1_m K lv i (.int x)) (fun ls' hl' => k K p e R s m args below meth c H locs QF ls' C w h4 r hl')
theorem zs_astore_n {q : Fin 4} {i : Nat} {x : Nat} (hi : (q : Nat) = i) (hn : i < y.2.2.1) (hd : decode y.2.1 pc = .ok (.astore_n q, 1)) (k : ZW l d y X mc ms Q (pc + 1) (z_st1 lv i (.ref x)) st ph cc ns) : ZW l d y X mc ms Q pc lv (.ref x :: st) ph cc ns :=
  fun K p e R s m args below meth c H locs QF ls C w h4 r hl => lv_astore_n C.1 C.2.1 hd hi hl hn (z_st1_m K lv i (.ref x)) (fun ls' hl' => k K p e R s m args below meth c H locs QF ls' C w h4 r hl')
theorem zs_astore {i : Nat} {x : Nat} (hn : i < y.2.2.1) (hd : decode y.2.1 pc = .ok (.astore i, 2)) (k : ZW l d y X mc ms Q (pc + 2) (z_st1 lv i (.ref x)) st ph cc ns) : ZW l d y X mc ms Q pc lv (.ref x :: st) ph cc ns :=
  fun K p e R s m args below meth c H locs QF ls C w h4 r hl => lv_astore C.1 C.2.1 hd hl hn (z_st1_m K lv i (.ref x)) (fun ls' hl' => k K p e R s m args below meth c H locs QF ls' C w h4 r hl')
theorem zs_lstore_n {q : Fin 4} {i : Nat} {x : Int64} (hi : (q : Nat) = i) (hn : i + 1 < y.2.2.1) (hd : decode y.2.1 pc = .ok (.lstore_n q, 1)) (k : ZW l d y X mc ms Q (pc + 1) (z_st2 lv i (.long x)) st ph cc ns) : ZW l d y X mc ms Q pc lv (.long x :: st) ph cc ns :=
  fun K p e R s m args below meth c H locs QF ls C w h4 r hl => lv_lstore_n C.1 C.2.1 hd hi hl hn (z_st2_m K lv i (.long x)) (fun ls' hl' => k K p e R s m args below meth c H locs QF ls' C w h4 r hl')
theorem zs_lstore {i : Nat} {x : Int64} (hn : i + 1 < y.2.2.1) (hd : decode y.2.1 pc = .ok (.lstore i, 2)) (k : ZW l d y X mc ms Q (pc + 2) (z_st2 lv i (.long x)) st ph cc ns) : ZW l d y X mc ms Q pc lv (.long x :: st) ph cc ns :=
  fun K p e R s m args below meth c H locs QF ls C w h4 r hl => lv_lstore C.1 C.2.1 hd hl hn (z_st2_m K lv i (.long x)) (fun ls' hl' => k K p e R s m args below meth c H locs QF ls' C w h4 r hl')
theorem z_lookup_get {lv : List (Nat × Value)} {i : Nat} {v : Value} (hl : lv.lookup i = some v) : ∃ k : Nat, lv[k]? = some (i, v) := by
  induction lv with
  | nil => cases hl
  | cons a r ih =>
    obtain ⟨j, w⟩ := a
    rw [List.lookup_cons] at hl
    by_cases hij : (i == j) = true
    · rw [hij] at hl
      have e1 : w = v := Option.some.inj hl
      have e2 : i = j := by simpa using hij
      exact ⟨0, by rw [e1, e2]; rfl⟩
    · have e3 : (i == j) = false := by simpa using hij
      rw [e3] at hl
      obtain ⟨k, hk⟩ := ih hl
      exact ⟨k + 1, hk⟩
theorem zs_iinc {i : Nat} {n : Int} {x v : Int32} (hv : x + Int32.ofInt n = v) (hn : i < y.2.2.1) (hi : lv.lookup i = some (.int x)) (hd : decode y.2.1 pc = .ok (.iinc i n, 3)) (k : ZW l d y X mc ms Q (pc + 3) (z_st1 lv i (.int v)) st ph cc ns) : ZW l d y X mc ms Q pc lv st ph cc ns := by
  intro K p e R s m args below meth c H locs QF ls C w h4 r hl
  obtain ⟨j, hj⟩ := z_lookup_get hi
  have hj' : (zLs K lv)[j]? = some (i, .int x) := by
    show (lv.map _)[j]? = _
    rw [List.getElem?_map, hj]
    rfl
  exact lv_iinc C.1 C.2.1 hd hl hj' hv hn (z_st1_m K lv i (.int v)) (fun ls' hl' => k K p e R s m args below meth c H locs QF ls' C w h4 r hl')
end ZR
end
section
/-! PART 04: fields, arrays, new cells. -/
def z_rf (r : Option Nat) : Value := match r with
  | some a => .ref a
  | none => .null
theorem z_rf_em (K : zx_K) (r : Option Nat) : z_em K (z_rf r) = va_rf (r.map (z_ad K)) := by cases r <;> rfl
def z_I (f : Nat → Int32) : z_S := .inl f
def z_J (f : Nat → Int64) : z_S := .inr (.inl f)
def z_O (f : Nat → Option Nat) : z_S := .inr (.inr (.inr (.inr f)))
theorem z_ad3 (K : zx_K) (i : Nat) : z_ad K (i + 3) = zk_z K + i := rfl
theorem z_in_lt {i : Int32} {n : Nat} (h : vp_in i n) : i.toNatClampNeg < n := Nat.not_le.mp fun q => h (Or.inr q)
section ZH
variable {l : Launch} {d : Nat} {y : zx_Y} {X : zx_X} {mc ms : Nat} {Q : Option Value → List z_C → Prop} {pc : Nat} {lv : List (Nat × Value)} {st : List Value} {ph : List z_C} {cc ns : Nat}
theorem zs_getfield {ix i ci k : Nat} {C : String} {T : u_T} {N : Nat} {fs : List Value} {v : Value} (hd : decode y.2.1 pc = .ok (.getfield ix, 3)) (hw : Cond.fieldLink y.1.cls ix (T k).1 (T k).2.1 (T k).2.2.1 ∈ zx_tbl) (hc : zc[ci]? = some (C, T, N)) (hk : k < N) (hi : ph[i]? = some (.inr (ci, fs))) (hv : fs[k]? = some v)
    (kk : ZW l d y X mc ms Q (pc + 3) lv (v :: st) ph cc ns) : ZW l d y X mc ms Q pc lv (.ref (i + 3) :: st) ph cc ns := by
  intro K p e R s m args below meth c H locs QF ls Cx w h4 r hl
  exact va_get Cx.1 Cx.2.1 Cx.2.2.2.2.1 (zc_in hc) Cx.2.2.2.1 Cx.2.2.2.2.2.1 w.2.1 i (z_ws_get hi) hc k hk (Cx.2.2.2.2.1 _ hw) (fun x h => h) (v := z_em K v) (by rw [List.getElem?_map, hv]; rfl) hd (kk K p e R s m args below meth c H locs QF ls Cx w h4 r hl)
theorem z_setF {K : zx_K} {ph : List z_C} {i k ci : Nat} {fs : List Value} {v : Value} : (z_ws K ph).set i (zk_z K + i, .inr (ci, (fs.map (z_em K)).set k (z_em K v))) = z_ws K (ph.set i (.inr (ci, fs.set k v))) := by
  rw [← z_ws_set]
  show _ = (z_ws K ph).set i (zk_z K + i, .inr (ci, (fs.set k v).map (z_em K)))
  rw [List.map_set]
theorem zWo.set {K : zx_K} {s : State} {H H1 : Heap} {locs locs1 : List Loc} {ph : List z_C} {cells i : Nat} {c : z_C} (w : zWo K s H locs ph cells) (hP : va_P (zk_D K) zc (z_ws K (ph.set i c)) H1) (hS : va_S (zk_A K) s.heap H1 locs1) : zWo K s H1 locs1 (ph.set i c) cells :=
  ⟨by rw [List.length_set]; exact w.1, hP, hS⟩
theorem zs_putfield {ix i ci k : Nat} {C : String} {T : u_T} {N : Nat} {fs : List Value} {v : Value} (hd : decode y.2.1 pc = .ok (.putfield ix, 3)) (hw : Cond.fieldLink y.1.cls ix (T k).1 (T k).2.1 (T k).2.2.1 ∈ zx_tbl) (hc : zc[ci]? = some (C, T, N)) (hk : k < N) (hi : ph[i]? = some (.inr (ci, fs))) (hlen : k < fs.length)
    (hfin : (T k).2.2.2 = false) (hty : ∀ K, narrow (zc_ty (C, T, N) k) (z_em K v) = z_em K v ∧ fits (zc_ty (C, T, N) k) (z_em K v) = true)
    (kk : ZW l d y X mc ms Q (pc + 3) lv st (ph.set i (.inr (ci, fs.set k v))) cc ns) : ZW l d y X mc ms Q pc lv (v :: .ref (i + 3) :: st) ph cc ns := by
  intro K p e R s m args below meth c H locs QF ls Cx w h4 r hl
  refine va_put Cx.1 Cx.2.1 Cx.2.2.2.2.1 (zc_in hc) (zc_ty (C, T, N)) (zc_tyOk hc) (zc_nm hc) Cx.2.2.2.1 Cx.2.2.2.2.2.1 w.2.1 (z_wsD K ph) w.2.2 i (z_ws_get hi) hc k hk (Cx.2.2.2.2.1 _ hw) (fun x h => h) hfin (zc_tyOk hc k hk) (hty K).1 (hty K).2 (by rw [List.length_map]; exact hlen) hd (fun H1 locs1 hP hD hS => ?_)
  rw [z_setF] at hP
  exact kk K p e R s m args below meth c H1 locs1 QF ls Cx (w.set hP hS) h4 r hl
theorem zs_putfinal {ix i ci k : Nat} {C : String} {T : u_T} {N : Nat} {fs : List Value} {v : Value} (hd : decode y.2.1 pc = .ok (.putfield ix, 3)) (hw : Cond.fieldLink y.1.cls ix (T k).1 (T k).2.1 (T k).2.2.1 ∈ zx_tbl) (hc : zc[ci]? = some (C, T, N)) (hk : k < N) (hi : ph[i]? = some (.inr (ci, fs))) (hlen : k < fs.length)
    (hfin : (T k).2.2.2 = true) (hin : y.1.name = "<init>") (hdc : (T k).1 = y.1.cls) (hty : ∀ K, narrow (zc_ty (C, T, N) k) (z_em K v) = z_em K v ∧ fits (zc_ty (C, T, N) k) (z_em K v) = true)
    (kk : ZW l d y X mc ms Q (pc + 3) lv st (ph.set i (.inr (ci, fs.set k v))) cc ns) : ZW l d y X mc ms Q pc lv (v :: .ref (i + 3) :: st) ph cc ns := by
  intro K p e R s m args below meth c H locs QF ls Cx w h4 r hl
  refine va_putF Cx.1 Cx.2.1 Cx.2.2.2.2.1 (zc_in hc) (zc_ty (C, T, N)) (zc_tyOk hc) (zc_nm hc) Cx.2.2.2.1 Cx.2.2.2.2.2.1 w.2.1 (z_wsD K ph) w.2.2 i (z_ws_get hi) hc k hk (Cx.2.2.2.2.1 _ hw) (fun x h => h) hfin (Cx.2.2.2.2.2.2.2.2 hin) hdc (zc_tyOk hc k hk) (hty K).1 (hty K).2 (by rw [List.length_map]; exact hlen) hd (fun H1 locs1 hP hD hS => ?_)
  rw [z_setF] at hP
  exact kk K p e R s m args below meth c H1 locs1 QF ls Cx (w.set hP hS) h4 r hl
theorem zs_iaload {i n : Nat} {f : Nat → Int32} {j : Int32} (hd : decode y.2.1 pc = .ok (.iaload, 1)) (hi : ph[i]? = some (.inl (0, n, z_I f))) (hin : vp_in j n)
    (kk : ZW l d y X mc ms Q (pc + 1) lv (.int (f j.toNatClampNeg) :: st) ph cc ns) : ZW l d y X mc ms Q pc lv (.int j :: .ref (i + 3) :: st) ph cc ns := by
  intro K p e R s m args below meth c H locs QF ls Cx w h4 r hl
  exact va_iald Cx.1 Cx.2.1 Cx.2.2.2.2.2.1 w.2.1 i 0 (z_ws_get hi) rfl hin hd (kk K p e R s m args below meth c H locs QF ls Cx w h4 r hl)
theorem zs_laload {i n : Nat} {f : Nat → Int64} {j : Int32} (hd : decode y.2.1 pc = .ok (.laload, 1)) (hi : ph[i]? = some (.inl (1, n, z_J f))) (hin : vp_in j n)
    (kk : ZW l d y X mc ms Q (pc + 1) lv (.long (f j.toNatClampNeg) :: st) ph cc ns) : ZW l d y X mc ms Q pc lv (.int j :: .ref (i + 3) :: st) ph cc ns := by
  intro K p e R s m args below meth c H locs QF ls Cx w h4 r hl
  exact va_lald Cx.1 Cx.2.1 Cx.2.2.2.2.2.1 w.2.1 i 1 (z_ws_get hi) rfl hin hd (kk K p e R s m args below meth c H locs QF ls Cx w h4 r hl)
theorem zs_aaload {i n : Nat} {f : Nat → Option Nat} {j : Int32} (hd : decode y.2.1 pc = .ok (.aaload, 1)) (hi : ph[i]? = some (.inl (2, n, z_O f))) (hin : vp_in j n)
    (kk : ZW l d y X mc ms Q (pc + 1) lv (z_rf (f j.toNatClampNeg) :: st) ph cc ns) : ZW l d y X mc ms Q pc lv (.int j :: .ref (i + 3) :: st) ph cc ns := by
  intro K p e R s m args below meth c H locs QF ls Cx w h4 r hl
  refine va_aldq Cx.1 Cx.2.1 Cx.2.2.2.2.2.1 w.2.1 i 2 (f := fun j => (f j).map (z_ad K)) (z_ws_get hi) rfl hin hd ?_
  have h := kk K p e R s m args below meth c H locs QF ls Cx w h4 r hl
  rw [List.map_cons, z_rf_em] at h
  exact h
theorem zs_alen {i t n : Nat} {x : z_S} {v : Int32} (ht : t < 3) (hv : Int32.ofNat n = v) (hd : decode y.2.1 pc = .ok (.arraylength, 1)) (hi : ph[i]? = some (.inl (t, n, x)))
    (kk : ZW l d y X mc ms Q (pc + 1) lv (.int v :: st) ph cc ns) : ZW l d y X mc ms Q pc lv (.ref (i + 3) :: st) ph cc ns := by
  intro K p e R s m args below meth c H locs QF ls Cx w h4 r hl
  have k2 := kk K p e R s m args below meth c H locs QF ls Cx w h4 r hl
  rcases (by omega : t = 0 ∨ t = 1 ∨ t = 2) with rfl | rfl | rfl
  · exact va_alen Cx.1 Cx.2.1 Cx.2.2.2.2.2.1 w.2.1 i 0 (z_ws_get hi) rfl hv hd k2
  · exact va_alen Cx.1 Cx.2.1 Cx.2.2.2.2.2.1 w.2.1 i 1 (z_ws_get hi) rfl hv hd k2
  · exact va_alen Cx.1 Cx.2.1 Cx.2.2.2.2.2.1 w.2.1 i 2 (z_ws_get hi) rfl hv hd k2
theorem zs_iastore {i n : Nat} {f : Nat → Int32} {j x : Int32} (hd : decode y.2.1 pc = .ok (.iastore, 1)) (hi : ph[i]? = some (.inl (0, n, z_I f))) (hin : vp_in j n)
    (kk : ZW l d y X mc ms Q (pc + 1) lv st (ph.set i (.inl (0, n, z_I (upd f j.toNatClampNeg x)))) cc ns) : ZW l d y X mc ms Q pc lv (.int x :: .int j :: .ref (i + 3) :: st) ph cc ns := by
  intro K p e R s m args below meth c H locs QF ls Cx w h4 r hl
  refine va_iast Cx.1 Cx.2.1 Cx.2.2.2.2.2.1 w.2.1 (z_wsD K ph) w.2.2 i 0 (z_ws_get hi) rfl hin hd (fun H1 locs1 hP hD hS => ?_)
  have hP := z_ws_set K ph i (.inl (0, n, z_I (upd f j.toNatClampNeg x))) ▸ hP
  exact kk K p e R s m args below meth c H1 locs1 QF ls Cx (w.set hP hS) h4 r hl
theorem zs_lastore {i n : Nat} {f : Nat → Int64} {j : Int32} {x : Int64} (hd : decode y.2.1 pc = .ok (.lastore, 1)) (hi : ph[i]? = some (.inl (1, n, z_J f))) (hin : vp_in j n)
    (kk : ZW l d y X mc ms Q (pc + 1) lv st (ph.set i (.inl (1, n, z_J (vp_updL f j.toNatClampNeg x)))) cc ns) : ZW l d y X mc ms Q pc lv (.long x :: .int j :: .ref (i + 3) :: st) ph cc ns := by
  intro K p e R s m args below meth c H locs QF ls Cx w h4 r hl
  refine va_last Cx.1 Cx.2.1 Cx.2.2.2.2.2.1 w.2.1 (z_wsD K ph) w.2.2 i 1 (z_ws_get hi) rfl hin hd (fun H1 locs1 hP hD hS => ?_)
  have hP := z_ws_set K ph i (.inl (1, n, z_J (vp_updL f j.toNatClampNeg x))) ▸ hP
  exact kk K p e R s m args below meth c H1 locs1 QF ls Cx (w.set hP hS) h4 r hl
theorem zs_aastore {i n q : Nat} {f : Nat → Option Nat} {j : Int32} {ci : Nat} {fs : List Value} {T : u_T} {N : Nat} (hd : decode y.2.1 pc = .ok (.aastore, 1)) (hi : ph[i]? = some (.inl (2, n, z_O f))) (hq : ph[q]? = some (.inr (ci, fs))) (hc : zc[ci]? = some (zs_S, T, N)) (hin : vp_in j n)
    (kk : ZW l d y X mc ms Q (pc + 1) lv st (ph.set i (.inl (2, n, z_O (va_up f j.toNatClampNeg (some (q + 3)))))) cc ns) : ZW l d y X mc ms Q pc lv (.ref (q + 3) :: .int j :: .ref (i + 3) :: st) ph cc ns := by
  intro K p e R s m args below meth c H locs QF ls Cx w h4 r hl
  refine va_astq Cx.1 Cx.2.1 Cx.2.2.2.2.2.1 w.2.1 (z_wsD K ph) w.2.2 i 2 q ci (f := fun j => (f j).map (z_ad K)) (r := (zs_S, T, N)) (z_ws_get hi) rfl (z_ws_get hq) hc hin hd (fun H1 locs1 hP hD hS => ?_)
  have e1 : (va_up (fun j => (f j).map (z_ad K)) j.toNatClampNeg (some (zk_z K + q))) = (fun k => (va_up f j.toNatClampNeg (some (q + 3)) k).map (z_ad K)) := by
    funext k
    by_cases h : k = j.toNatClampNeg
    · simp [va_up, h, z_ad3]
    · simp [va_up, h]
  rw [e1] at hP
  have hP := z_ws_set K ph i (.inl (2, n, z_O (va_up f j.toNatClampNeg (some (q + 3))))) ▸ hP
  exact kk K p e R s m args below meth c H1 locs1 QF ls Cx (w.set hP hS) h4 r hl
/-- a table's place -/
theorem zs_tabload {t n : Nat} {g : List Int32} {j : Int32} (ht : t = 0 ∧ n = 32 ∧ g = zs_own ∨ t = 1 ∧ n = 8 ∧ g = zs_abv) (hd : decode y.2.1 pc = .ok (.iaload, 1)) (hin : vp_in j n)
    (kk : ZW l d y X mc ms Q (pc + 1) lv (.int (g.getD j.toNatClampNeg 0) :: st) ph cc ns) : ZW l d y X mc ms Q pc lv (.int j :: .ref t :: st) ph cc ns := by
  intro K p e R s m args below meth c H locs QF ls Cx w h4 r hl
  have hT : va_T .int (z_ad K t) n (fun j => .int (g.getD j 0)) (zk_A K) s s.heap := by
    rcases ht with ⟨rfl, rfl, rfl⟩ | ⟨rfl, rfl, rfl⟩
    · exact Cx.2.2.2.2.2.2.1.2.2.1
    · exact Cx.2.2.2.2.2.2.1.2.2.2.1
  obtain ⟨cell, h1, h2, h3, h5, h6, h7, h8⟩ := hT
  have hlt := z_in_lt hin
  exact W.iald Cx.1 Cx.2.1 (by rw [w.2.2.2.1 _ (Array.getElem?_eq_some_iff.mp h1).1 h8]; exact h1) h2 h3 (fun q => q.elim (fun a => hin (Or.inl a)) (fun a => by omega)) (h7 _ hlt) rfl rfl hd (kk K p e R s m args below meth c H locs QF ls Cx w h4 r hl)
theorem zs_scrload {j : Int32} (hd : decode y.2.1 pc = .ok (.iaload, 1)) (hin : vp_in j X.1)
    (kk : ZW l d y X mc ms Q (pc + 1) lv (.int (X.2 j.toNatClampNeg) :: st) ph cc ns) : ZW l d y X mc ms Q pc lv (.int j :: .ref 2 :: st) ph cc ns := by
  intro K p e R s m args below meth c H locs QF ls Cx w h4 r hl
  obtain ⟨-, -, -, -, hX, hb, -⟩ := Cx.2.2.2.2.2.2.1
  exact va_sld Cx.1 Cx.2.1 hX (Nat.lt_of_lt_of_le hb Cx.2.2.2.2.2.2.2.1) (Nat.not_le.mpr hb) w.2.2 hin hd (kk K p e R s m args below meth c H locs QF ls Cx w h4 r hl)
theorem zs_scrlen (hd : decode y.2.1 pc = .ok (.arraylength, 1))
    (kk : ZW l d y X mc ms Q (pc + 1) lv (.int (Int32.ofNat X.1) :: st) ph cc ns) : ZW l d y X mc ms Q pc lv (.ref 2 :: st) ph cc ns := by
  intro K p e R s m args below meth c H locs QF ls Cx w h4 r hl
  obtain ⟨-, -, -, -, hX, hb, -⟩ := Cx.2.2.2.2.2.2.1
  exact va_slen Cx.1 Cx.2.1 hX (Nat.lt_of_lt_of_le hb Cx.2.2.2.2.2.2.2.1) (Nat.not_le.mpr hb) w.2.2 hd (kk K p e R s m args below meth c H locs QF ls Cx w h4 r hl)
theorem zs_getstatic {ix t : Nat} {f : String} (ht : t = 0 ∧ f = "OWN" ∨ t = 1 ∧ f = "ABOVE") (hw : Cond.fieldLink y.1.cls ix zs_B f "[I" ∈ zx_tbl) (hd : decode y.2.1 pc = .ok (.getstatic ix, 3))
    (kk : ZW l d y X mc ms Q (pc + 3) lv (.ref t :: st) ph cc ns) : ZW l d y X mc ms Q pc lv st ph cc ns := by
  intro K p e R s m args below meth c H locs QF ls Cx w h4 r hl
  have hZ : va_Z zs_B f "[I" (.ref (z_ad K t)) (zk_A K) s s.heap := by
    rcases ht with ⟨rfl, rfl⟩ | ⟨rfl, rfl⟩
    · exact Cx.2.2.2.2.2.2.1.1
    · exact Cx.2.2.2.2.2.2.1.2.1
  exact va_gets Cx.1 Cx.2.1 hZ w.2.2 Cx.2.2.2.1 (Cx.2.2.2.2.1 _ hw) (fun x h => h) hd (kk K p e R s m args below meth c H locs QF ls Cx w h4 r hl)
theorem z_va_push {K : zx_K} {s : State} {H H1 : Heap} {locs : List Loc} {ph : List z_C} {cells : Nat} {c : z_C} (w : zWo K s H locs ph cells) (hh : H.size = zk_z K + ph.length) (hat : va_at (zk_D K) zc (zk_z K + ph.length, z_ce K c) H1) (z1 : H1.size = H.size + 1) (o1 : ∀ q : Nat, q < H.size → H1[q]? = H[q]?) : zWo K s H1 locs (ph ++ [c]) (cells + 1) := by
  refine ⟨by rw [List.length_append]; have := w.1; simp only [List.length_singleton]; omega, ?_, ⟨by have := w.2.2.1; omega, fun q h1 h2 => by rw [o1 q (Nat.lt_of_lt_of_le h1 w.2.2.1)]; exact w.2.2.2.1 q h1 h2, w.2.2.2.2⟩⟩
  rw [z_ws_push]
  refine va_P.app (w.2.1.kept (fun k q hk => o1 q.1 (w.2.1 k q hk).lt)) (fun k q hk => ?_)
  have hz : k < 1 := (List.getElem?_eq_some_iff.mp hk).1
  rw [show k = 0 by omega] at hk
  cases hk
  exact hat
theorem zs_newI {n : Int32} {N : Nat} (hw : Cond.arrayClass .int ∈ zx_tbl) (hn : ¬ n < 0) (hN : n.toNatClampNeg = N) (hb : N * componentBytes .int ≤ 536870912) (hc : cc + 1 ≤ mc) (hs : ns + N ≤ ms) (hd : decode y.2.1 pc = .ok (.newarray .int, 2))
    (kk : ZW l d y X mc ms Q (pc + 2) lv (.ref (ph.length + 3) :: st) (ph ++ [.inl (0, N, z_I (fun _ => 0))]) (cc + 1) (ns + N)) : ZW l d y X mc ms Q pc lv (.int n :: st) ph cc ns := by
  intro K p e R s m args below meth c H locs QF ls Cx w h4 r hl T hT Xs
  have hz := z_size Xs Cx.2.2.2.2.2.2.2.1 (hT ▸ w)
  rw [hT] at hz
  refine (show W p l e R s m args below meth c H locs cc ns QF (F0 m pc ls ((Value.int n :: st).map (z_em K))) from ?_) T hT Xs
  refine va_newaK (atype := .int) (N := N) Cx.1 Cx.2.1 (Cx.2.2.2.2.1 _ hw) rfl hd rfl hn hN hb (Nat.le_trans hc h4.2.2.1) (Nat.le_trans hs h4.2.2.2) hz (fun H1 cA e1 z1 o1 hA hf => ?_)
  have hcA : cA = zk_c K 0 := by
    have h2 := (Cx.2.2.2.2.2.1.2 0 _ rfl).2
    exact Option.some.inj (hf.symm.trans h2)
  subst hcA
  have e2 : H1[zk_z K + ph.length]? = some (vp_cell (zk_c K 0) (N, .inl (fun _ => 0))) := e1
  exact kk K p e R s m args below meth c H1 locs QF ls Cx (z_va_push w hz e2 (by omega) (fun q hq => o1 q (by omega))) h4 r hl
theorem zs_newJ {n : Int32} {N : Nat} (hw : Cond.arrayClass .long ∈ zx_tbl) (hn : ¬ n < 0) (hN : n.toNatClampNeg = N) (hb : N * componentBytes .long ≤ 536870912) (hc : cc + 1 ≤ mc) (hs : ns + N ≤ ms) (hd : decode y.2.1 pc = .ok (.newarray .long, 2))
    (kk : ZW l d y X mc ms Q (pc + 2) lv (.ref (ph.length + 3) :: st) (ph ++ [.inl (1, N, z_J (fun _ => 0))]) (cc + 1) (ns + N)) : ZW l d y X mc ms Q pc lv (.int n :: st) ph cc ns := by
  intro K p e R s m args below meth c H locs QF ls Cx w h4 r hl T hT Xs
  have hz := z_size Xs Cx.2.2.2.2.2.2.2.1 (hT ▸ w)
  rw [hT] at hz
  refine (show W p l e R s m args below meth c H locs cc ns QF (F0 m pc ls ((Value.int n :: st).map (z_em K))) from ?_) T hT Xs
  refine va_newaK (atype := .long) (N := N) Cx.1 Cx.2.1 (Cx.2.2.2.2.1 _ hw) rfl hd rfl hn hN hb (Nat.le_trans hc h4.2.2.1) (Nat.le_trans hs h4.2.2.2) hz (fun H1 cA e1 z1 o1 hA hf => ?_)
  have hcA : cA = zk_c K 1 := by
    have h2 := (Cx.2.2.2.2.2.1.2 1 _ rfl).2
    exact Option.some.inj (hf.symm.trans h2)
  subst hcA
  have e2 : H1[zk_z K + ph.length]? = some (vp_cell (zk_c K 1) (N, .inr (.inl (fun _ => 0)))) := e1
  exact kk K p e R s m args below meth c H1 locs QF ls Cx (z_va_push w hz e2 (by omega) (fun q hq => o1 q (by omega))) h4 r hl
theorem zs_newO {ix : Nat} {n : Int32} {N : Nat} (hw : Cond.classLink y.1.cls ix zs_S ∈ zx_tbl) (hn : ¬ n < 0) (hN : n.toNatClampNeg = N) (hb : n.toNatClampNeg * 4 ≤ 536870912) (hc : cc + 1 ≤ mc) (hs : ns + N ≤ ms) (hd : decode y.2.1 pc = .ok (.anewarray ix, 3))
    (kk : ZW l d y X mc ms Q (pc + 3) lv (.ref (ph.length + 3) :: st) (ph ++ [.inl (2, N, z_O (fun _ => none))]) (cc + 1) (ns + N)) : ZW l d y X mc ms Q pc lv (.int n :: st) ph cc ns := by
  intro K p e R s m args below meth c H locs QF ls Cx w h4 r hl T hT Xs
  have hz := z_size Xs Cx.2.2.2.2.2.2.2.1 (hT ▸ w)
  rw [hT] at hz
  subst hN
  refine (show W p l e R s m args below meth c H locs cc ns QF (F0 m pc ls ((Value.int n :: st).map (z_em K))) from ?_) T hT Xs
  refine W.anew (C := zs_S) Cx.1 Cx.2.1 Cx.2.2.2.1 (Cx.2.2.2.2.1 _ hw) (va_AO.use Cx.2.2.2.2.2.2.1.2.2.2.2.2.2) rfl hd rfl hn hb (Nat.le_trans hc h4.2.2.1) (Nat.le_trans hs h4.2.2.2) (fun cA kA comp f1 f2 f3 f4 => ?_)
  have hcA : cA = zk_c K 2 := by
    obtain ⟨kA', comp', g1, g2, g3, g4⟩ := (Cx.2.2.2.2.2.1.2 2 _ rfl).2
    exact Option.some.inj (f1.symm.trans g4)
  subst hcA
  have e0 : ({ cls := zk_c K 2, slots := Array.replicate n.toNatClampNeg .null, vm := .none } : Cell) = vp_cell (zk_c K 2) (n.toNatClampNeg, .inr (.inr (.inr (.inr (fun _ => none))))) := by
    rw [vp_cell_q]
    show _ = arrV _ _ _
    rw [arrV]
    congr 1
    apply Array.ext
    · simp
    · intro i h1 h2
      simp [va_rf]
  rw [e0, hz]
  have e2 : (H.push (vp_cell (zk_c K 2) (n.toNatClampNeg, .inr (.inr (.inr (.inr (fun _ => none)))))))[zk_z K + ph.length]? = some (vp_cell (zk_c K 2) (n.toNatClampNeg, .inr (.inr (.inr (.inr (fun _ => none)))))) := by
    rw [← hz]; simp
  exact kk K p e R s m args below meth c _ locs QF ls Cx (z_va_push (c := .inl (2, n.toNatClampNeg, z_O (fun _ => none))) w hz e2 (by simp) (fun q hq => by rw [Array.getElem?_push, if_neg (Nat.ne_of_lt hq)])) h4 r hl
/-- an object as it is made -/
def zc_fs (q : vw_C) : List Value := (List.range q.2.2).map (fun k => defaultValue (zc_ty q k))
theorem zc_fsOk {q : vw_C} {j : Nat} (hj : j < q.2.2) : vp_V (zc_fs q) j = defaultValue (zc_ty q j) := by
  simp [vp_V, zc_fs, hj]
theorem z_dflt (K : zx_K) (t : FieldType) : z_em K (defaultValue t) = defaultValue t := by cases t <;> rfl
theorem zc_fsEm (K : zx_K) (q : vw_C) : (zc_fs q).map (z_em K) = zc_fs q := by
  simp [zc_fs, z_dflt]
theorem zs_new {ix ci : Nat} {C : String} {T : u_T} {N : Nat} (hw : Cond.classLink y.1.cls ix C ∈ zx_tbl) (hw2 : Cond.instantiable C N ∈ zx_tbl) (hw3 : Cond.initialized C ∈ zx_tbl) (hc : zc[ci]? = some (C, T, N)) (hcc : cc + 1 ≤ mc) (hs : ns + N ≤ ms) (hd : decode y.2.1 pc = .ok (.new ix, 3))
    (kk : ZW l d y X mc ms Q (pc + 3) lv (.ref (ph.length + 3) :: st) (ph ++ [.inr (ci, zc_fs (C, T, N))]) (cc + 1) (ns + N)) : ZW l d y X mc ms Q pc lv st ph cc ns := by
  intro K p e R s m args below meth c H locs QF ls Cx w h4 r hl Ts hT Xs
  have hz := z_size Xs Cx.2.2.2.2.2.2.2.1 (hT ▸ w)
  rw [hT] at hz
  have hKn := Cx.2.2.2.2.2.1.1 ci _ hc
  refine (show W p l e R s m args below meth c H locs cc ns QF (F0 m pc ls (st.map (z_em K))) from ?_) Ts hT Xs
  refine W.newcK Cx.1 Cx.2.1 Cx.2.2.2.1 (Cx.2.2.2.2.1 _ hw) (Cx.2.2.2.2.1 _ hw2) (Cx.2.2.2.2.1 _ hw3) rfl hd (Nat.le_trans hcc h4.2.2.1) (Nat.le_trans hs h4.2.2.2) hKn.2.1 hz (fun H1 kC hkC e1 z1 o1 => ?_)
  have hat : va_at (zk_D K) zc (zk_z K + ph.length, z_ce K (.inr (ci, zc_fs (C, T, N)))) H1 := by
    refine ⟨(C, T, N), hc, ?_⟩
    show t_OB _ _ _ _ _ (vp_V ((zc_fs (C, T, N)).map (z_em K)))
    rw [zc_fsEm]
    exact (u_born (zc_ty (C, T, N)) Cx.2.2.2.2.1 (zc_in hc) hKn hkC e1 (zc_tyOk hc)).to (fun k hk => (zc_fsOk (q := (C, T, N)) hk).symm)
  exact kk K p e R s m args below meth c H1 locs QF ls Cx (z_va_push w hz hat (by omega) (fun q hq => o1 q (by omega))) h4 r hl
theorem zs_objInit {ix a : Nat} (hw : Cond.methodLink y.1.cls ix Lib.objectInit ∈ zx_tbl) (hw2 : Cond.instanceMethod Lib.objectInit ∈ zx_tbl) (hw3 : Cond.code Lib.objectInit ⟨#[0xb1]⟩ 1 none ∈ zx_tbl) (hdd : 1 ≤ d) (hst : (st.map (fun v => v.category)).sum ≤ 8) (hd : decode y.2.1 pc = .ok (.invokespecial ix, 3))
    (kk : ZW l d y X mc ms Q (pc + 3) lv st ph cc ns) : ZW l d y X mc ms Q pc lv (.ref a :: st) ph cc ns := by
  intro K p e R s m args below meth c H locs QF ls Cx w h4 r hl
  refine W.objInit Cx.1 Cx.2.1 Cx.2.2.2.1 (Cx.2.2.2.2.1 _ hw) (Cx.2.2.2.2.1 _ hw2) (Cx.2.2.2.2.1 _ hw3) rfl (by rw [Cx.2.2.1]; exact hl.1) rfl hd (Nat.le_trans hdd h4.1) ?_ (kk K p e R s m args below meth c H locs QF ls Cx w h4 r hl)
  have e1 : ((st.map (z_em K)).map fun v => v.category) = st.map (fun v => v.category) := by
    rw [List.map_map]
    exact List.map_congr_left (fun v _ => z_emc K v)
  rw [e1]
  have := h4.2.1
  show 2 * 0 + _ + 12 ≤ R.locals
  omega
end ZH
end
section
/-! PART 05: calls. -/
theorem zg_cons {w : Cond} {ws : List Cond} (h : w ∈ zx_tbl) (g : GoodIn zx_tbl ws) : GoodIn zx_tbl (w :: ws) := fun x hx => (List.mem_cons.mp hx).elim (fun e => by rw [e]; exact zx_good w h) (g x)
theorem z_blind (K : zx_K) (X : zx_X) (as : List Value) (ph : List z_C) : FrameBlind (zPc K X as ph) := fun a U g mk h =>
  ⟨h.1, h.2.1, h.2.2.1, va_K.moved (u := U) (U := U.calling g mk a) (Vm.Alike.refl U.vm) h.2.2.2.1, z_St.moved (u := U) (U := U.calling g mk a) (Vm.Alike.refl U.vm) h.2.2.2.2⟩
section ZC
variable {p : Program} {l : Launch} {e : Env} {R : Room} {s : State} {m : MethodId} {args : Array Value} {below : List Frame} {meth : Method} {c : Code} {H : Heap} {locs : List Loc} {cc ns : Nat} {QF : State → Prop} {K : zx_K} {X : zx_X} {ph : List z_C}
theorem z_pre (hK : va_K (zk_D K) zc (z_tys K) s) (hSt : z_St K X s s.heap) (hz : zk_z K ≤ s.heap.size) (w : zWo K s H locs ph cc) (hsz : H.size = zk_z K + ph.length) (as : List Value) : ∀ U : State, U.heap = H → s.WarmedH U.vm → zPc K X as ph (as.map (z_em K)).toArray U := by
  intro U hU hW
  refine ⟨rfl, by rw [hU]; exact hsz, by rw [hU]; exact w.2.1, va_K.moved hW.alike hK, ?_⟩
  rw [hU]
  exact z_St.moved hW.alike (hSt.kept hz (fun q h1 h2 => w.2.2.2.1 q h1 h2))
theorem z_call {pc : Nat} {ls : Array Slot} {st0 st : List Value} {mc' ms' : Nat} {Q' : Option Value → List z_C → Prop} {a : Array Value}
    (hr : va_Run p l e R s m args below meth c H locs cc ns mc' ms' (F0 m pc ls st0) (st.map (z_em K)) (zQc K ph mc' Q' a) (zk_A K)) (w : zWo K s H locs ph cc)
    (kk : ∀ (v : Option Value) (ph' : List z_C) (H1 : Heap) (locs1 : List Loc), Q' v ph' → zWo K s H1 locs1 ph' (cc + mc') → W p l e R s m args below meth c H1 locs1 (cc + mc') (ns + ms') QF (F0 m (pc + 3) ls ((v.toList ++ st).map (z_em K)))) :
    W p l e R s m args below meth c H locs cc ns QF (F0 m pc ls st0) := by
  intro T hT Xs
  obtain ⟨v, st₀, t, T', L, h0, X', hL, e1, e2, ⟨⟨v', ph', hv, hq, hem, hlen, hP⟩, hz, hk⟩, sp⟩ := hr T hT Xs
  cases hv
  rw [h0] at hz hk
  have w' : zWo K s T'.heap (locs ++ L) ph' (cc + mc') := by
    refine ⟨by have := w.1; omega, by rw [e1]; exact hP, ⟨Nat.le_trans w.2.2.1 (by rw [e1]; exact hz), fun q h1 h2 => by rw [e1, hk q (Nat.lt_of_lt_of_le h1 w.2.2.1) h2]; exact w.2.2.2.1 q h1 h2, fun q hq' => ?_⟩⟩
    rcases List.mem_append.mp hq' with h | h
    · exact w.2.2.2.2 q h
    · exact hL q h
  obtain ⟨t2, a1, b1⟩ := kk v ph' T'.heap (locs ++ L) hq w' T' rfl X'
  refine ⟨t2, sp t2 ?_, b1⟩
  have e3 : (v.toList ++ st).map (z_em K) = v.toList ++ st.map (z_em K) := by
    rw [List.map_append]
    congr 1
    cases v with
    | none => rfl
    | some x => exact congrArg (fun o => o.toList) hem
  rw [e3] at a1
  exact a1
end ZC
theorem z_catR {K : zx_K} {m : MethodId} {pc : Nat} {ls : Array Slot} {st0 st : List Value} (h : (st.map (fun v => v.category)).sum ≤ 8) : 2 * (F0 m pc ls st0).monitorRoom + ((st.map (z_em K)).map fun v => v.category).sum ≤ 8 := by
  have e1 : ((st.map (z_em K)).map fun v => v.category) = st.map (fun v => v.category) := by
    rw [List.map_map]
    exact List.map_congr_left (fun v _ => z_emc K v)
  rw [e1]
  show 2 * 0 + _ ≤ 8
  omega
/-- what is said of a callee by the tables -/
def zCal (y' : zx_Y) (n : Nat) : Prop := Cond.code y'.1 y'.2.1 y'.2.2.1 y'.2.2.2 ∈ zx_tbl ∧ Cond.initialized y'.1.cls ∈ zx_tbl ∧ (y'.1.cls ≠ "java/lang/invoke/MethodHandle" ∧ y'.1.cls ≠ "java/lang/invoke/VarHandle" ∧ (parseMethodDescriptor y'.1.desc).map (fun d => d.parameters.length) = some n) ∧ y'.2.2.1 ≤ 21
section ZD
variable {l : Launch} {d : Nat} {y : zx_Y} {X : zx_X} {mc ms : Nat} {Q : Option Value → List z_C → Prop} {pc : Nat} {lv : List (Nat × Value)} {st : List Value} {ph : List z_C} {cc ns : Nat}
variable {d' mc' ms' n ix : Nat} {y' : zx_Y} {Q' : Option Value → List z_C → Prop} {as : List Value}

theorem zs_callS (hlk : Cond.methodLink y.1.cls ix y'.1 ∈ zx_tbl) (hsc : Cond.static y'.1 ∈ zx_tbl) (hcal : zCal y' n) (hn : as.length = n) (hst : (st.map (fun v => v.category)).sum ≤ 8) (hdd : d' + 1 ≤ d) (hcc : cc + mc' ≤ mc) (hss : ns + ms' ≤ ms) (hd : decode y.2.1 pc = .ok (.invokestatic ix, 3)) (hM : ZM l d' y' X (as) ph mc' ms' Q')
    (kk : ∀ (v : Option Value) (ph' : List z_C), Q' v ph' → ZW l d y X mc ms Q (pc + 3) lv (v.toList ++ st) ph' (cc + mc') (ns + ms')) : ZW l d y X mc ms Q pc lv (as.reverse ++ st) ph cc ns := by
  intro K p e R s m args below meth c H locs QF ls Cx w h4 r hl T hT Xs
  have hz := z_size Xs Cx.2.2.2.2.2.2.2.1 (hT ▸ w)
  rw [hT] at hz
  obtain ⟨hcode, hini, hpl, hml⟩ := hcal
  have hpre := z_pre (X := X) Cx.2.2.2.2.2.1 Cx.2.2.2.2.2.2.1 Cx.2.2.2.2.2.2.2.1 w hz (as)
  have hG : GoodIn zx_tbl (zx_wd y') := zg_cons hcode zx_good
  have hR : d' + 1 ≤ R.frames ∧ 8 + (y'.2.2.1 + 11) + 40 * (d' + 1) ≤ R.locals := ⟨Nat.le_trans hdd h4.1, by have := h4.2.1; omega⟩
  have hF : CallFix p m c y.2.1 y.2.2.1 s args zx_tbl y.1.cls := ⟨Cx.1, Cx.2.1, Cx.2.2.1, Cx.2.2.2.1, Cx.2.2.2.2.1⟩
  have hfc : cc + mc' ≤ R.cells ∧ ns + ms' ≤ R.slots := ⟨Nat.le_trans hcc h4.2.2.1, Nat.le_trans hss h4.2.2.2⟩
  refine (show W p l e R s m args below meth c H locs cc ns QF (F0 m pc ls ((as.reverse ++ st).map (z_em K))) from ?_) T hT Xs
  refine z_call (va_runS (As := as.map (z_em K)) hF (hM K) (va_cwS n Cx.2.2.2.2.1 (zg_cons hlk (zg_cons hsc (zg_cons hini hG))) rfl rfl rfl hpl hR) ⟨z_blind K X _ ph, hpre⟩ rfl (by rw [List.length_map]; exact hn) hl.1 (by rw [List.map_append, List.map_reverse]) (z_catR hst) hd hfc) w (fun v ph' H1 locs1 hq w1 => ?_)
  exact kk v ph' hq K p e R s m args below meth c H1 locs1 QF ls Cx w1 h4 r hl
theorem zs_callSN {host : String} (hlk : Cond.methodLinkNest y.1.cls ix y'.1 host ∈ zx_tbl) (hsc : Cond.static y'.1 ∈ zx_tbl) (hcal : zCal y' n) (hn : as.length = n) (hst : (st.map (fun v => v.category)).sum ≤ 8) (hdd : d' + 1 ≤ d) (hcc : cc + mc' ≤ mc) (hss : ns + ms' ≤ ms) (hd : decode y.2.1 pc = .ok (.invokestatic ix, 3)) (hM : ZM l d' y' X (as) ph mc' ms' Q')
    (kk : ∀ (v : Option Value) (ph' : List z_C), Q' v ph' → ZW l d y X mc ms Q (pc + 3) lv (v.toList ++ st) ph' (cc + mc') (ns + ms')) : ZW l d y X mc ms Q pc lv (as.reverse ++ st) ph cc ns := by
  intro K p e R s m args below meth c H locs QF ls Cx w h4 r hl T hT Xs
  have hz := z_size Xs Cx.2.2.2.2.2.2.2.1 (hT ▸ w)
  rw [hT] at hz
  obtain ⟨hcode, hini, hpl, hml⟩ := hcal
  have hpre := z_pre (X := X) Cx.2.2.2.2.2.1 Cx.2.2.2.2.2.2.1 Cx.2.2.2.2.2.2.2.1 w hz (as)
  have hG : GoodIn zx_tbl (zx_wd y') := zg_cons hcode zx_good
  have hR : d' + 1 ≤ R.frames ∧ 8 + (y'.2.2.1 + 11) + 40 * (d' + 1) ≤ R.locals := ⟨Nat.le_trans hdd h4.1, by have := h4.2.1; omega⟩
  have hF : CallFix p m c y.2.1 y.2.2.1 s args zx_tbl y.1.cls := ⟨Cx.1, Cx.2.1, Cx.2.2.1, Cx.2.2.2.1, Cx.2.2.2.2.1⟩
  have hfc : cc + mc' ≤ R.cells ∧ ns + ms' ≤ R.slots := ⟨Nat.le_trans hcc h4.2.2.1, Nat.le_trans hss h4.2.2.2⟩
  refine (show W p l e R s m args below meth c H locs cc ns QF (F0 m pc ls ((as.reverse ++ st).map (z_em K))) from ?_) T hT Xs
  refine z_call (va_runSN (As := as.map (z_em K)) hF (hM K) ⟨va_cnB n Cx.2.2.2.2.1 hG rfl rfl rfl (va_Nw.of rfl (Cx.2.2.2.2.1 _ hlk)) (Cx.2.2.2.2.1 _ hini) hpl hR, Cx.2.2.2.2.1 _ hsc, trivial⟩ ⟨z_blind K X _ ph, hpre⟩ rfl (by rw [List.length_map]; exact hn) hl.1 (by rw [List.map_append, List.map_reverse]) (z_catR hst) hd hfc) w (fun v ph' H1 locs1 hq w1 => ?_)
  exact kk v ph' hq K p e R s m args below meth c H1 locs1 QF ls Cx w1 h4 r hl
theorem zs_callV {i ci : Nat} {fs : List Value} {T : u_T} {N : Nat} (hlk : Cond.methodLink y.1.cls ix y'.1 ∈ zx_tbl) (him : Cond.instanceMethod y'.1 ∈ zx_tbl) (hse : Cond.selects y'.1.cls y'.1 y'.1 ∈ zx_tbl) (hi : ph[i]? = some (.inr (ci, fs))) (hc : zc[ci]? = some (y'.1.cls, T, N)) (hcal : zCal y' n) (hn : as.length = n) (hst : (st.map (fun v => v.category)).sum ≤ 8) (hdd : d' + 1 ≤ d) (hcc : cc + mc' ≤ mc) (hss : ns + ms' ≤ ms) (hd : decode y.2.1 pc = .ok (.invokevirtual ix, 3)) (hM : ZM l d' y' X (.ref (i + 3) :: as) ph mc' ms' Q')
    (kk : ∀ (v : Option Value) (ph' : List z_C), Q' v ph' → ZW l d y X mc ms Q (pc + 3) lv (v.toList ++ st) ph' (cc + mc') (ns + ms')) : ZW l d y X mc ms Q pc lv (as.reverse ++ .ref (i + 3) :: st) ph cc ns := by
  intro K p e R s m args below meth c H locs QF ls Cx w h4 r hl T hT Xs
  have hz := z_size Xs Cx.2.2.2.2.2.2.2.1 (hT ▸ w)
  rw [hT] at hz
  obtain ⟨hcode, hini, hpl, hml⟩ := hcal
  have hpre := z_pre (X := X) Cx.2.2.2.2.2.1 Cx.2.2.2.2.2.2.1 Cx.2.2.2.2.2.2.2.1 w hz (.ref (i + 3) :: as)
  have hG : GoodIn zx_tbl (zx_wd y') := zg_cons hcode zx_good
  have hR : d' + 1 ≤ R.frames ∧ 8 + (y'.2.2.1 + 11) + 40 * (d' + 1) ≤ R.locals := ⟨Nat.le_trans hdd h4.1, by have := h4.2.1; omega⟩
  have hF : CallFix p m c y.2.1 y.2.2.1 s args zx_tbl y.1.cls := ⟨Cx.1, Cx.2.1, Cx.2.2.1, Cx.2.2.2.1, Cx.2.2.2.2.1⟩
  have hfc : cc + mc' ≤ R.cells ∧ ns + ms' ≤ R.slots := ⟨Nat.le_trans hcc h4.2.2.1, Nat.le_trans hss h4.2.2.2⟩
  refine (show W p l e R s m args below meth c H locs cc ns QF (F0 m pc ls ((as.reverse ++ .ref (i + 3) :: st).map (z_em K))) from ?_) T hT Xs
  refine z_call (va_runV (As := as.map (z_em K)) (b := zk_z K + i) (C := y'.1.cls) hF (hM K) (cwV n Cx.2.2.2.2.1 (zg_cons hlk (zg_cons him (zg_cons hse (zg_cons hini hG)))) rfl rfl rfl ⟨rfl, hpl⟩ hR) ⟨z_blind K X _ ph, va_recv Cx.2.2.2.2.2.1 w.2.1 hc (z_ws_get hi), hpre⟩ rfl (by rw [List.length_map]; exact hn) hl.1 (by rw [List.map_append, List.map_reverse]; rfl) (z_catR hst) hd hfc) w (fun v ph' H1 locs1 hq w1 => ?_)
  exact kk v ph' hq K p e R s m args below meth c H1 locs1 QF ls Cx w1 h4 r hl
theorem zs_callI {a : Nat} (hnone : y'.2.2.2 = none) (hnm : y'.1.name = "<init>") (hlk : Cond.methodLink y.1.cls ix y'.1 ∈ zx_tbl) (him : Cond.instanceMethod y'.1 ∈ zx_tbl) (hcal : zCal y' n) (hn : as.length = n) (hst : (st.map (fun v => v.category)).sum ≤ 8) (hdd : d' + 1 ≤ d) (hcc : cc + mc' ≤ mc) (hss : ns + ms' ≤ ms) (hd : decode y.2.1 pc = .ok (.invokespecial ix, 3)) (hM : ZM l d' y' X (.ref a :: as) ph mc' ms' Q')
    (kk : ∀ (v : Option Value) (ph' : List z_C), Q' v ph' → ZW l d y X mc ms Q (pc + 3) lv (v.toList ++ st) ph' (cc + mc') (ns + ms')) : ZW l d y X mc ms Q pc lv (as.reverse ++ .ref a :: st) ph cc ns := by
  intro K p e R s m args below meth c H locs QF ls Cx w h4 r hl T hT Xs
  have hz := z_size Xs Cx.2.2.2.2.2.2.2.1 (hT ▸ w)
  rw [hT] at hz
  obtain ⟨hcode, hini, hpl, hml⟩ := hcal
  have hpre := z_pre (X := X) Cx.2.2.2.2.2.1 Cx.2.2.2.2.2.2.1 Cx.2.2.2.2.2.2.2.1 w hz (.ref a :: as)
  have hG : GoodIn zx_tbl (zx_wd y') := zg_cons hcode zx_good
  have hR : d' + 1 ≤ R.frames ∧ 8 + (y'.2.2.1 + 11) + 40 * (d' + 1) ≤ R.locals := ⟨Nat.le_trans hdd h4.1, by have := h4.2.1; omega⟩
  have hF : CallFix p m c y.2.1 y.2.2.1 s args zx_tbl y.1.cls := ⟨Cx.1, Cx.2.1, Cx.2.2.1, Cx.2.2.2.1, Cx.2.2.2.2.1⟩
  have hfc : cc + mc' ≤ R.cells ∧ ns + ms' ≤ R.slots := ⟨Nat.le_trans hcc h4.2.2.1, Nat.le_trans hss h4.2.2.2⟩
  refine (show W p l e R s m args below meth c H locs cc ns QF (F0 m pc ls ((as.reverse ++ .ref a :: st).map (z_em K))) from ?_) T hT Xs
  refine z_call (va_runI (As := as.map (z_em K)) (b := z_ad K a) (bytes := y'.2.1) (maxL := y'.2.2.1) hF (hM K) (cwI n Cx.2.2.2.2.1 hG (by rw [zx_wd, hnone]) rfl rfl (Cx.2.2.2.2.1 _ hini) (Cx.2.2.2.2.1 _ hlk) (Cx.2.2.2.2.1 _ him) hnm hpl hR) ⟨z_blind K X _ ph, hpre⟩ rfl (by rw [List.length_map]; exact hn) hl.1 (by rw [List.map_append, List.map_reverse]; rfl) (z_catR hst) hd hfc) w (fun v ph' H1 locs1 hq w1 => ?_)
  exact kk v ph' hq K p e R s m args below meth c H1 locs1 QF ls Cx w1 h4 r hl
theorem zs_callIN {a : Nat} {host : String} (hnone : y'.2.2.2 = none) (hnm : y'.1.name = "<init>") (hlk : Cond.methodLinkNest y.1.cls ix y'.1 host ∈ zx_tbl) (him : Cond.instanceMethod y'.1 ∈ zx_tbl) (hcal : zCal y' n) (hn : as.length = n) (hst : (st.map (fun v => v.category)).sum ≤ 8) (hdd : d' + 1 ≤ d) (hcc : cc + mc' ≤ mc) (hss : ns + ms' ≤ ms) (hd : decode y.2.1 pc = .ok (.invokespecial ix, 3)) (hM : ZM l d' y' X (.ref a :: as) ph mc' ms' Q')
    (kk : ∀ (v : Option Value) (ph' : List z_C), Q' v ph' → ZW l d y X mc ms Q (pc + 3) lv (v.toList ++ st) ph' (cc + mc') (ns + ms')) : ZW l d y X mc ms Q pc lv (as.reverse ++ .ref a :: st) ph cc ns := by
  intro K p e R s m args below meth c H locs QF ls Cx w h4 r hl T hT Xs
  have hz := z_size Xs Cx.2.2.2.2.2.2.2.1 (hT ▸ w)
  rw [hT] at hz
  obtain ⟨hcode, hini, hpl, hml⟩ := hcal
  have hpre := z_pre (X := X) Cx.2.2.2.2.2.1 Cx.2.2.2.2.2.2.1 Cx.2.2.2.2.2.2.2.1 w hz (.ref a :: as)
  have hG : GoodIn zx_tbl (zx_wd y') := zg_cons hcode zx_good
  have hR : d' + 1 ≤ R.frames ∧ 8 + (y'.2.2.1 + 11) + 40 * (d' + 1) ≤ R.locals := ⟨Nat.le_trans hdd h4.1, by have := h4.2.1; omega⟩
  have hF : CallFix p m c y.2.1 y.2.2.1 s args zx_tbl y.1.cls := ⟨Cx.1, Cx.2.1, Cx.2.2.1, Cx.2.2.2.1, Cx.2.2.2.2.1⟩
  have hfc : cc + mc' ≤ R.cells ∧ ns + ms' ≤ R.slots := ⟨Nat.le_trans hcc h4.2.2.1, Nat.le_trans hss h4.2.2.2⟩
  refine (show W p l e R s m args below meth c H locs cc ns QF (F0 m pc ls ((as.reverse ++ .ref a :: st).map (z_em K))) from ?_) T hT Xs
  refine z_call (va_runIN (As := as.map (z_em K)) (b := z_ad K a) (bytes := y'.2.1) (maxL := y'.2.2.1) hF (hM K) ⟨va_cnB n Cx.2.2.2.2.1 hG (by rw [zx_wd, hnone]) rfl rfl (va_Nw.of rfl (Cx.2.2.2.2.1 _ hlk)) (Cx.2.2.2.2.1 _ hini) hpl hR, hnm, Cx.2.2.2.2.1 _ him⟩ ⟨z_blind K X _ ph, hpre⟩ rfl (by rw [List.length_map]; exact hn) hl.1 (by rw [List.map_append, List.map_reverse]; rfl) (z_catR hst) hd hfc) w (fun v ph' H1 locs1 hq w1 => ?_)
  exact kk v ph' hq K p e R s m args below meth c H1 locs1 QF ls Cx w1 h4 r hl
theorem z_natW : nativeFrameWords "java/lang/System" "arraycopy" 5 + 11 ≤ 60 := by decide +kernel
theorem zs_copyI {i0 i1 n0 n1 : Nat} {f g : Nat → Int32} {sp dp k : Int32} (hlk : Cond.methodLink y.1.cls ix arraycopyName ∈ zx_tbl) (hnat : Cond.native arraycopyName ∈ zx_tbl) (hsc : Cond.static arraycopyName ∈ zx_tbl) (hini : Cond.initialized "java/lang/System" ∈ zx_tbl)
    (h0 : ph[i0]? = some (.inl (0, n0, z_I f))) (h1 : ph[i1]? = some (.inl (0, n1, z_I g))) (g1 : ¬ sp < 0) (g2 : ¬ dp < 0) (g3 : ¬ k < 0) (g4 : sp.toNatClampNeg + k.toNatClampNeg ≤ n0) (g5 : dp.toNatClampNeg + k.toNatClampNeg ≤ n1) (hdd : 1 ≤ d) (hst : (st.map (fun v => v.category)).sum ≤ 8) (hd : decode y.2.1 pc = .ok (.invokestatic ix, 3))
    (kk : ZW l d y X mc ms Q (pc + 3) lv st (ph.set i1 (.inl (0, n1, z_I (va_cpy f g sp.toNatClampNeg dp.toNatClampNeg k.toNatClampNeg)))) cc ns) : ZW l d y X mc ms Q pc lv (.int k :: .int dp :: .ref (i1 + 3) :: .int sp :: .ref (i0 + 3) :: st) ph cc ns := by
  intro K p e R s m args below meth c H locs QF ls Cx w h4 r hl
  have hnw := z_natW
  have hloc : ((st.map (z_em K)).map fun v => v.category).sum + (nativeFrameWords "java/lang/System" "arraycopy" 5 + 11) ≤ R.locals := by
    have e1 : ((st.map (z_em K)).map fun v => v.category) = st.map (fun v => v.category) := by
      rw [List.map_map]
      exact List.map_congr_left (fun v _ => z_emc K v)
    rw [e1]
    have := h4.2.1
    omega
  refine va_copyi Cx.1 Cx.2.1 (Cx.2.2.1.trans hl.1.symm) Cx.2.2.2.1 (Cx.2.2.2.2.1 _ hlk) (Cx.2.2.2.2.1 _ hnat) (Cx.2.2.2.2.1 _ hsc) (Cx.2.2.2.2.1 _ hini) Cx.2.2.2.2.2.1 w.2.1 (z_wsD K ph) w.2.2 i0 i1 0 0 (z_ws_get h0) (z_ws_get h1) rfl rfl rfl g1 g2 g3 g4 g5 (fun _ _ => rfl) (Nat.le_trans hdd h4.1) hloc hd (fun H1 locs1 hP hD hS => ?_)
  have hP := z_ws_set K ph i1 (.inl (0, n1, z_I (va_cpy f g sp.toNatClampNeg dp.toNatClampNeg k.toNatClampNeg))) ▸ hP
  exact kk K p e R s m args below meth c H1 locs1 QF ls Cx (w.set hP hS) h4 r hl
theorem zs_copyJ {i0 i1 n0 n1 : Nat} {f g : Nat → Int64} {sp dp k : Int32} (hlk : Cond.methodLink y.1.cls ix arraycopyName ∈ zx_tbl) (hnat : Cond.native arraycopyName ∈ zx_tbl) (hsc : Cond.static arraycopyName ∈ zx_tbl) (hini : Cond.initialized "java/lang/System" ∈ zx_tbl)
    (h0 : ph[i0]? = some (.inl (1, n0, z_J f))) (h1 : ph[i1]? = some (.inl (1, n1, z_J g))) (g1 : ¬ sp < 0) (g2 : ¬ dp < 0) (g3 : ¬ k < 0) (g4 : sp.toNatClampNeg + k.toNatClampNeg ≤ n0) (g5 : dp.toNatClampNeg + k.toNatClampNeg ≤ n1) (hdd : 1 ≤ d) (hst : (st.map (fun v => v.category)).sum ≤ 8) (hd : decode y.2.1 pc = .ok (.invokestatic ix, 3))
    (kk : ZW l d y X mc ms Q (pc + 3) lv st (ph.set i1 (.inl (1, n1, z_J (va_cpy f g sp.toNatClampNeg dp.toNatClampNeg k.toNatClampNeg)))) cc ns) : ZW l d y X mc ms Q pc lv (.int k :: .int dp :: .ref (i1 + 3) :: .int sp :: .ref (i0 + 3) :: st) ph cc ns := by
  intro K p e R s m args below meth c H locs QF ls Cx w h4 r hl
  have hnw := z_natW
  have hloc : ((st.map (z_em K)).map fun v => v.category).sum + (nativeFrameWords "java/lang/System" "arraycopy" 5 + 11) ≤ R.locals := by
    have e1 : ((st.map (z_em K)).map fun v => v.category) = st.map (fun v => v.category) := by
      rw [List.map_map]
      exact List.map_congr_left (fun v _ => z_emc K v)
    rw [e1]
    have := h4.2.1
    omega
  refine va_copyl Cx.1 Cx.2.1 (Cx.2.2.1.trans hl.1.symm) Cx.2.2.2.1 (Cx.2.2.2.2.1 _ hlk) (Cx.2.2.2.2.1 _ hnat) (Cx.2.2.2.2.1 _ hsc) (Cx.2.2.2.2.1 _ hini) Cx.2.2.2.2.2.1 w.2.1 (z_wsD K ph) w.2.2 i0 i1 1 1 (z_ws_get h0) (z_ws_get h1) rfl rfl rfl g1 g2 g3 g4 g5 (fun _ _ => rfl) (Nat.le_trans hdd h4.1) hloc hd (fun H1 locs1 hP hD hS => ?_)
  have hP := z_ws_set K ph i1 (.inl (1, n1, z_J (va_cpy f g sp.toNatClampNeg dp.toNatClampNeg k.toNatClampNeg))) ▸ hP
  exact kk K p e R s m args below meth c H1 locs1 QF ls Cx (w.set hP hS) h4 r hl
end ZD
end
section
/-! THE CLAIM OUT OF ONE WALK OF THE LAW'S BODY. Your part is whole_start (and what it stands on); all else here is the same for every law, but numbers. -/
def R_law : String := "NineOpinionsLaw"
def lw_P (b : Addr) (xs : List Int32) (args : Array Value) (s : State) : Prop := args = #[.ref b] ∧ s.IntsAt b xs ∧ xs.length ≤ 6 ∧ (Jvm.Cond.and given_1 narrow_1).before args s = true
def lw_Q (_ : Array Value) (s : State) (o : Outcome) (t : State) : Prop := o = .returned (some (.int 1)) ∧ Framed s o t [] 600000 7302250
def lw_Z (below : List Frame) (a : Array Value) (s : State) : State → Prop := fun t => ∃ o, t.status = .running ∧ Ended t below o ∧ lw_Q a s o t
/-- the law's own end, with 1 on the stack, nothing written that was there before, its room as the claim has it -/
theorem lw_ret {p : Program} {l : Launch} {e : Env} {s : State} {m : MethodId} {below : List Frame} {meth : Method} {c : Code} {b : Nat} (hx : p.tables.exec = Jvm.exec) (hb : c.code = code) (hr : meth.sig.returnType = ret) (hlocks : meth.locks = false) {pc : Nat} {H : Heap} {ls : Array Slot} (hdg : decode code pc = .ok (.ireturn, 1)) : W p l e room_1 s m #[Value.ref b] below meth c H [] 600000 7302250 (lw_Z below #[Value.ref b] s) (F0 m pc ls [.int 1]) := by
  intro T hT X
  obtain ⟨fs, hret, hrun, hended, hW, hframe⟩ := X.leave (v := some (.int 1)) (hlocks := hlocks) (fun h => by rw [hr] at h; cases h)
  have hmeth' : T.vm.method? m = some meth := X.method'
  refine ⟨T.setFrames fs, ?_, .returned (some (.int 1)), hrun, hended, rfl, ⟨_, rfl⟩, hW, hframe⟩
  jvm_step X.here [X.here.top, hx, hb, hdg, hmeth', hr, ret, narrow_b1]
  (try refine ⟨rfl, ?_⟩); (try refine ⟨rfl, ?_⟩)
  first | (intro acts; rw [hret _ acts rfl rfl rfl]) | rw [hret _ _ rfl rfl rfl]
  exact Steps.refl _
/-- what holds at the law's entry: the machine, the code, the tables' words (any of lw_tbl by 'hts w (by decide +kernel)'), the script of L ints xs at the cell b, what the Statement gives of the start (any of its parts by flat_of_before) -/
def lw_At (p : Program) (s : State) (m : MethodId) (meth : Method) (c : Code) (b L : Nat) (xs : Nat → Int32) : Prop :=
  p.tables.exec = Jvm.exec ∧ c.code = code ∧ meth.sig.returnType = ret ∧ c.maxLocals = 4 ∧ s.vm.findClass R_law = some m.cls ∧ (∀ w ∈ lw_tbl, w.before #[Value.ref b] s = true) ∧ va_X b L xs s s.heap ∧ b < s.heap.size ∧ meth.locks = false ∧ (Jvm.Cond.and given_1 narrow_1).before #[Value.ref b] s = true
/-! the law's start over the pure world -/
def y_law : zx_Y := (x, code, 4, ret)
theorem zl_arr {args : Array Value} {s : State} {ty : FieldType} (h : (Cond.arrayClass ty).before args s = true) : ∃ cA : ClassId, ArrOfT s cA ty ∧ s.vm.findClass ("[" ++ ty.toString) = some cA := by
  obtain ⟨c, k, comp, h1, h2, h3⟩ := Cond.arrayClass_spec h
  exact ⟨c, fun n z => ⟨fun k h => (by cases h), k, h2, comp, h3⟩, h1⟩
theorem zl_arrO {args : Array Value} {s : State} {C : String} (h : (Cond.arrayOver (.object C)).before args s = true) : ∃ cA : ClassId, ArrOfT s cA (.object C) ∧ va_RA s cA (.object C) := by
  obtain ⟨comp, c, k, h1, h2, h3, h4, h5⟩ := Cond.arrayOver_spec h
  exact ⟨c, fun n z => ⟨fun k h => (by cases h), k, h3, comp, h4⟩, k, comp, h3, h4, h1, h5⟩
def zl_tm (f : String) : Term := .static zs_B f "[I"
theorem zl_flatO : ∀ j, j < 32 → Cond.eq (.elem (zl_tm "OWN") (.int (Int32.ofNat j))) (.int (zs_own.getD j 0)) ∈ flatC (Jvm.Cond.and given_1 narrow_1) := by decide +kernel
theorem zl_flatA : ∀ j, j < 8 → Cond.eq (.elem (zl_tm "ABOVE") (.int (Int32.ofNat j))) (.int (zs_abv.getD j 0)) ∈ flatC (Jvm.Cond.and given_1 narrow_1) := by decide +kernel
theorem zl_inst : ∀ ci, ci < 12 → ∃ q, zc[ci]? = some q ∧ Cond.instantiable q.1 q.2.2 ∈ lw_tbl := by
  have h : (List.range 12).all (fun ci => match zc[ci]? with | some q => decide (Cond.instantiable q.1 q.2.2 ∈ lw_tbl) | none => false) = true := by decide +kernel
  intro ci hci
  have h1 := List.all_eq_true.mp h ci (List.mem_range.mpr hci)
  cases hq : zc[ci]? with
  | none => rw [hq] at h1; cases h1
  | some q => rw [hq] at h1; exact ⟨q, rfl, by simpa using h1⟩
theorem zl_K {s : State} {b L : Nat} {xs : Nat → Int32} (hts : ∀ w ∈ lw_tbl, w.before #[Value.ref b] s = true) (hX : va_X b L xs s s.heap) (hb : b < s.heap.size) (hg : (Jvm.Cond.and given_1 narrow_1).before #[Value.ref b] s = true) :
    ∃ K : zx_K, zk_z K = s.heap.size ∧ zk_b K = b ∧ va_K (zk_D K) zc (z_tys K) s ∧ z_St K (L, xs) s s.heap := by
  have hs := flat_of_before _ hg
  have hA : ∀ a : Nat, a < s.heap.size → ¬ (fun q : Nat => s.heap.size ≤ q) a := fun a h => Nat.not_le.mpr h
  obtain ⟨tO, hO, hTO⟩ := va_Tof (tm := zl_tm "OWN") (ty := .int) (N := 32) (f := fun j => .int (zs_own.getD j 0)) (A := fun q : Nat => s.heap.size ≤ q) (by decide) (hs _ (by decide +kernel)) (va_eqt (hs (Cond.eq (.length (zl_tm "OWN")) (.int 32)) (by decide +kernel))) (fun j hj => va_eqt (hs _ (zl_flatO j hj))) hA
  obtain ⟨tA, hAb, hTA⟩ := va_Tof (tm := zl_tm "ABOVE") (ty := .int) (N := 8) (f := fun j => .int (zs_abv.getD j 0)) (A := fun q : Nat => s.heap.size ≤ q) (by decide) (hs _ (by decide +kernel)) (va_eqt (hs (Cond.eq (.length (zl_tm "ABOVE")) (.int 8)) (by decide +kernel))) (fun j hj => va_eqt (hs _ (zl_flatA j hj))) hA
  have hZO := va_Zof (hts (.laysStatic zs_B "OWN" "[I") (by decide +kernel)) (hts (.initialized zs_B) (by decide +kernel)) hO hA
  have hZA := va_Zof (hts (.laysStatic zs_B "ABOVE" "[I") (by decide +kernel)) (hts (.initialized zs_B) (by decide +kernel)) hAb hA
  have hcl : ∀ ci : Nat, ∃ (c : ClassId) (iS : Nat → Nat), ∀ q : vw_C, zc[ci]? = some q → u_Kn s q.1 q.2.1 q.2.2 c iS := by
    intro ci
    by_cases hci : ci < 12
    · obtain ⟨q, hq, hw⟩ := zl_inst ci hci
      obtain ⟨c, iS, hk⟩ := u_known (ws := lw_tbl) (C := q.1) (T := q.2.1) (N := q.2.2) (n := q.2.2) hts (fun w h => (List.mem_filter.mp (zc_in hq w h)).1) (hts _ hw)
      refine ⟨c, iS, fun q' hq' => ?_⟩
      cases hq.symm.trans hq'
      exact hk
    · refine ⟨0, fun _ => 0, fun q hq => absurd (zc_lt hq) hci⟩
  obtain ⟨cI, hI1, hI2⟩ := zl_arr (hts (.arrayClass .int) (by decide +kernel))
  obtain ⟨cJ, hJ1, hJ2⟩ := zl_arr (hts (.arrayClass .long) (by decide +kernel))
  have hAO := hts (.arrayOver (.object zs_S)) (by decide +kernel)
  obtain ⟨cS, hS1, hS2⟩ := zl_arrO hAO
  refine ⟨((s.heap.size, tO, tA, b), (fun ci => Classical.choose (hcl ci), fun ci => Classical.choose (Classical.choose_spec (hcl ci))), fun k => if k = 0 then cI else if k = 1 then cJ else cS), rfl, rfl, ⟨fun ci q hq => Classical.choose_spec (Classical.choose_spec (hcl ci)) q hq, fun k q hk => ?_⟩, hZO, hZA, hTO, hTA, hX, hb, va_AO.of hAO⟩
  match k, hk with
  | 0, hk => cases hk; exact ⟨hI1, hI2⟩
  | 1, hk => cases hk; exact ⟨hJ1, hJ2⟩
  | 2, hk => cases hk; exact ⟨hS1, hS2⟩
  | k + 3, hk => simp [z_tys] at hk
/-- the law comes to its end with true, if the pure machine does -/
theorem zl_start {p : Program} {e : Env} {s : State} {m : MethodId} {below : List Frame} {meth : Method} {c : Code} (l : Launch) {b L : Nat} {xs : Nat → Int32} (C0 : lw_At p s m meth c b L xs) {mc ms : Nat} (hmc : mc ≤ 600000) (hms : ms ≤ 7302250)
    (hZ : ZW l 2000 y_law (L, xs) mc ms (fun v _ => v = some (.int 1)) 0 [(0, .ref 2)] [] [] 0 0) :
    W p l e room_1 s m #[Value.ref b] below meth c s.heap [] 0 0 (lw_Z below #[Value.ref b] s) (entryFrame m ([Value.ref b] : List Value).toArray 4) := by
  obtain ⟨hx, hb, hr, hml, hown, hts, hX, hbl, hlocks, hgv⟩ := id C0
  obtain ⟨K, hz, hkb, hK, hSt⟩ := zl_K hts hX hbl hgv
  have hl := lv_entry ([.ref b]) (n := 4) (Nat.le_of_ble_eq_true rfl)
  rw [lg_entry_eq]
  generalize (lg_sl ([.ref b]) ++ List.replicate (4 - (lg_sl ([.ref b])).length) Slot.unset).toArray = ls at hl ⊢
  have hl : lv_has ls y_law.2.2.1 (zLs K [(0, .ref 2)]) := by
    have e1 : zLs K [(0, .ref 2)] = [(0, .ref b)] := by
      show [(0, Value.ref (zk_b K))] = _
      rw [hkb]
    rw [e1]
    exact hl
  refine hZ K p e room_1 s m #[Value.ref b] below meth c s.heap [] _ ls ⟨hx, hb, hml, hown, fun w hw => hts w (List.mem_filter.mp hw).1, hK, hSt, by omega, fun h => absurd h (by decide +kernel)⟩ ⟨by rw [hz]; rfl, fun k q h => by simp [z_ws] at h, va_S.rf⟩ ⟨Nat.le_of_ble_eq_true rfl, Nat.le_of_ble_eq_true rfl, hmc, hms⟩ ?_ hl
  intro v ph H locs ns pc ls' hq hns w hen
  subst hq
  rcases hen with ⟨x1, ty, e1, hd, hrt, hn⟩ | ⟨x1, e1, hd, hrt⟩ | ⟨e1, hd, hrt⟩
  · cases e1
    refine va_forget (fun q hq => by have h := w.2.2.2.2 q hq; have h' : zk_z K ≤ q.base := h; omega) ?_
    refine W.widen hmc (Nat.le_trans hns hms) ?_
    exact lw_ret hx hb hr hlocks hd
  · cases e1
  · cases e1
end
section
/-! PART 07: what is known of a state: numbers as constants or names with bounds; the pure state that it speaks of. -/
/-- (0, c) the int c; (1, k) the int named k; (2, i) the reference i; (3, _) null; (4, c) the long c; (5, k) the long named k -/
abbrev zA_V : Type := Nat × Int
/-- (0, class, _, fields, _); (1, array class, length, [all], [but these]) -/
abbrev zA_C : Type := Nat × Nat × Nat × List zA_V × List (Nat × zA_V)
abbrev zA_S : Type := List (Int × Int)
abbrev zA_H : Type := List zA_C
abbrev zA_L : Type := List (Nat × zA_V)
/-- bounds, heap, locals, stack, cells made, slots made -/
abbrev zA_T : Type := zA_S × zA_H × zA_L × List zA_V × Nat × Nat
def zL2 {α β : Type} (R : α → β → Prop) : List α → List β → Prop
  | [], [] => True
  | a :: as, b :: bs => R a b ∧ zL2 R as bs
  | _, _ => False
theorem zL2.len {α β : Type} {R : α → β → Prop} : ∀ {as : List α} {bs : List β}, zL2 R as bs → as.length = bs.length
  | [], [], _ => rfl
  | _ :: _, _ :: _, h => congrArg (· + 1) (zL2.len h.2)
  | [], _ :: _, h => h.elim
  | _ :: _, [], h => h.elim
theorem zL2.get {α β : Type} {R : α → β → Prop} : ∀ {as : List α} {bs : List β} {i : Nat} {a : α}, zL2 R as bs → as[i]? = some a → ∃ b, bs[i]? = some b ∧ R a b
  | a :: as, b :: bs, 0, x, h, e => ⟨b, rfl, by cases e; exact h.1⟩
  | a :: as, b :: bs, i + 1, x, h, e => zL2.get (as := as) (bs := bs) (i := i) h.2 e
  | [], [], _, _, _, e => by cases e
  | [], _ :: _, _, _, h, _ => h.elim
  | _ :: _, [], _, _, h, _ => h.elim
theorem zL2.mono {α β : Type} {R R' : α → β → Prop} (hR : ∀ a b, R a b → R' a b) : ∀ {as : List α} {bs : List β}, zL2 R as bs → zL2 R' as bs
  | [], [], _ => trivial
  | _ :: _, _ :: _, h => ⟨hR _ _ h.1, zL2.mono hR h.2⟩
  | [], _ :: _, h => h.elim
  | _ :: _, [], h => h.elim
theorem zL2.set {α β : Type} {R : α → β → Prop} {a : α} {b : β} (hab : R a b) : ∀ {as : List α} {bs : List β} (i : Nat), zL2 R as bs → zL2 R (as.set i a) (bs.set i b)
  | [], [], _, _ => trivial
  | _ :: _, _ :: _, 0, h => ⟨hab, h.2⟩
  | _ :: _, _ :: _, i + 1, h => ⟨h.1, zL2.set hab i h.2⟩
  | [], _ :: _, _, h => h.elim
  | _ :: _, [], _, h => h.elim
theorem zL2.app {α β : Type} {R : α → β → Prop} {cs : List α} {ds : List β} (h2 : zL2 R cs ds) : ∀ {as : List α} {bs : List β}, zL2 R as bs → zL2 R (as ++ cs) (bs ++ ds)
  | [], [], _ => h2
  | _ :: _, _ :: _, h => ⟨h.1, zL2.app h2 h.2⟩
  | [], _ :: _, h => h.elim
  | _ :: _, [], h => h.elim
theorem zL2.setL {α β : Type} {R : α → β → Prop} {a : α} : ∀ {as : List α} {bs : List β} (i : Nat), zL2 R as bs → (∀ b, bs[i]? = some b → R a b) → zL2 R (as.set i a) bs
  | [], [], _, _, _ => trivial
  | _ :: _, b :: _, 0, h, hb => ⟨hb b rfl, h.2⟩
  | _ :: _, _ :: _, i + 1, h, hb => ⟨h.1, zL2.setL i h.2 (fun b e => hb b e)⟩
  | [], _ :: _, _, h, _ => h.elim
  | _ :: _, [], _, h, _ => h.elim
/-- what a value is, where the names mean ρ -/
def zg_V (ρ : List Int) (a : zA_V) (v : Value) : Prop :=
  (a.1 = 0 ∧ ∃ x : Int32, v = .int x ∧ x.toInt = a.2) ∨ (a.1 = 1 ∧ ∃ x : Int32, v = .int x ∧ ρ[a.2.toNat]? = some x.toInt) ∨ (a.1 = 2 ∧ v = .ref a.2.toNat) ∨ (a.1 = 3 ∧ v = .null) ∨
  (a.1 = 4 ∧ ∃ x : Int64, v = .long x ∧ x.toInt = a.2) ∨ (a.1 = 5 ∧ ∃ x : Int64, v = .long x ∧ ρ[a.2.toNat]? = some x.toInt)
/-- the number of a constant or a name -/
def zE (ρ : List Int) (a : zA_V) (n : Int) : Prop := ((a.1 = 0 ∨ a.1 = 4) ∧ n = a.2) ∨ ((a.1 = 1 ∨ a.1 = 5) ∧ ρ[a.2.toNat]? = some n)
def zg_S (ρ : List Int) (S : zA_S) : Prop := zL2 (fun n q => q.1 ≤ n ∧ n ≤ q.2) ρ S
def zLE (ρ ρ' : List Int) : Prop := ∀ (k : Nat) (n : Int), ρ[k]? = some n → ρ'[k]? = some n
theorem zLE.refl (ρ : List Int) : zLE ρ ρ := fun _ _ h => h
theorem zLE.trans {a b c : List Int} (h : zLE a b) (g : zLE b c) : zLE a c := fun k n q => g k n (h k n q)
theorem zLE.app (ρ : List Int) (n : Int) : zLE ρ (ρ ++ [n]) := fun k m h => by
  rw [List.getElem?_append_left (List.getElem?_eq_some_iff.mp h).1]
  exact h
theorem zg_V.mono {ρ ρ' : List Int} (h : zLE ρ ρ') {a : zA_V} {v : Value} (g : zg_V ρ a v) : zg_V ρ' a v := by
  rcases g with g | ⟨g, x, e1, e2⟩ | g | g | g | ⟨g, x, e1, e2⟩
  · exact Or.inl g
  · exact Or.inr (Or.inl ⟨g, x, e1, h _ _ e2⟩)
  · exact Or.inr (Or.inr (Or.inl g))
  · exact Or.inr (Or.inr (Or.inr (Or.inl g)))
  · exact Or.inr (Or.inr (Or.inr (Or.inr (Or.inl g))))
  · exact Or.inr (Or.inr (Or.inr (Or.inr (Or.inr ⟨g, x, e1, h _ _ e2⟩))))
/-- an int -/
def zIs (a : zA_V) : Bool := a.1 == 0 || a.1 == 1
def zIsJ (a : zA_V) : Bool := a.1 == 4 || a.1 == 5
theorem zg_int {ρ : List Int} {a : zA_V} {v : Value} (h : zIs a = true) (g : zg_V ρ a v) : ∃ x : Int32, v = .int x ∧ zE ρ a x.toInt := by
  simp only [zIs, Bool.or_eq_true, beq_iff_eq] at h
  rcases g with ⟨g, x, e1, e2⟩ | ⟨g, x, e1, e2⟩ | ⟨g, -⟩ | ⟨g, -⟩ | ⟨g, -⟩ | ⟨g, -⟩
  · exact ⟨x, e1, Or.inl ⟨Or.inl g, e2⟩⟩
  · exact ⟨x, e1, Or.inr ⟨Or.inl g, e2⟩⟩
  all_goals omega
theorem zg_long {ρ : List Int} {a : zA_V} {v : Value} (h : zIsJ a = true) (g : zg_V ρ a v) : ∃ x : Int64, v = .long x ∧ zE ρ a x.toInt := by
  simp only [zIsJ, Bool.or_eq_true, beq_iff_eq] at h
  rcases g with ⟨g, -⟩ | ⟨g, -⟩ | ⟨g, -⟩ | ⟨g, -⟩ | ⟨g, x, e1, e2⟩ | ⟨g, x, e1, e2⟩
  · omega
  · omega
  · omega
  · omega
  · exact ⟨x, e1, Or.inl ⟨Or.inr g, e2⟩⟩
  · exact ⟨x, e1, Or.inr ⟨Or.inr g, e2⟩⟩
theorem zg_ref {ρ : List Int} {a : zA_V} {v : Value} (h : a.1 = 2) (g : zg_V ρ a v) : v = .ref a.2.toNat := by
  rcases g with ⟨g, -⟩ | ⟨g, -⟩ | ⟨g, e⟩ | ⟨g, -⟩ | ⟨g, -⟩ | ⟨g, -⟩
  · omega
  · omega
  · exact e
  all_goals omega
theorem zg_ofI {ρ : List Int} {c : Int} {x : Int32} (h : x.toInt = c) : zg_V ρ (0, c) (.int x) := Or.inl ⟨rfl, x, rfl, h⟩
theorem zg_ofJ {ρ : List Int} {c : Int} {x : Int64} (h : x.toInt = c) : zg_V ρ (4, c) (.long x) := Or.inr (Or.inr (Or.inr (Or.inr (Or.inl ⟨rfl, x, rfl, h⟩))))
theorem zg_ofK {ρ : List Int} {k : Nat} {x : Int32} (h : ρ[k]? = some x.toInt) : zg_V ρ (1, (k : Int)) (.int x) := Or.inr (Or.inl ⟨rfl, x, rfl, by simpa using h⟩)
theorem zg_ofKJ {ρ : List Int} {k : Nat} {x : Int64} (h : ρ[k]? = some x.toInt) : zg_V ρ (5, (k : Int)) (.long x) := Or.inr (Or.inr (Or.inr (Or.inr (Or.inr ⟨rfl, x, rfl, by simpa using h⟩))))
theorem zg_ofR {ρ : List Int} {i : Nat} : zg_V ρ (2, (i : Int)) (.ref i) := Or.inr (Or.inr (Or.inl ⟨rfl, by simp⟩))
/-- the bounds of a constant or a name -/
def zr (S : zA_S) (a : zA_V) : Option (Int × Int) := if a.1 = 0 then some (a.2, a.2) else if a.1 = 1 then S[a.2.toNat]? else if a.1 = 4 then some (a.2, a.2) else if a.1 = 5 then S[a.2.toNat]? else none
theorem zL2.getR {α β : Type} {R : α → β → Prop} : ∀ {as : List α} {bs : List β} {i : Nat} {b : β}, zL2 R as bs → bs[i]? = some b → ∃ a, as[i]? = some a ∧ R a b
  | a :: as, b :: bs, 0, x, h, e => ⟨a, rfl, by cases e; exact h.1⟩
  | a :: as, b :: bs, i + 1, x, h, e => zL2.getR (as := as) (bs := bs) (i := i) h.2 e
  | [], [], _, _, _, e => by cases e
  | [], _ :: _, _, _, h, _ => h.elim
  | _ :: _, [], _, _, h, _ => h.elim
theorem zr_in {ρ : List Int} {S : zA_S} {a : zA_V} {n : Int} {q : Int × Int} (hS : zg_S ρ S) (he : zE ρ a n) (h : zr S a = some q) : q.1 ≤ n ∧ n ≤ q.2 := by
  have key : ∀ {k : Nat}, S[k]? = some q → ρ[k]? = some n → q.1 ≤ n ∧ n ≤ q.2 := by
    intro k h1 h2
    obtain ⟨n', e1, e2⟩ := zL2.getR hS h1
    rw [h2] at e1
    cases e1
    exact e2
  unfold zr at h
  rcases he with ⟨h1, rfl⟩ | ⟨h1, h2⟩
  · split at h
    · cases h; exact ⟨Int.le_refl _, Int.le_refl _⟩
    · split at h
      · omega
      · split at h
        · cases h; exact ⟨Int.le_refl _, Int.le_refl _⟩
        · omega
  · split at h
    · omega
    · split at h
      · exact key h h2
      · split at h
        · omega
        · split at h
          · exact key h h2
          · omega
/-- a name with one value is that constant -/
def zn (S : zA_S) (a : zA_V) : zA_V := if a.1 = 1 then (match S[a.2.toNat]? with | some q => if q.1 = q.2 then (0, q.1) else a | none => a) else if a.1 = 5 then (match S[a.2.toNat]? with | some q => if q.1 = q.2 then (4, q.1) else a | none => a) else a
theorem zn_g {ρ : List Int} {S : zA_S} {a : zA_V} {v : Value} (hS : zg_S ρ S) (g : zg_V ρ a v) : zg_V ρ (zn S a) v := by
  have key : ∀ {k : Nat} {q : Int × Int} {n : Int}, S[k]? = some q → ρ[k]? = some n → q.1 = q.2 → n = q.1 := by
    intro k q n h1 h2 h3
    obtain ⟨n', e1, e2⟩ := zL2.getR hS h1
    rw [h2] at e1
    cases e1
    have e2 : q.1 ≤ n ∧ n ≤ q.2 := e2
    omega
  unfold zn
  split
  · next h1 =>
    split
    · next q hq =>
      split
      · next he =>
        rcases g with ⟨g, -⟩ | ⟨g, x, e1, e2⟩ | ⟨g, -⟩ | ⟨g, -⟩ | ⟨g, -⟩ | ⟨g, -⟩
        · omega
        · exact Or.inl ⟨rfl, x, e1, key hq e2 he⟩
        all_goals omega
      · exact g
    · exact g
  · split
    · next h1 =>
      split
      · next q hq =>
        split
        · next he =>
          rcases g with ⟨g, -⟩ | ⟨g, -⟩ | ⟨g, -⟩ | ⟨g, -⟩ | ⟨g, -⟩ | ⟨g, x, e1, e2⟩
          · omega
          · omega
          · omega
          · omega
          · omega
          · exact Or.inr (Or.inr (Or.inr (Or.inr (Or.inl ⟨rfl, x, e1, key hq e2 he⟩))))
        · exact g
      · exact g
    · exact g
/-- new bounds of a name -/
def zrf (S : zA_S) (a : zA_V) (q : Int × Int) : zA_S := if a.1 = 1 then S.set a.2.toNat q else if a.1 = 5 then S.set a.2.toNat q else S
theorem zrf_g {ρ : List Int} {S : zA_S} {a : zA_V} {n : Int} {q : Int × Int} (hS : zg_S ρ S) (he : zE ρ a n) (h1 : q.1 ≤ n) (h2 : n ≤ q.2) : zg_S ρ (zrf S a q) := by
  have key : ρ[a.2.toNat]? = some n → zg_S ρ (S.set a.2.toNat q) := by
    intro h3
    have hset : ∀ {as : List Int} {bs : zA_S} (i : Nat), zg_S as bs → as[i]? = some n → zg_S as (bs.set i q) := by
      intro as
      induction as with
      | nil => intro bs i _ h; cases h
      | cons x xs ih =>
        intro bs i h h4
        cases bs with
        | nil => exact h.elim
        | cons y ys =>
          cases i with
          | zero => cases h4; exact ⟨⟨h1, h2⟩, h.2⟩
          | succ i => exact ⟨h.1, ih i h.2 h4⟩
    exact hset _ hS h3
  unfold zrf
  rcases he with ⟨h3, -⟩ | ⟨h3, h4⟩
  · rw [if_neg (by omega), if_neg (by omega)]
    exact hS
  · rcases h3 with h3 | h3
    · rw [if_pos h3]; exact key h4
    · rw [if_neg (by omega), if_pos h3]; exact key h4
/-- the bounds where a < b -/
def zLT (S : zA_S) (a b : zA_V) : List zA_S := match zr S a, zr S b with
  | some p, some q => if p.1 < q.2 then [zrf (zrf S a (p.1, min p.2 (q.2 - 1))) b (max q.1 (p.1 + 1), q.2)] else []
  | _, _ => [S]
theorem zLT_g {ρ : List Int} {S : zA_S} {a b : zA_V} {n1 n2 : Int} (hS : zg_S ρ S) (h1 : zE ρ a n1) (h2 : zE ρ b n2) (h : n1 < n2) : ∃ S', S' ∈ zLT S a b ∧ zg_S ρ S' := by
  unfold zLT
  split
  · next p q e1 e2 =>
    have g1 := zr_in hS h1 e1
    have g2 := zr_in hS h2 e2
    rw [if_pos (by omega)]
    exact ⟨_, List.mem_singleton.mpr rfl, zrf_g (zrf_g hS h1 g1.1 (by have := g2.2; omega)) h2 (by have := g1.1; have := g2.1; omega) g2.2⟩
  · exact ⟨S, List.mem_singleton.mpr rfl, hS⟩
/-- the bounds where a ≥ b -/
def zGE (S : zA_S) (a b : zA_V) : List zA_S := match zr S a, zr S b with
  | some p, some q => if q.1 ≤ p.2 then [zrf (zrf S a (max p.1 q.1, p.2)) b (q.1, min q.2 p.2)] else []
  | _, _ => [S]
theorem zGE_g {ρ : List Int} {S : zA_S} {a b : zA_V} {n1 n2 : Int} (hS : zg_S ρ S) (h1 : zE ρ a n1) (h2 : zE ρ b n2) (h : n2 ≤ n1) : ∃ S', S' ∈ zGE S a b ∧ zg_S ρ S' := by
  unfold zGE
  split
  · next p q e1 e2 =>
    have g1 := zr_in hS h1 e1
    have g2 := zr_in hS h2 e2
    rw [if_pos (by omega)]
    exact ⟨_, List.mem_singleton.mpr rfl, zrf_g (zrf_g hS h1 (by have := g2.1; omega) g1.2) h2 g2.1 (by have := g1.2; omega)⟩
  · exact ⟨S, List.mem_singleton.mpr rfl, hS⟩
def zEQ (S : zA_S) (a b : zA_V) : List zA_S := match zr S a, zr S b with
  | some p, some q => if max p.1 q.1 ≤ min p.2 q.2 then [zrf (zrf S a (max p.1 q.1, min p.2 q.2)) b (max p.1 q.1, min p.2 q.2)] else []
  | _, _ => [S]
theorem zEQ_g {ρ : List Int} {S : zA_S} {a b : zA_V} {n1 n2 : Int} (hS : zg_S ρ S) (h1 : zE ρ a n1) (h2 : zE ρ b n2) (h : n1 = n2) : ∃ S', S' ∈ zEQ S a b ∧ zg_S ρ S' := by
  unfold zEQ
  split
  · next p q e1 e2 =>
    have g1 := zr_in hS h1 e1
    have g2 := zr_in hS h2 e2
    subst h
    have m1 : max p.1 q.1 ≤ n1 := by omega
    have m2 : n1 ≤ min p.2 q.2 := by omega
    rw [if_pos (by omega)]
    exact ⟨_, List.mem_singleton.mpr rfl, zrf_g (zrf_g hS h1 m1 m2) h2 m1 m2⟩
  · exact ⟨S, List.mem_singleton.mpr rfl, hS⟩
def zNE (S : zA_S) (a b : zA_V) : List zA_S := if a = b then [] else zLT S a b ++ zLT S b a
theorem zE_fun {ρ : List Int} {a : zA_V} {n m : Int} (h : zE ρ a n) (g : zE ρ a m) : n = m := by
  rcases h with ⟨h1, h2⟩ | ⟨h1, h2⟩ <;> rcases g with ⟨g1, g2⟩ | ⟨g1, g2⟩
  · omega
  · omega
  · omega
  · rw [h2] at g2; cases g2; rfl
theorem zNE_g {ρ : List Int} {S : zA_S} {a b : zA_V} {n1 n2 : Int} (hS : zg_S ρ S) (h1 : zE ρ a n1) (h2 : zE ρ b n2) (h : n1 ≠ n2) : ∃ S', S' ∈ zNE S a b ∧ zg_S ρ S' := by
  unfold zNE
  have hne : ¬ a = b := fun e => h (zE_fun (by rw [e] at h1; exact h1) h2)
  rw [if_neg hne]
  rcases Int.lt_or_gt_of_ne h with h | h
  · obtain ⟨S', m, g⟩ := zLT_g hS h1 h2 h
    exact ⟨S', List.mem_append_left _ m, g⟩
  · obtain ⟨S', m, g⟩ := zLT_g hS h2 h1 h
    exact ⟨S', List.mem_append_right _ m, g⟩
/-- all values of a name, one by one -/
def zSp (S : zA_S) (a : zA_V) : Option (List zA_S) := match zr S a with
  | some q => if q.2 - q.1 ≤ 63 then some ((List.range (q.2 - q.1 + 1).toNat).map (fun i : Nat => zrf S a (q.1 + (i : Int), q.1 + (i : Int)))) else none
  | none => none
theorem zSp_g {ρ : List Int} {S : zA_S} {a : zA_V} {n : Int} {l : List zA_S} (hS : zg_S ρ S) (h1 : zE ρ a n) (h : zSp S a = some l) : ∃ S', S' ∈ l ∧ zg_S ρ S' := by
  unfold zSp at h
  split at h
  · next q e1 =>
    split at h
    · cases h
      have g1 := zr_in hS h1 e1
      refine ⟨zrf S a (q.1 + ((n - q.1).toNat : Int), q.1 + ((n - q.1).toNat : Int)), List.mem_map.mpr ⟨(n - q.1).toNat, List.mem_range.mpr (by omega), rfl⟩, zrf_g hS h1 (by show q.1 + ((n - q.1).toNat : Int) ≤ n; omega) (by show n ≤ q.1 + ((n - q.1).toNat : Int); omega)⟩
    · cases h
  · cases h
/-- a new name -/
theorem zg_S.push {ρ : List Int} {S : zA_S} (hS : zg_S ρ S) {n : Int} {q : Int × Int} (h1 : q.1 ≤ n) (h2 : n ≤ q.2) : zg_S (ρ ++ [n]) (S ++ [q]) := zL2.app (cs := [n]) (ds := [q]) ⟨⟨h1, h2⟩, trivial⟩ hS
theorem zg_S.at {ρ : List Int} {S : zA_S} (hS : zg_S ρ S) (n : Int) : (ρ ++ [n])[S.length]? = some n := by
  have := zL2.len hS
  rw [← this, List.getElem?_append_right (Nat.le_refl _)]
  simp
/-- a cell; (8, i ..) is the cell i of φ, whatever it is -/
def zg_C (φ : List z_C) (ρ : List Int) (a : zA_C) (c : z_C) : Prop :=
  (a.1 = 8 ∧ φ[a.2.1]? = some c) ∨
  (a.1 = 0 ∧ ∃ fs, c = .inr (a.2.1, fs) ∧ zL2 (zg_V ρ) a.2.2.2.1 fs) ∨
  (a.1 = 1 ∧ a.2.1 = 0 ∧ ∃ f : Nat → Int32, c = .inl (0, a.2.2.1, z_I f) ∧ ∀ j, j < a.2.2.1 → zg_V ρ ((a.2.2.2.2.lookup j).getD (a.2.2.2.1.headD (3, 0))) (.int (f j))) ∨
  (a.1 = 1 ∧ a.2.1 = 1 ∧ ∃ f : Nat → Int64, c = .inl (1, a.2.2.1, z_J f) ∧ ∀ j, j < a.2.2.1 → zg_V ρ ((a.2.2.2.2.lookup j).getD (a.2.2.2.1.headD (3, 0))) (.long (f j))) ∨
  (a.1 = 1 ∧ a.2.1 = 2 ∧ ∃ f : Nat → Option Nat, c = .inl (2, a.2.2.1, z_O f) ∧ ∀ j, j < a.2.2.1 → zg_V ρ ((a.2.2.2.2.lookup j).getD (a.2.2.2.1.headD (3, 0))) (z_rf (f j)))
theorem zg_C.mono {φ : List z_C} {ρ ρ' : List Int} (h : zLE ρ ρ') {a : zA_C} {c : z_C} (g : zg_C φ ρ a c) : zg_C φ ρ' a c := by
  rcases g with g | ⟨h1, fs, e, g⟩ | ⟨h1, h2, f, e, g⟩ | ⟨h1, h2, f, e, g⟩ | ⟨h1, h2, f, e, g⟩
  · exact Or.inl g
  · exact Or.inr (Or.inl ⟨h1, fs, e, zL2.mono (fun _ _ => zg_V.mono h) g⟩)
  · exact Or.inr (Or.inr (Or.inl ⟨h1, h2, f, e, fun j hj => (g j hj).mono h⟩))
  · exact Or.inr (Or.inr (Or.inr (Or.inl ⟨h1, h2, f, e, fun j hj => (g j hj).mono h⟩)))
  · exact Or.inr (Or.inr (Or.inr (Or.inr ⟨h1, h2, f, e, fun j hj => (g j hj).mono h⟩)))
def zg_L (ρ : List Int) (L : zA_L) (lv : List (Nat × Value)) : Prop := zL2 (fun a c => a.1 = c.1 ∧ zg_V ρ a.2 c.2) L lv
/-- the script: its first ints are the first names -/
def zg_X (ρ : List Int) (XL : Nat) (X : zx_X) : Prop := X.1 = XL ∧ ∀ j, j < XL → ρ[j]? = some (X.2 j).toInt
def zg_T (XL : Nat) (X : zx_X) (φ : List z_C) (ρ : List Int) (t : zA_T) (ph : List z_C) (lv : List (Nat × Value)) (st : List Value) : Prop :=
  zg_S ρ t.1 ∧ zL2 (zg_C φ ρ) t.2.1 ph ∧ zg_L ρ t.2.2.1 lv ∧ zL2 (zg_V ρ) t.2.2.2.1 st ∧ zg_X ρ XL X
theorem zg_L.look {ρ : List Int} : ∀ {L : zA_L} {lv : List (Nat × Value)} {i : Nat} {a : zA_V}, zg_L ρ L lv → L.lookup i = some a → ∃ v, lv.lookup i = some v ∧ zg_V ρ a v
  | [], [], _, _, _, e => by cases e
  | (j, x) :: L, (k, v) :: lv, i, a, h, e => by
    obtain ⟨⟨h1, h2⟩, h3⟩ := h
    have h1 : j = k := h1
    subst h1
    rw [List.lookup_cons] at e ⊢
    cases hij : i == j with
    | true =>
      rw [hij] at e
      have e : x = a := Option.some.inj e
      subst e
      exact ⟨v, rfl, h2⟩
    | false =>
      rw [hij] at e
      exact zg_L.look h3 e
  | [], _ :: _, _, _, h, _ => h.elim
  | _ :: _, [], _, _, h, _ => h.elim
theorem zg_cat {ρ : List Int} {a : zA_V} {v : Value} (g : zg_V ρ a v) : v.category = if a.1 = 4 ∨ a.1 = 5 then 2 else 1 := by
  rcases g with ⟨g, x, e1, -⟩ | ⟨g, x, e1, -⟩ | ⟨g, e1⟩ | ⟨g, e1⟩ | ⟨g, x, e1, -⟩ | ⟨g, x, e1, -⟩ <;> subst e1
  · rw [if_neg (by omega)]; rfl
  · rw [if_neg (by omega)]; rfl
  · rw [if_neg (by omega)]; rfl
  · rw [if_neg (by omega)]; rfl
  · rw [if_pos (by omega)]; rfl
  · rw [if_pos (by omega)]; rfl
def zcat (a : zA_V) : Nat := if a.1 = 4 ∨ a.1 = 5 then 2 else 1
def zS1 (L : zA_L) (i : Nat) (a : zA_V) : zA_L := (i, a) :: L.filter (fun q => !(q.1 == i) && !(q.1 + 1 == i && zcat q.2 == 2))
def zS2 (L : zA_L) (i : Nat) (a : zA_V) : zA_L := (i, a) :: L.filter (fun q => !(q.1 == i) && (!(q.1 == i + 1) && !(q.1 + 1 == i && zcat q.2 == 2)))
theorem zL2.filter {α β : Type} {R : α → β → Prop} {p : α → Bool} {q : β → Bool} (hpq : ∀ a b, R a b → p a = q b) : ∀ {as : List α} {bs : List β}, zL2 R as bs → zL2 R (as.filter p) (bs.filter q)
  | [], [], _ => trivial
  | a :: as, b :: bs, h => by
    rw [List.filter_cons, List.filter_cons, hpq a b h.1]
    cases q b with
    | true => exact ⟨h.1, zL2.filter hpq h.2⟩
    | false => exact zL2.filter hpq h.2
  | [], _ :: _, h => h.elim
  | _ :: _, [], h => h.elim
theorem zS1_g {ρ : List Int} {L : zA_L} {lv : List (Nat × Value)} {i : Nat} {a : zA_V} {v : Value} (h : zg_L ρ L lv) (g : zg_V ρ a v) : zg_L ρ (zS1 L i a) (z_st1 lv i v) :=
  ⟨⟨rfl, g⟩, zL2.filter (fun x y hxy => by rw [hxy.1, zg_cat hxy.2]; rfl) h⟩
theorem zS2_g {ρ : List Int} {L : zA_L} {lv : List (Nat × Value)} {i : Nat} {a : zA_V} {v : Value} (h : zg_L ρ L lv) (g : zg_V ρ a v) : zg_L ρ (zS2 L i a) (z_st2 lv i v) :=
  ⟨⟨rfl, g⟩, zL2.filter (fun x y hxy => by rw [hxy.1, zg_cat hxy.2]; rfl) h⟩
end
section
/-! PART 08: what an instruction does to what is known. -/
def zt_st (t : zA_T) (st : List zA_V) : zA_T := (t.1, t.2.1, t.2.2.1, st, t.2.2.2.2)
def zt_S (t : zA_T) (S : zA_S) : zA_T := (S, t.2)
def zt_Sst (t : zA_T) (S : zA_S) (st : List zA_V) : zA_T := (S, t.2.1, t.2.2.1, st, t.2.2.2.2)
def zt_L (t : zA_T) (L : zA_L) (st : List zA_V) : zA_T := (t.1, t.2.1, L, st, t.2.2.2.2)
def zt_H (t : zA_T) (H : zA_H) (st : List zA_V) : zA_T := (t.1, H, t.2.2.1, st, t.2.2.2.2)
/-- the sum, difference, .. of two ints -/
def zw32 (z : Int) : Int := if -2147483648 ≤ z ∧ z ≤ 2147483647 then z else z.bmod 4294967296
theorem zw32_eq (z : Int) : zw32 z = z.bmod 4294967296 := by
  unfold zw32
  split
  · next h => exact (Int.bmod_eq_of_le (by omega) (by omega)).symm
  · rfl
def zb (k : Nat) (a b : Int32) : Int32 := if k = 10 then a + b else if k = 11 then a - b else if k = 12 then a * b else if k = 13 then a &&& b else if k = 14 then a ||| b else if k = 15 then a ^^^ b else if k = 16 then a <<< (b &&& 31) else if k = 17 then a >>> (b &&& 31) else if k = 18 then (a.toUInt32 >>> (b.toUInt32 &&& Int32.toUInt32 31)).toInt32 else if k = 19 then a / b else a - a / b * b
def zb_c (k : Nat) (a b : Int) : Int := if k = 10 then zw32 (a + b) else if k = 11 then zw32 (a - b) else if k = 12 then zw32 (a * b) else (zb k (Int32.ofInt a) (Int32.ofInt b)).toInt
theorem zb_cEq (k : Nat) (a b : Int32) : (zb k a b).toInt = zb_c k a.toInt b.toInt := by
  unfold zb_c
  split
  · next h => subst h; rw [zw32_eq]; exact Int32.toInt_add a b
  · split
    · next h => subst h; rw [zw32_eq]; exact Int32.toInt_sub a b
    · split
      · next h => subst h; rw [zw32_eq]; exact Int32.toInt_mul a b
      · rw [Int32.ofInt_toInt, Int32.ofInt_toInt]
abbrev zI2 : Type := Int × Int
def zfull : zI2 := (-2147483648, 2147483647)
def zcl (q : zI2) : zI2 := if -2147483648 ≤ q.1 ∧ q.2 ≤ 2147483647 then q else zfull
theorem zfull_in (x : Int32) : zfull.1 ≤ x.toInt ∧ x.toInt ≤ zfull.2 := by
  have h1 := Int32.le_toInt x
  have h2 := Int32.toInt_lt x
  exact ⟨by show -2147483648 ≤ _; omega, by show _ ≤ 2147483647; omega⟩
theorem zcl_in {q : zI2} {z : Int} {x : Int32} (hx : x.toInt = z.bmod 4294967296) (h1 : q.1 ≤ z) (h2 : z ≤ q.2) : (zcl q).1 ≤ x.toInt ∧ x.toInt ≤ (zcl q).2 := by
  unfold zcl
  split
  · next h =>
    rw [hx, Int.bmod_eq_of_le (by omega) (by omega)]
    exact ⟨h1, h2⟩
  · exact zfull_in x
/-- bounds of a sum, a difference, .. -/
def zb_r (k : Nat) (p q : zI2) : zI2 :=
  if k = 10 then zcl (p.1 + q.1, p.2 + q.2) else if k = 11 then zcl (p.1 - q.2, p.2 - q.1)
  else if k = 13 then (if 0 ≤ q.1 then (0, q.2) else if 0 ≤ p.1 then (0, p.2) else zfull)
  else if k = 17 then (if p.1 = 0 ∧ p.2 = 0 then (0, 0) else zfull)
  else if k = 19 then (if 0 ≤ p.1 ∧ q.1 = q.2 ∧ 0 < q.1 then (p.1 / q.1, p.2 / q.1) else zfull)
  else if k = 20 then (if q.1 = q.2 ∧ 0 < q.1 then (if 0 ≤ p.1 then (0, min p.2 (q.1 - 1)) else (1 - q.1, q.1 - 1)) else zfull)
  else zfull
theorem z_and_in (a b : Int32) (h : 0 ≤ b.toInt) : 0 ≤ (a &&& b).toInt ∧ (a &&& b).toInt ≤ b.toInt := by
  have e1 : ∀ c : Int32, c.toInt = c.toBitVec.toInt := fun c => rfl
  have hb : b.toBitVec.toInt = (b.toBitVec.toNat : Int) := by
    rw [e1] at h
    rw [BitVec.toInt_eq_toNat_cond] at h ⊢
    have := b.toBitVec.isLt
    split
    · rfl
    · next q => rw [if_neg q] at h; omega
  have hab : (a &&& b).toBitVec = a.toBitVec &&& b.toBitVec := Int32.toBitVec_and a b
  have hle : (a.toBitVec &&& b.toBitVec).toNat ≤ b.toBitVec.toNat := by
    rw [BitVec.toNat_and]
    exact Nat.and_le_right
  have hb2 : 2 * b.toBitVec.toNat < 2 ^ 32 := by
    rw [e1, BitVec.toInt_eq_toNat_cond] at h
    have := b.toBitVec.isLt
    split at h
    · assumption
    · omega
  have hr : (a &&& b).toInt = ((a.toBitVec &&& b.toBitVec).toNat : Int) := by
    rw [e1, hab, BitVec.toInt_eq_toNat_cond, if_pos (by omega)]
  rw [hr, e1 b, hb]
  omega
theorem z_mod_eq (a b : Int32) : (a - a / b * b).toInt = a.toInt.tmod b.toInt := by
  rw [irem_eq_mod]
  exact Int32.toInt_mod a b
theorem zb_r_in {k : Nat} {p q : zI2} {a b : Int32} (h1 : p.1 ≤ a.toInt) (h2 : a.toInt ≤ p.2) (h3 : q.1 ≤ b.toInt) (h4 : b.toInt ≤ q.2) : (zb_r k p q).1 ≤ (zb k a b).toInt ∧ (zb k a b).toInt ≤ (zb_r k p q).2 := by
  unfold zb_r
  split
  · next h => subst h; exact zcl_in (Int32.toInt_add a b) (by show p.1 + q.1 ≤ _; omega) (by show _ ≤ p.2 + q.2; omega)
  · split
    · next h => subst h; exact zcl_in (Int32.toInt_sub a b) (by show p.1 - q.2 ≤ _; omega) (by show _ ≤ p.2 - q.1; omega)
    · split
      · next h =>
        subst h
        split
        · next g =>
          have := z_and_in a b (by omega)
          exact ⟨this.1, by show _ ≤ q.2; have h5 : (zb 13 a b).toInt = (a &&& b).toInt := rfl; omega⟩
        · split
          · next g =>
            have h6 : a &&& b = b &&& a := by
              apply Int32.toBitVec_inj.mp
              rw [Int32.toBitVec_and, Int32.toBitVec_and, BitVec.and_comm]
            have := z_and_in b a (by omega)
            rw [← h6] at this
            exact ⟨this.1, by show _ ≤ p.2; have h5 : (zb 13 a b).toInt = (a &&& b).toInt := rfl; omega⟩
          · exact zfull_in _
      · split
        · next h =>
          subst h
          split
          · next g =>
            have ha : a = 0 := Int32.toInt_inj.mp (by rw [Int32.toInt_zero]; omega)
            have h5 : zb 17 a b = 0 := by
              subst ha
              show (0 : Int32) >>> (b &&& 31) = 0
              apply Int32.toBitVec_inj.mp
              rw [Int32.toBitVec_shiftRight]
              simp
            rw [h5, Int32.toInt_zero]
            exact ⟨Int.le_refl _, Int.le_refl _⟩
          · exact zfull_in _
        · split
          · next h =>
            subst h
            split
            · next g =>
              obtain ⟨g1, g2, g3⟩ := g
              have hb : b.toInt = q.1 := by omega
              have hdv : (zb 19 a b).toInt = a.toInt / q.1 := by
                show (a / b).toInt = _
                rw [Int32.toInt_div, hb, Int.tdiv_eq_ediv_of_nonneg (by omega)]
                have u1 : 0 ≤ a.toInt / q.1 := Int.ediv_nonneg (by omega) (by omega)
                have u2 : a.toInt / q.1 ≤ a.toInt := Int.ediv_le_self _ (by omega)
                have u3 := Int32.toInt_lt a
                exact Int.bmod_eq_of_le (by omega) (by omega)
              rw [hdv]
              exact ⟨Int.ediv_le_ediv g3 h1, Int.ediv_le_ediv g3 h2⟩
            · exact zfull_in _
          · split
            · next h =>
              subst h
              have hm : (zb 20 a b).toInt = a.toInt.tmod b.toInt := z_mod_eq a b
              split
              · next g =>
                have hb : b.toInt = q.1 := by omega
                have hbd := tmod_bounds (a := a.toInt) (M := q.1) g.2
                rw [hm, hb]
                split
                · next g0 =>
                  have e1 : a.toInt.tmod q.1 = a.toInt % q.1 := Int.tmod_eq_emod_of_nonneg (by omega)
                  rw [e1] at hbd ⊢
                  have u1 := Int.emod_nonneg a.toInt (by omega : q.1 ≠ 0)
                  have u2 : a.toInt % q.1 ≤ a.toInt := by
                    by_cases hlt : a.toInt < q.1
                    · rw [Int.emod_eq_of_lt (by omega) hlt]
                      exact Int.le_refl _
                    · have := Int.emod_lt_of_pos a.toInt (by omega : 0 < q.1)
                      omega
                  exact ⟨u1, by show _ ≤ min p.2 (q.1 - 1); omega⟩
                · exact ⟨by show 1 - q.1 ≤ _; omega, by show _ ≤ q.1 - 1; omega⟩
              · exact zfull_in _
            · exact zfull_in _
abbrev zA_R : Type := Option (List (Nat × zA_T))
section ZO
variable {l : Launch} {d : Nat} {y : zx_Y} {X : zx_X} {mc ms XL : Nat} {φ : List z_C} {Q : Option Value → List z_C → Prop}
/-- what an instruction owes: if what it makes of t is good at all its ends, t is good -/
def zSd (l : Launch) (d : Nat) (y : zx_Y) (X : zx_X) (mc ms XL : Nat) (φ : List z_C) (Q : Option Value → List z_C → Prop) (pc : Nat) (t : zA_T) (r : zA_R) : Prop :=
  ∀ (ts : List (Nat × zA_T)), r = some ts → ∀ (ρ : List Int) (ph : List z_C) (lv : List (Nat × Value)) (st : List Value), zg_T XL X φ ρ t ph lv st →
    (∀ q ∈ ts, ∀ (ρ' : List Int) (ph' : List z_C) (lv' : List (Nat × Value)) (st' : List Value), zLE ρ ρ' → zg_T XL X φ ρ' q.2 ph' lv' st' → ZW l d y X mc ms Q q.1 lv' st' ph' q.2.2.2.2.2.1 q.2.2.2.2.2.2) →
    ZW l d y X mc ms Q pc lv st ph t.2.2.2.2.1 t.2.2.2.2.2
def zx_push (v : zA_V) (nx : Nat) (t : zA_T) : zA_R := some [(nx, zt_st t (v :: t.2.2.2.1))]
theorem zL2.cons1 {α β : Type} {R : α → β → Prop} {a : α} {as : List α} {bs : List β} (h : zL2 R (a :: as) bs) : ∃ b bs', bs = b :: bs' ∧ R a b ∧ zL2 R as bs' := by
  cases bs with
  | nil => exact h.elim
  | cons b bs' => exact ⟨b, bs', rfl, h.1, h.2⟩
theorem zo_pushI {pc nx : Nat} {c : Int} {x : Int32} (hx : x.toInt = c) {t : zA_T} (hs : ∀ {lv st ph cc ns}, ZW l d y X mc ms Q nx lv (.int x :: st) ph cc ns → ZW l d y X mc ms Q pc lv st ph cc ns) : zSd l d y X mc ms XL φ Q pc t (zx_push (0, c) nx t) := by
  intro ts hts ρ ph lv st g k
  cases hts
  exact hs (k _ (List.mem_singleton.mpr rfl) ρ ph lv _ (zLE.refl ρ) ⟨g.1, g.2.1, g.2.2.1, ⟨zg_ofI hx, g.2.2.2.1⟩, g.2.2.2.2⟩)
theorem zo_pushJ {pc nx : Nat} {c : Int} {x : Int64} (hx : x.toInt = c) {t : zA_T} (hs : ∀ {lv st ph cc ns}, ZW l d y X mc ms Q nx lv (.long x :: st) ph cc ns → ZW l d y X mc ms Q pc lv st ph cc ns) : zSd l d y X mc ms XL φ Q pc t (zx_push (4, c) nx t) := by
  intro ts hts ρ ph lv st g k
  cases hts
  exact hs (k _ (List.mem_singleton.mpr rfl) ρ ph lv _ (zLE.refl ρ) ⟨g.1, g.2.1, g.2.2.1, ⟨zg_ofJ hx, g.2.2.2.1⟩, g.2.2.2.2⟩)
theorem zo_pushR {pc nx i : Nat} {t : zA_T} (hs : ∀ {lv st ph cc ns}, ZW l d y X mc ms Q nx lv (.ref i :: st) ph cc ns → ZW l d y X mc ms Q pc lv st ph cc ns) : zSd l d y X mc ms XL φ Q pc t (zx_push (2, (i : Int)) nx t) := by
  intro ts hts ρ ph lv st g k
  cases hts
  exact hs (k _ (List.mem_singleton.mpr rfl) ρ ph lv _ (zLE.refl ρ) ⟨g.1, g.2.1, g.2.2.1, ⟨zg_ofR, g.2.2.2.1⟩, g.2.2.2.2⟩)
/-- loads: of an int (0), a long (1), a reference (2) -/
def zx_ty (ty : Nat) (a : zA_V) : Bool := if ty = 0 then zIs a else if ty = 1 then zIsJ a else a.1 == 2
def zx_load (ty i nx : Nat) (t : zA_T) : zA_R := match t.2.2.1.lookup i with
  | some a => if zx_ty ty a = true then some [(nx, zt_st t (a :: t.2.2.2.1))] else none
  | none => none
theorem zo_load {pc nx ty i : Nat} {t : zA_T} (hs : ∀ {lv st ph cc ns v}, lv.lookup i = some v → (ty = 0 → ∃ x, v = .int x) → (ty = 1 → ∃ x, v = .long x) → (ty ≠ 0 → ty ≠ 1 → ∃ x, v = .ref x) → ZW l d y X mc ms Q nx lv (v :: st) ph cc ns → ZW l d y X mc ms Q pc lv st ph cc ns) : zSd l d y X mc ms XL φ Q pc t (zx_load ty i nx t) := by
  intro ts hts ρ ph lv st g k
  unfold zx_load at hts
  split at hts
  · next a ha =>
    split at hts
    · next hty =>
      cases hts
      obtain ⟨v, hv, gv⟩ := zg_L.look g.2.2.1 ha
      refine hs hv (fun e => ?_) (fun e => ?_) (fun e1 e2 => ?_) (k _ (List.mem_singleton.mpr rfl) ρ ph lv _ (zLE.refl ρ) ⟨g.1, g.2.1, g.2.2.1, ⟨gv, g.2.2.2.1⟩, g.2.2.2.2⟩)
      · subst e
        obtain ⟨x, hx, -⟩ := zg_int (by simpa [zx_ty] using hty) gv
        exact ⟨x, hx⟩
      · subst e
        obtain ⟨x, hx, -⟩ := zg_long (by simpa [zx_ty] using hty) gv
        exact ⟨x, hx⟩
      · exact ⟨_, zg_ref (by simpa [zx_ty, e1, e2] using hty) gv⟩
    · cases hts
  · cases hts
/-- stores -/
def zx_store (ty i nx : Nat) (t : zA_T) : zA_R := match t.2.2.2.1 with
  | a :: r => if zx_ty ty a = true then some [(nx, zt_L t (if ty = 1 then zS2 t.2.2.1 i a else zS1 t.2.2.1 i a) r)] else none
  | [] => none
theorem zo_store {pc nx ty i : Nat} {t : zA_T} (hs : ∀ {lv st ph cc ns v}, (ty = 0 → ∃ x, v = .int x) → (ty = 1 → ∃ x, v = .long x) → (ty ≠ 0 → ty ≠ 1 → ∃ x, v = .ref x) → ZW l d y X mc ms Q nx (if ty = 1 then z_st2 lv i v else z_st1 lv i v) st ph cc ns → ZW l d y X mc ms Q pc lv (v :: st) ph cc ns) : zSd l d y X mc ms XL φ Q pc t (zx_store ty i nx t) := by
  obtain ⟨S, H, L, s0, cc, ns⟩ := t
  intro ts hts ρ ph lv st g k
  obtain ⟨g1, g2, g3, g4, g5⟩ := g
  unfold zx_store at hts
  split at hts
  · next a r ha =>
    have ha : s0 = a :: r := ha
    subst ha
    obtain ⟨v, st', rfl, gv, gr⟩ := zL2.cons1 g4
    split at hts
    · next hty =>
      cases hts
      refine hs (fun e => ?_) (fun e => ?_) (fun e1 e2 => ?_) (k _ (List.mem_singleton.mpr rfl) ρ ph _ _ (zLE.refl ρ) ⟨g1, g2, ?_, gr, g5⟩)
      · subst e
        obtain ⟨x, hx, -⟩ := zg_int (by simpa [zx_ty] using hty) gv
        exact ⟨x, hx⟩
      · subst e
        obtain ⟨x, hx, -⟩ := zg_long (by simpa [zx_ty] using hty) gv
        exact ⟨x, hx⟩
      · exact ⟨_, zg_ref (by simpa [zx_ty, e1, e2] using hty) gv⟩
      · show zg_L ρ (if ty = 1 then zS2 L i a else zS1 L i a) _
        split
        · exact zS2_g g3 gv
        · exact zS1_g g3 gv
    · cases hts
  · cases hts
/-- a result that is known within bounds -/
def zx_new (q : zI2) (nx : Nat) (t : zA_T) (r : List zA_V) : zA_R := if q.1 = q.2 then some [(nx, zt_st t ((0, q.1) :: r))] else some [(nx, zt_Sst t (t.1 ++ [q]) ((1, (t.1.length : Int)) :: r))]
theorem zx_new_g {q : zI2} {nx : Nat} {t : zA_T} {r : List zA_V} {ρ : List Int} {ph : List z_C} {lv : List (Nat × Value)} {st : List Value} {x : Int32} {ts : List (Nat × zA_T)} (h : zx_new q nx t r = some ts) (g1 : zg_S ρ t.1) (g2 : zL2 (zg_C φ ρ) t.2.1 ph) (g3 : zg_L ρ t.2.2.1 lv) (gr : zL2 (zg_V ρ) r st) (g5 : zg_X ρ XL X) (h1 : q.1 ≤ x.toInt) (h2 : x.toInt ≤ q.2) :
    ∃ t' ρ', (nx, t') ∈ ts ∧ zLE ρ ρ' ∧ zg_T XL X φ ρ' t' ph lv (.int x :: st) ∧ t'.2.2.2.2 = t.2.2.2.2 := by
  unfold zx_new at h
  split at h
  · next e =>
    cases h
    exact ⟨_, ρ, List.mem_singleton.mpr rfl, zLE.refl ρ, ⟨g1, g2, g3, ⟨zg_ofI (by omega), gr⟩, g5⟩, rfl⟩
  · cases h
    have hle := zLE.app ρ x.toInt
    exact ⟨_, ρ ++ [x.toInt], List.mem_singleton.mpr rfl, hle, ⟨g1.push h1 h2, zL2.mono (fun _ _ => zg_C.mono hle) g2, zL2.mono (fun _ _ q => ⟨q.1, q.2.mono hle⟩) g3, ⟨zg_ofK (g1.at _), zL2.mono (fun _ _ => zg_V.mono hle) gr⟩, g5.1, fun j hj => hle _ _ (g5.2 j hj)⟩, rfl⟩
/-- the same instruction once more, with other bounds -/
def zx_again (pc : Nat) (t : zA_T) (l : Option (List zA_S)) : zA_R := match l with
  | some l => some (l.map (fun S => (pc, zt_S t S)))
  | none => none
/-- arithmetic of two ints -/
def zx_bin (k nx pc : Nat) (t : zA_T) : zA_R := match t.2.2.2.1 with
  | b0 :: a0 :: r =>
    let a := zn t.1 a0
    let b := zn t.1 b0
    if zIs a = true ∧ zIs b = true then
      if a.1 = 0 ∧ b.1 = 0 then
        if 19 ≤ k ∧ b.2 = 0 then none else some [(nx, zt_st t ((0, zb_c k a.2 b.2) :: r))]
      else if (k = 16 ∨ k = 18 ∨ k = 17 ∧ ¬ (a.1 = 0 ∧ a.2 = 0)) ∧ b.1 = 1 then zx_again pc t (zSp t.1 b)
      else if k = 12 ∧ a.1 = 1 then zx_again pc t (zSp t.1 a)
      else if k = 12 ∧ b.1 = 1 then zx_again pc t (zSp t.1 b)
      else match zr t.1 a, zr t.1 b with
        | some p, some q => if 19 ≤ k ∧ ¬ 0 < q.1 then none else zx_new (zb_r k p q) nx t r
        | _, _ => none
    else none
  | _ => none
theorem zx_again_g {pc : Nat} {t : zA_T} {o : Option (List zA_S)} {ts : List (Nat × zA_T)} {a : zA_V} {n : Int} {ρ : List Int} {ph : List z_C} {lv : List (Nat × Value)} {st : List Value} (h : zx_again pc t o = some ts) (ho : o = zSp t.1 a) (g : zg_T XL X φ ρ t ph lv st) (he : zE ρ a n) : ∃ t', (pc, t') ∈ ts ∧ zg_T XL X φ ρ t' ph lv st ∧ t'.2.2.2.2 = t.2.2.2.2 := by
  unfold zx_again at h
  split at h
  · next l2 =>
    cases h
    obtain ⟨S', m, gs⟩ := zSp_g g.1 he ho.symm
    exact ⟨zt_S t S', List.mem_map.mpr ⟨S', m, rfl⟩, ⟨gs, g.2⟩, rfl⟩
  · cases h
theorem zo_bin {k pc nx : Nat} {t : zA_T} (hs : ∀ {lv st ph cc ns} {a b : Int32}, (19 ≤ k → ¬ b = 0) → ZW l d y X mc ms Q nx lv (.int (zb k a b) :: st) ph cc ns → ZW l d y X mc ms Q pc lv (.int b :: .int a :: st) ph cc ns) : zSd l d y X mc ms XL φ Q pc t (zx_bin k nx pc t) := by
  obtain ⟨S, H, L, s0, cc, ns⟩ := t
  intro ts hts ρ ph lv st g k0
  have gT := g
  obtain ⟨g1, g2, g3, g4, g5⟩ := g
  unfold zx_bin at hts
  split at hts
  · next b0 a0 r hst =>
    have hst : s0 = b0 :: a0 :: r := hst
    subst hst
    obtain ⟨vb, st1, rfl, gb0, gr1⟩ := zL2.cons1 g4
    obtain ⟨va, st2, rfl, ga0, gr⟩ := zL2.cons1 gr1
    have ga := zn_g g1 ga0
    have gb := zn_g g1 gb0
    dsimp only at hts
    generalize hea : zn S a0 = a at *
    generalize heb : zn S b0 = b at *
    split at hts
    · next hI =>
      obtain ⟨x, rfl, ex⟩ := zg_int hI.1 ga
      obtain ⟨z, rfl, ez⟩ := zg_int hI.2 gb
      split at hts
      · next hc =>
        split at hts
        · cases hts
        · next hz =>
          cases hts
          have hx : x.toInt = a.2 := by rcases ex with ⟨-, e⟩ | ⟨e, -⟩ <;> omega
          have hzz : z.toInt = b.2 := by rcases ez with ⟨-, e⟩ | ⟨e, -⟩ <;> omega
          refine hs (fun hk e => hz ⟨hk, by rw [← hzz, e]; rfl⟩) (k0 _ (List.mem_singleton.mpr rfl) ρ ph lv _ (zLE.refl ρ) ⟨g1, g2, g3, ⟨zg_ofI ?_, gr⟩, g5⟩)
          rw [← hx, ← hzz]
          exact zb_cEq k x z
      · split at hts
        · obtain ⟨t', m, gt, e⟩ := zx_again_g hts rfl gT ez
          have := k0 _ m ρ ph lv _ (zLE.refl ρ) gt
          rw [e] at this
          exact this
        · split at hts
          · obtain ⟨t', m, gt, e⟩ := zx_again_g hts rfl gT ex
            have := k0 _ m ρ ph lv _ (zLE.refl ρ) gt
            rw [e] at this
            exact this
          · split at hts
            · obtain ⟨t', m, gt, e⟩ := zx_again_g hts rfl gT ez
              have := k0 _ m ρ ph lv _ (zLE.refl ρ) gt
              rw [e] at this
              exact this
            · split at hts
              · next p q hp hq =>
                split at hts
                · cases hts
                · next hz =>
                  have b1 := zr_in g1 ex hp
                  have b2 := zr_in g1 ez hq
                  have b3 := zb_r_in (k := k) b1.1 b1.2 b2.1 b2.2
                  obtain ⟨t', ρ', m, hle, gt, e⟩ := zx_new_g (φ := φ) hts g1 g2 g3 gr g5 b3.1 b3.2
                  have := k0 _ m ρ' ph lv _ hle gt
                  rw [e] at this
                  refine hs (fun hk e0 => ?_) this
                  have hz0 : z.toInt = 0 := by rw [e0]; rfl
                  have := b2.1
                  have hz2 : ¬ (¬ 0 < q.1) := fun hn => hz ⟨hk, hn⟩
                  omega
              · cases hts
    · cases hts
  · cases hts
end ZO
end
section
/-! PART 09: comparisons, switches, conversions. -/
def zcP (c : Nat) (a b : Int32) : Prop := if c = 0 then a = b else if c = 1 then a ≠ b else if c = 2 then a < b else if c = 3 then b ≤ a else if c = 4 then b < a else a ≤ b
def zcT (c : Nat) (S : zA_S) (a b : zA_V) : List zA_S := if c = 0 then zEQ S a b else if c = 1 then zNE S a b else if c = 2 then zLT S a b else if c = 3 then zGE S a b else if c = 4 then zLT S b a else zGE S b a
def zcF (c : Nat) (S : zA_S) (a b : zA_V) : List zA_S := if c = 0 then zNE S a b else if c = 1 then zEQ S a b else if c = 2 then zGE S a b else if c = 3 then zLT S a b else if c = 4 then zGE S b a else zLT S b a
theorem zcT_g {c : Nat} {ρ : List Int} {S : zA_S} {a b : zA_V} {x z : Int32} (hS : zg_S ρ S) (h1 : zE ρ a x.toInt) (h2 : zE ρ b z.toInt) (h : zcP c x z) : ∃ S', S' ∈ zcT c S a b ∧ zg_S ρ S' := by
  unfold zcT
  unfold zcP at h
  split
  · next e => rw [if_pos e] at h; exact zEQ_g hS h1 h2 (by rw [h])
  · next e =>
    rw [if_neg e] at h
    split
    · next e => rw [if_pos e] at h; exact zNE_g hS h1 h2 (fun q => h (Int32.toInt_inj.mp q))
    · next e =>
      rw [if_neg e] at h
      split
      · next e => rw [if_pos e] at h; exact zLT_g hS h1 h2 (Int32.lt_iff_toInt_lt.mp h)
      · next e =>
        rw [if_neg e] at h
        split
        · next e => rw [if_pos e] at h; exact zGE_g hS h1 h2 (Int32.le_iff_toInt_le.mp h)
        · next e =>
          rw [if_neg e] at h
          split
          · next e => rw [if_pos e] at h; exact zLT_g hS h2 h1 (Int32.lt_iff_toInt_lt.mp h)
          · next e => rw [if_neg e] at h; exact zGE_g hS h2 h1 (Int32.le_iff_toInt_le.mp h)
theorem zcF_g {c : Nat} {ρ : List Int} {S : zA_S} {a b : zA_V} {x z : Int32} (hS : zg_S ρ S) (h1 : zE ρ a x.toInt) (h2 : zE ρ b z.toInt) (h : ¬ zcP c x z) : ∃ S', S' ∈ zcF c S a b ∧ zg_S ρ S' := by
  unfold zcF
  unfold zcP at h
  simp only [Int32.lt_iff_toInt_lt, Int32.le_iff_toInt_le] at h
  split
  · next e => rw [if_pos e] at h; exact zNE_g hS h1 h2 (fun q => h (Int32.toInt_inj.mp q))
  · next e =>
    rw [if_neg e] at h
    split
    · next e => rw [if_pos e] at h; exact zEQ_g hS h1 h2 (by have : x = z := Classical.byContradiction h; rw [this])
    · next e =>
      rw [if_neg e] at h
      split
      · next e => rw [if_pos e] at h; exact zGE_g hS h1 h2 (by omega)
      · next e =>
        rw [if_neg e] at h
        split
        · next e => rw [if_pos e] at h; exact zLT_g hS h1 h2 (by omega)
        · next e =>
          rw [if_neg e] at h
          split
          · next e => rw [if_pos e] at h; exact zGE_g hS h2 h1 (by omega)
          · next e => rw [if_neg e] at h; exact zLT_g hS h2 h1 (by omega)
theorem zE0 (ρ : List Int) (c : Int) : zE ρ (0, c) c := Or.inl ⟨Or.inl rfl, rfl⟩
section ZO
variable {l : Launch} {d : Nat} {y : zx_Y} {X : zx_X} {mc ms XL : Nat} {φ : List z_C} {Q : Option Value → List z_C → Prop}
def zx_to (pc : Nat) (t : zA_T) (r : List zA_V) (l : List zA_S) : List (Nat × zA_T) := l.map (fun S => (pc, zt_Sst t S r))
def zx_if (c tg nx : Nat) (t : zA_T) : zA_R := match t.2.2.2.1 with
  | a0 :: r => let a := zn t.1 a0
    if zIs a = true then some (zx_to tg t r (zcT c t.1 a (0, 0)) ++ zx_to nx t r (zcF c t.1 a (0, 0))) else none
  | [] => none
def zx_icmp (c tg nx : Nat) (t : zA_T) : zA_R := match t.2.2.2.1 with
  | b0 :: a0 :: r => let a := zn t.1 a0
    let b := zn t.1 b0
    if zIs a = true ∧ zIs b = true then some (zx_to tg t r (zcT c t.1 a b) ++ zx_to nx t r (zcF c t.1 a b)) else none
  | _ => none
theorem zo_if {c pc tg nx : Nat} {t : zA_T} (hs : ∀ {lv st ph cc ns} {a : Int32}, (zcP c a 0 → ZW l d y X mc ms Q tg lv st ph cc ns) → (¬ zcP c a 0 → ZW l d y X mc ms Q nx lv st ph cc ns) → ZW l d y X mc ms Q pc lv (.int a :: st) ph cc ns) : zSd l d y X mc ms XL φ Q pc t (zx_if c tg nx t) := by
  obtain ⟨S, H, L, s0, cc, ns⟩ := t
  intro ts hts ρ ph lv st g k0
  obtain ⟨g1, g2, g3, g4, g5⟩ := g
  unfold zx_if at hts
  split at hts
  · next a0 r hst =>
    have hst : s0 = a0 :: r := hst
    subst hst
    obtain ⟨va, st1, rfl, ga0, gr⟩ := zL2.cons1 g4
    have ga := zn_g g1 ga0
    dsimp only at hts
    generalize hea : zn S a0 = a at *
    split at hts
    · next hI =>
      cases hts
      obtain ⟨x, rfl, ex⟩ := zg_int hI ga
      refine hs (fun h => ?_) (fun h => ?_)
      · obtain ⟨S', m, gs⟩ := zcT_g g1 ex (zE0 ρ (0 : Int32).toInt) h
        exact k0 (tg, zt_Sst (S, H, L, a0 :: r, cc, ns) S' r) (List.mem_append_left _ (List.mem_map.mpr ⟨S', m, rfl⟩)) ρ ph lv _ (zLE.refl ρ) ⟨gs, g2, g3, gr, g5⟩
      · obtain ⟨S', m, gs⟩ := zcF_g g1 ex (zE0 ρ (0 : Int32).toInt) h
        exact k0 (nx, zt_Sst (S, H, L, a0 :: r, cc, ns) S' r) (List.mem_append_right _ (List.mem_map.mpr ⟨S', m, rfl⟩)) ρ ph lv _ (zLE.refl ρ) ⟨gs, g2, g3, gr, g5⟩
    · cases hts
  · cases hts
theorem zo_icmp {c pc tg nx : Nat} {t : zA_T} (hs : ∀ {lv st ph cc ns} {a b : Int32}, (zcP c a b → ZW l d y X mc ms Q tg lv st ph cc ns) → (¬ zcP c a b → ZW l d y X mc ms Q nx lv st ph cc ns) → ZW l d y X mc ms Q pc lv (.int b :: .int a :: st) ph cc ns) : zSd l d y X mc ms XL φ Q pc t (zx_icmp c tg nx t) := by
  obtain ⟨S, H, L, s0, cc, ns⟩ := t
  intro ts hts ρ ph lv st g k0
  obtain ⟨g1, g2, g3, g4, g5⟩ := g
  unfold zx_icmp at hts
  split at hts
  · next b0 a0 r hst =>
    have hst : s0 = b0 :: a0 :: r := hst
    subst hst
    obtain ⟨vb, st1, rfl, gb0, gr1⟩ := zL2.cons1 g4
    obtain ⟨va, st2, rfl, ga0, gr⟩ := zL2.cons1 gr1
    have ga := zn_g g1 ga0
    have gb := zn_g g1 gb0
    dsimp only at hts
    generalize hea : zn S a0 = a at *
    generalize heb : zn S b0 = b at *
    split at hts
    · next hI =>
      cases hts
      obtain ⟨x, rfl, ex⟩ := zg_int hI.1 ga
      obtain ⟨z, rfl, ez⟩ := zg_int hI.2 gb
      refine hs (fun h => ?_) (fun h => ?_)
      · obtain ⟨S', m, gs⟩ := zcT_g g1 ex ez h
        exact k0 (tg, zt_Sst (S, H, L, b0 :: a0 :: r, cc, ns) S' r) (List.mem_append_left _ (List.mem_map.mpr ⟨S', m, rfl⟩)) ρ ph lv _ (zLE.refl ρ) ⟨gs, g2, g3, gr, g5⟩
      · obtain ⟨S', m, gs⟩ := zcF_g g1 ex ez h
        exact k0 (nx, zt_Sst (S, H, L, b0 :: a0 :: r, cc, ns) S' r) (List.mem_append_right _ (List.mem_map.mpr ⟨S', m, rfl⟩)) ρ ph lv _ (zLE.refl ρ) ⟨gs, g2, g3, gr, g5⟩
    · cases hts
  · cases hts
def zx_lcmp (nx : Nat) (t : zA_T) : zA_R := match t.2.2.2.1 with
  | b0 :: a0 :: r => let a := zn t.1 a0
    let b := zn t.1 b0
    if zIsJ a = true ∧ zIsJ b = true then some (zx_to nx t ((0, -1) :: r) (zLT t.1 a b) ++ (zx_to nx t ((0, 0) :: r) (zEQ t.1 a b) ++ zx_to nx t ((0, 1) :: r) (zLT t.1 b a))) else none
  | _ => none
theorem zo_lcmp {pc nx : Nat} {t : zA_T} (hs : ∀ {lv st ph cc ns} {a b : Int64}, ZW l d y X mc ms Q nx lv (.int (lg_cmp a b) :: st) ph cc ns → ZW l d y X mc ms Q pc lv (.long b :: .long a :: st) ph cc ns) : zSd l d y X mc ms XL φ Q pc t (zx_lcmp nx t) := by
  obtain ⟨S, H, L, s0, cc, ns⟩ := t
  intro ts hts ρ ph lv st g k0
  obtain ⟨g1, g2, g3, g4, g5⟩ := g
  unfold zx_lcmp at hts
  split at hts
  · next b0 a0 r hst =>
    have hst : s0 = b0 :: a0 :: r := hst
    subst hst
    obtain ⟨vb, st1, rfl, gb0, gr1⟩ := zL2.cons1 g4
    obtain ⟨va, st2, rfl, ga0, gr⟩ := zL2.cons1 gr1
    have ga := zn_g g1 ga0
    have gb := zn_g g1 gb0
    dsimp only at hts
    generalize hea : zn S a0 = a at *
    generalize heb : zn S b0 = b at *
    split at hts
    · next hI =>
      cases hts
      obtain ⟨x, rfl, ex⟩ := zg_long hI.1 ga
      obtain ⟨z, rfl, ez⟩ := zg_long hI.2 gb
      refine hs ?_
      rcases Int.lt_trichotomy x.toInt z.toInt with h | h | h
      · have e1 : lg_cmp x z = -1 := by
          have h1 : ¬ x > z := fun q => by have := Int64.lt_iff_toInt_lt.mp q; omega
          have h2 : ¬ x = z := fun q => by rw [q] at h; omega
          simp [lg_cmp, h1, h2]
        rw [e1]
        obtain ⟨S', m, gs⟩ := zLT_g g1 ex ez h
        exact k0 (nx, zt_Sst (S, H, L, b0 :: a0 :: r, cc, ns) S' ((0, -1) :: r)) (List.mem_append_left _ (List.mem_map.mpr ⟨S', m, rfl⟩)) ρ ph lv _ (zLE.refl ρ) ⟨gs, g2, g3, ⟨zg_ofI (by decide), gr⟩, g5⟩
      · have e1 : lg_cmp x z = 0 := by
          have h2 : x = z := Int64.toInt_inj.mp h
          have h1 : ¬ x > z := fun q => by have := Int64.lt_iff_toInt_lt.mp q; omega
          simp [lg_cmp, h1, h2]
        rw [e1]
        obtain ⟨S', m, gs⟩ := zEQ_g g1 ex ez h
        exact k0 (nx, zt_Sst (S, H, L, b0 :: a0 :: r, cc, ns) S' ((0, 0) :: r)) (List.mem_append_right _ (List.mem_append_left _ (List.mem_map.mpr ⟨S', m, rfl⟩))) ρ ph lv _ (zLE.refl ρ) ⟨gs, g2, g3, ⟨zg_ofI (by decide), gr⟩, g5⟩
      · have e1 : lg_cmp x z = 1 := by
          have h1 : x > z := Int64.lt_iff_toInt_lt.mpr h
          simp [lg_cmp, h1]
        rw [e1]
        obtain ⟨S', m, gs⟩ := zLT_g g1 ez ex h
        exact k0 (nx, zt_Sst (S, H, L, b0 :: a0 :: r, cc, ns) S' ((0, 1) :: r)) (List.mem_append_right _ (List.mem_append_right _ (List.mem_map.mpr ⟨S', m, rfl⟩))) ρ ph lv _ (zLE.refl ρ) ⟨gs, g2, g3, ⟨zg_ofI (by decide), gr⟩, g5⟩
    · cases hts
  · cases hts
/-- the targets of tableswitch: lo, default, targets -/
def zx_tab1 (t : zA_T) (r : List zA_V) (a : zA_V) : Int → List Int → List (Nat × zA_T)
  | _, [] => []
  | k, g :: gs => zx_to g.toNat t r (zEQ t.1 a (0, k)) ++ zx_tab1 t r a (k + 1) gs
def zx_tab (lo df : Int) (gs : List Int) (t : zA_T) : zA_R := match t.2.2.2.1 with
  | a0 :: r => let a := zn t.1 a0
    if a.1 = 0 then
      (if a.2 < lo ∨ lo + gs.length ≤ a.2 then some [(df.toNat, zt_st t r)] else some [((gs.getD (a.2 - lo).toNat 0).toNat, zt_st t r)])
    else if zIs a = true then some (zx_tab1 t r a lo gs ++ (zx_to df.toNat t r (zLT t.1 a (0, lo)) ++ zx_to df.toNat t r (zGE t.1 a (0, lo + gs.length)))) else none
  | [] => none
theorem zx_tab1_g {t : zA_T} {r : List zA_V} {a : zA_V} {ρ : List Int} {n : Int} (hS : zg_S ρ t.1) (he : zE ρ a n) : ∀ (gs : List Int) (k : Int) (i : Nat), i < gs.length → n = k + i → ∃ S', zg_S ρ S' ∧ ((gs.getD i 0).toNat, zt_Sst t S' r) ∈ zx_tab1 t r a k gs
  | [], _, _, h, _ => by cases h
  | g :: gs, k, 0, _, hn => by
    obtain ⟨S', m, gs'⟩ := zEQ_g hS he (zE0 ρ k) (by omega)
    exact ⟨S', gs', List.mem_append_left _ (List.mem_map.mpr ⟨S', m, rfl⟩)⟩
  | g :: gs, k, i + 1, h, hn => by
    obtain ⟨S', g1, m⟩ := zx_tab1_g hS he gs (k + 1) i (by simpa using h) (by omega)
    exact ⟨S', g1, List.mem_append_right _ m⟩
theorem zo_tab {pc : Nat} {lo df : Int} {gs : List Int} {t : zA_T} (hs : ∀ {lv st ph cc ns} {a : Int32}, (a.toInt < lo ∨ lo + gs.length ≤ a.toInt → ZW l d y X mc ms Q df.toNat lv st ph cc ns) → (∀ i : Nat, i < gs.length → a.toInt = lo + i → ZW l d y X mc ms Q (gs.getD i 0).toNat lv st ph cc ns) → ZW l d y X mc ms Q pc lv (.int a :: st) ph cc ns) : zSd l d y X mc ms XL φ Q pc t (zx_tab lo df gs t) := by
  obtain ⟨S, H, L, s0, cc, ns⟩ := t
  intro ts hts ρ ph lv st g k0
  obtain ⟨g1, g2, g3, g4, g5⟩ := g
  unfold zx_tab at hts
  split at hts
  · next a0 r hst =>
    have hst : s0 = a0 :: r := hst
    subst hst
    obtain ⟨va, st1, rfl, ga0, gr⟩ := zL2.cons1 g4
    have ga := zn_g g1 ga0
    dsimp only at hts
    generalize hea : zn S a0 = a at *
    split at hts
    · next h0 =>
      obtain ⟨x, rfl, ex⟩ := zg_int (a := a) (by simp [zIs, h0]) ga
      have hx : x.toInt = a.2 := by rcases ex with ⟨-, e⟩ | ⟨e, -⟩ <;> omega
      split at hts
      · next hr =>
        cases hts
        refine hs (fun _ => k0 _ (List.mem_singleton.mpr rfl) ρ ph lv _ (zLE.refl ρ) ⟨g1, g2, g3, gr, g5⟩) (fun i hi he => ?_)
        omega
      · next hr =>
        cases hts
        refine hs (fun q => by omega) (fun i hi he => ?_)
        have e2 : (a.2 - lo).toNat = i := by omega
        have := k0 _ (List.mem_singleton.mpr rfl) ρ ph lv _ (zLE.refl ρ) ⟨g1, g2, g3, gr, g5⟩
        rw [e2] at this
        exact this
    · split at hts
      · next hI =>
        cases hts
        obtain ⟨x, rfl, ex⟩ := zg_int hI ga
        refine hs (fun h => ?_) (fun i hi he => ?_)
        · rcases h with h | h
          · obtain ⟨S', m, gs'⟩ := zLT_g g1 ex (zE0 ρ lo) h
            exact k0 (df.toNat, zt_Sst (S, H, L, a0 :: r, cc, ns) S' r) (List.mem_append_right _ (List.mem_append_left _ (List.mem_map.mpr ⟨S', m, rfl⟩))) ρ ph lv _ (zLE.refl ρ) ⟨gs', g2, g3, gr, g5⟩
          · obtain ⟨S', m, gs'⟩ := zGE_g g1 ex (zE0 ρ (lo + gs.length)) h
            exact k0 (df.toNat, zt_Sst (S, H, L, a0 :: r, cc, ns) S' r) (List.mem_append_right _ (List.mem_append_right _ (List.mem_map.mpr ⟨S', m, rfl⟩))) ρ ph lv _ (zLE.refl ρ) ⟨gs', g2, g3, gr, g5⟩
        · obtain ⟨S', gs', m⟩ := zx_tab1_g (t := (S, H, L, a0 :: r, cc, ns)) (r := r) g1 ex gs lo i hi he
          exact k0 _ (List.mem_append_left _ m) ρ ph lv _ (zLE.refl ρ) ⟨gs', g2, g3, gr, g5⟩
      · cases hts
  · cases hts
/-- lookupswitch: default, pairs -/
def zx_lk1 (t : zA_T) (r : List zA_V) (a : zA_V) (df : Int) : List (Int × Int) → List (Nat × zA_T)
  | [] => [(df.toNat, zt_st t r)]
  | q :: qs => zx_to q.2.toNat t r (zEQ t.1 a (0, q.1)) ++ zx_lk1 t r a df qs
def zx_lk0 (n : Int) (df : Int) : List (Int × Int) → Int
  | [] => df
  | q :: qs => if n = q.1 then q.2 else zx_lk0 n df qs
def zx_lk (df : Int) (qs : List (Int × Int)) (t : zA_T) : zA_R := match t.2.2.2.1 with
  | a0 :: r => let a := zn t.1 a0
    if a.1 = 0 then some [((zx_lk0 a.2 df qs).toNat, zt_st t r)] else if zIs a = true then some (zx_lk1 t r a df qs) else none
  | [] => none
theorem zx_lk1_g {t : zA_T} {r : List zA_V} {a : zA_V} {df : Int} {ρ : List Int} {n : Int} (hS : zg_S ρ t.1) (he : zE ρ a n) : ∀ (qs : List (Int × Int)), ∃ S', zg_S ρ S' ∧ ((zx_lk0 n df qs).toNat, zt_Sst t S' r) ∈ zx_lk1 t r a df qs
  | [] => ⟨t.1, hS, List.mem_singleton.mpr rfl⟩
  | q :: qs => by
    by_cases h : n = q.1
    · obtain ⟨S', m, gs'⟩ := zEQ_g hS he (zE0 ρ q.1) h
      refine ⟨S', gs', List.mem_append_left _ (List.mem_map.mpr ⟨S', m, ?_⟩)⟩
      simp [zx_lk0, h]
    · obtain ⟨S', g1, m⟩ := zx_lk1_g hS he qs
      refine ⟨S', g1, List.mem_append_right _ ?_⟩
      simp only [zx_lk0, if_neg h]
      exact m
theorem zo_lk {pc : Nat} {df : Int} {qs : List (Int × Int)} {t : zA_T} (hs : ∀ {lv st ph cc ns} {a : Int32}, ZW l d y X mc ms Q (zx_lk0 a.toInt df qs).toNat lv st ph cc ns → ZW l d y X mc ms Q pc lv (.int a :: st) ph cc ns) : zSd l d y X mc ms XL φ Q pc t (zx_lk df qs t) := by
  obtain ⟨S, H, L, s0, cc, ns⟩ := t
  intro ts hts ρ ph lv st g k0
  obtain ⟨g1, g2, g3, g4, g5⟩ := g
  unfold zx_lk at hts
  split at hts
  · next a0 r hst =>
    have hst : s0 = a0 :: r := hst
    subst hst
    obtain ⟨va, st1, rfl, ga0, gr⟩ := zL2.cons1 g4
    have ga := zn_g g1 ga0
    dsimp only at hts
    generalize hea : zn S a0 = a at *
    split at hts
    · next h0 =>
      obtain ⟨x, rfl, ex⟩ := zg_int (a := a) (by simp [zIs, h0]) ga
      have hx : x.toInt = a.2 := by rcases ex with ⟨-, e⟩ | ⟨e, -⟩ <;> omega
      cases hts
      refine hs ?_
      rw [hx]
      exact k0 _ (List.mem_singleton.mpr rfl) ρ ph lv _ (zLE.refl ρ) ⟨g1, g2, g3, gr, g5⟩
    · split at hts
      · next hI =>
        cases hts
        obtain ⟨x, rfl, ex⟩ := zg_int hI ga
        obtain ⟨S', gs', m⟩ := zx_lk1_g (t := (S, H, L, a0 :: r, cc, ns)) (r := r) (df := df) g1 ex qs
        exact hs (k0 _ m ρ ph lv _ (zLE.refl ρ) ⟨gs', g2, g3, gr, g5⟩)
      · cases hts
  · cases hts
/-- goto, pop, dup, dup2 -/
theorem zo_goto {pc nx : Nat} {t : zA_T} (hs : ∀ {lv st ph cc ns}, ZW l d y X mc ms Q nx lv st ph cc ns → ZW l d y X mc ms Q pc lv st ph cc ns) : zSd l d y X mc ms XL φ Q pc t (some [(nx, t)]) := by
  intro ts hts ρ ph lv st g k0
  cases hts
  exact hs (k0 _ (List.mem_singleton.mpr rfl) ρ ph lv st (zLE.refl ρ) g)
def zx_dup (w nx : Nat) (t : zA_T) : zA_R := match t.2.2.2.1 with
  | a :: r => if zcat a = 1 then
      (if w = 0 then some [(nx, zt_st t (a :: a :: r))] else if w = 1 then some [(nx, zt_st t r)] else match r with
        | b :: r2 => if zcat b = 1 then some [(nx, zt_st t (a :: b :: a :: b :: r2))] else none
        | [] => none) else none
  | [] => none
theorem zo_dup {w pc nx : Nat} {t : zA_T} (h0 : ∀ {lv st ph cc ns} {v : Value}, w = 0 → v.category = 1 → ZW l d y X mc ms Q nx lv (v :: v :: st) ph cc ns → ZW l d y X mc ms Q pc lv (v :: st) ph cc ns)
    (h1 : ∀ {lv st ph cc ns} {v : Value}, w = 1 → v.category = 1 → ZW l d y X mc ms Q nx lv st ph cc ns → ZW l d y X mc ms Q pc lv (v :: st) ph cc ns)
    (h2 : ∀ {lv st ph cc ns} {v u : Value}, w ≠ 0 → w ≠ 1 → v.category = 1 → u.category = 1 → ZW l d y X mc ms Q nx lv (v :: u :: v :: u :: st) ph cc ns → ZW l d y X mc ms Q pc lv (v :: u :: st) ph cc ns) : zSd l d y X mc ms XL φ Q pc t (zx_dup w nx t) := by
  obtain ⟨S, H, L, s0, cc, ns⟩ := t
  intro ts hts ρ ph lv st g k0
  obtain ⟨g1, g2, g3, g4, g5⟩ := g
  unfold zx_dup at hts
  split at hts
  · next a r hst =>
    have hst : s0 = a :: r := hst
    subst hst
    obtain ⟨va, st1, rfl, ga, gr⟩ := zL2.cons1 g4
    split at hts
    · next hc =>
      have hcv : va.category = 1 := (zg_cat ga).trans hc
      split at hts
      · next e => cases hts; exact h0 e hcv (k0 _ (List.mem_singleton.mpr rfl) ρ ph lv _ (zLE.refl ρ) ⟨g1, g2, g3, ⟨ga, ga, gr⟩, g5⟩)
      · next e =>
        split at hts
        · next e1 => cases hts; exact h1 e1 hcv (k0 _ (List.mem_singleton.mpr rfl) ρ ph lv _ (zLE.refl ρ) ⟨g1, g2, g3, gr, g5⟩)
        · next e1 =>
          split at hts
          · next b r2 =>
            obtain ⟨vb, st2, rfl, gb, gr2⟩ := zL2.cons1 gr
            split at hts
            · next hc2 =>
              cases hts
              exact h2 e e1 hcv ((zg_cat gb).trans hc2) (k0 _ (List.mem_singleton.mpr rfl) ρ ph lv _ (zLE.refl ρ) ⟨g1, g2, g3, ⟨ga, gb, ga, gb, gr2⟩, g5⟩)
            · cases hts
          · cases hts
    · cases hts
  · cases hts
/-- i2l, l2i, ineg, iinc -/
def zx_i2l (nx : Nat) (t : zA_T) : zA_R := match t.2.2.2.1 with
  | a0 :: r => let a := zn t.1 a0
    if a.1 = 0 then some [(nx, zt_st t ((4, a.2) :: r))] else if a.1 = 1 then some [(nx, zt_st t ((5, a.2) :: r))] else none
  | [] => none
theorem zo_i2l {pc nx : Nat} {t : zA_T} (hs : ∀ {lv st ph cc ns} {a : Int32}, ZW l d y X mc ms Q nx lv (.long a.toInt64 :: st) ph cc ns → ZW l d y X mc ms Q pc lv (.int a :: st) ph cc ns) : zSd l d y X mc ms XL φ Q pc t (zx_i2l nx t) := by
  obtain ⟨S, H, L, s0, cc, ns⟩ := t
  intro ts hts ρ ph lv st g k0
  obtain ⟨g1, g2, g3, g4, g5⟩ := g
  unfold zx_i2l at hts
  split at hts
  · next a0 r hst =>
    have hst : s0 = a0 :: r := hst
    subst hst
    obtain ⟨va, st1, rfl, ga0, gr⟩ := zL2.cons1 g4
    have ga := zn_g g1 ga0
    dsimp only at hts
    generalize hea : zn S a0 = a at *
    split at hts
    · next h0 =>
      cases hts
      obtain ⟨x, rfl, ex⟩ := zg_int (a := a) (by simp [zIs, h0]) ga
      have hx : x.toInt = a.2 := by rcases ex with ⟨-, e⟩ | ⟨e, -⟩ <;> omega
      exact hs (k0 _ (List.mem_singleton.mpr rfl) ρ ph lv _ (zLE.refl ρ) ⟨g1, g2, g3, ⟨zg_ofJ (by rw [Int32.toInt_toInt64]; exact hx), gr⟩, g5⟩)
    · split at hts
      · next h1 =>
        cases hts
        rcases ga with ⟨g, -⟩ | ⟨g, x, rfl, e2⟩ | ⟨g, -⟩ | ⟨g, -⟩ | ⟨g, -⟩ | ⟨g, -⟩
        · omega
        · exact hs (k0 _ (List.mem_singleton.mpr rfl) ρ ph lv _ (zLE.refl ρ) ⟨g1, g2, g3, ⟨Or.inr (Or.inr (Or.inr (Or.inr (Or.inr ⟨rfl, _, rfl, by rw [Int32.toInt_toInt64]; exact e2⟩)))), gr⟩, g5⟩)
        all_goals omega
      · cases hts
  · cases hts
def zx_neg (nx : Nat) (t : zA_T) : zA_R := match t.2.2.2.1 with
  | a0 :: r => let a := zn t.1 a0
    if a.1 = 0 then some [(nx, zt_st t ((0, zw32 (- a.2)) :: r))] else if a.1 = 1 then zx_new zfull nx t r else none
  | [] => none
theorem zo_neg {pc nx : Nat} {t : zA_T} (hs : ∀ {lv st ph cc ns} {a : Int32}, ZW l d y X mc ms Q nx lv (.int (-a) :: st) ph cc ns → ZW l d y X mc ms Q pc lv (.int a :: st) ph cc ns) : zSd l d y X mc ms XL φ Q pc t (zx_neg nx t) := by
  obtain ⟨S, H, L, s0, cc, ns⟩ := t
  intro ts hts ρ ph lv st g k0
  obtain ⟨g1, g2, g3, g4, g5⟩ := g
  unfold zx_neg at hts
  split at hts
  · next a0 r hst =>
    have hst : s0 = a0 :: r := hst
    subst hst
    obtain ⟨va, st1, rfl, ga0, gr⟩ := zL2.cons1 g4
    have ga := zn_g g1 ga0
    dsimp only at hts
    generalize hea : zn S a0 = a at *
    split at hts
    · next h0 =>
      cases hts
      obtain ⟨x, rfl, ex⟩ := zg_int (a := a) (by simp [zIs, h0]) ga
      have hx : x.toInt = a.2 := by rcases ex with ⟨-, e⟩ | ⟨e, -⟩ <;> omega
      exact hs (k0 _ (List.mem_singleton.mpr rfl) ρ ph lv _ (zLE.refl ρ) ⟨g1, g2, g3, ⟨zg_ofI (by rw [zw32_eq, ← hx]; exact Int32.toInt_neg x), gr⟩, g5⟩)
    · split at hts
      · next h1 =>
        obtain ⟨x, rfl, ex⟩ := zg_int (a := a) (by simp [zIs, h1]) ga
        have b3 := zfull_in (-x)
        obtain ⟨t', ρ', m, hle, gt, e⟩ := zx_new_g (φ := φ) hts g1 g2 g3 gr g5 b3.1 b3.2
        have := k0 _ m ρ' ph lv _ hle gt
        rw [e] at this
        exact hs this
      · cases hts
  · cases hts
def zx_inc (i : Nat) (n : Int) (nx : Nat) (t : zA_T) : zA_R := match t.2.2.1.lookup i with
  | some a0 => let a := zn t.1 a0
    if a.1 = 0 then some [(nx, zt_L t (zS1 t.2.2.1 i (0, zw32 (a.2 + n))) t.2.2.2.1)] else if a.1 = 1 then (match zr t.1 a with
      | some q => some [(nx, (t.1 ++ [zcl (q.1 + n, q.2 + n)], t.2.1, zS1 t.2.2.1 i (1, (t.1.length : Int)), t.2.2.2))]
      | none => none) else none
  | none => none
theorem zo_inc {i pc nx : Nat} {n : Int} {t : zA_T} (hn : (Int32.ofInt n).toInt = n) (hs : ∀ {lv st ph cc ns} {x : Int32}, lv.lookup i = some (.int x) → ZW l d y X mc ms Q nx (z_st1 lv i (.int (x + Int32.ofInt n))) st ph cc ns → ZW l d y X mc ms Q pc lv st ph cc ns) : zSd l d y X mc ms XL φ Q pc t (zx_inc i n nx t) := by
  obtain ⟨S, H, L, s0, cc, ns⟩ := t
  intro ts hts ρ ph lv st g k0
  obtain ⟨g1, g2, g3, g4, g5⟩ := g
  unfold zx_inc at hts
  split at hts
  · next a0 hst =>
    obtain ⟨va, hv, ga0⟩ := zg_L.look g3 hst
    have ga := zn_g g1 ga0
    dsimp only at hts
    generalize hea : zn S a0 = a at *
    have hadd : ∀ x : Int32, (x + Int32.ofInt n).toInt = (x.toInt + n).bmod 4294967296 := fun x => by
      have := Int32.toInt_add x (Int32.ofInt n)
      rw [hn] at this
      exact this
    split at hts
    · next h0 =>
      cases hts
      obtain ⟨x, rfl, ex⟩ := zg_int (a := a) (by simp [zIs, h0]) ga
      have hx : x.toInt = a.2 := by rcases ex with ⟨-, e⟩ | ⟨e, -⟩ <;> omega
      exact hs hv (k0 _ (List.mem_singleton.mpr rfl) ρ ph _ st (zLE.refl ρ) ⟨g1, g2, zS1_g g3 (zg_ofI (by rw [zw32_eq, ← hx]; exact hadd x)), g4, g5⟩)
    · split at hts
      · next h1 =>
        obtain ⟨x, rfl, ex⟩ := zg_int (a := a) (by simp [zIs, h1]) ga
        split at hts
        · next q hq =>
          cases hts
          have b := zr_in g1 ex hq
          have b3 := zcl_in (q := (q.1 + n, q.2 + n)) (hadd x) (by show q.1 + n ≤ _; omega) (by show _ ≤ q.2 + n; omega)
          have hle := zLE.app ρ (x + Int32.ofInt n).toInt
          exact hs hv (k0 _ (List.mem_singleton.mpr rfl) (ρ ++ [(x + Int32.ofInt n).toInt]) ph _ st hle ⟨g1.push b3.1 b3.2, zL2.mono (fun _ _ => zg_C.mono hle) g2, zS1_g (zL2.mono (fun _ _ q => ⟨q.1, q.2.mono hle⟩) g3) (zg_ofK (g1.at _)), zL2.mono (fun _ _ => zg_V.mono hle) g4, g5.1, fun j hj => hle _ _ (g5.2 j hj)⟩)
        · cases hts
      · cases hts
  · cases hts
/-- an int, a long of which nothing is known -/
def zfullJ : zI2 := (-9223372036854775808, 9223372036854775807)
def zx_newJ (nx : Nat) (t : zA_T) (r : List zA_V) : zA_R := some [(nx, zt_Sst t (t.1 ++ [zfullJ]) ((5, (t.1.length : Int)) :: r))]
def zx_jop (nx : Nat) (t : zA_T) (ty : Nat) : zA_R := match t.2.2.2.1 with
  | b :: a :: r => if zIsJ a = true then (if zx_ty ty b = true then zx_newJ nx t r else none) else none
  | _ => none
theorem zx_newJ_g {nx : Nat} {t : zA_T} {r : List zA_V} {ρ : List Int} {ph : List z_C} {lv : List (Nat × Value)} {st : List Value} (x : Int64) {ts : List (Nat × zA_T)} (h : zx_newJ nx t r = some ts) (g1 : zg_S ρ t.1) (g2 : zL2 (zg_C φ ρ) t.2.1 ph) (g3 : zg_L ρ t.2.2.1 lv) (gr : zL2 (zg_V ρ) r st) (g5 : zg_X ρ XL X) :
    ∃ t' ρ', (nx, t') ∈ ts ∧ zLE ρ ρ' ∧ zg_T XL X φ ρ' t' ph lv (.long x :: st) ∧ t'.2.2.2.2 = t.2.2.2.2 := by
  cases h
  have hle := zLE.app ρ x.toInt
  have h1 := Int64.le_toInt x
  have h2 := Int64.toInt_lt x
  exact ⟨_, ρ ++ [x.toInt], List.mem_singleton.mpr rfl, hle, ⟨g1.push (by show -9223372036854775808 ≤ _; omega) (by show _ ≤ 9223372036854775807; omega), zL2.mono (fun _ _ => zg_C.mono hle) g2, zL2.mono (fun _ _ q => ⟨q.1, q.2.mono hle⟩) g3, ⟨zg_ofKJ (g1.at _), zL2.mono (fun _ _ => zg_V.mono hle) gr⟩, g5.1, fun j hj => hle _ _ (g5.2 j hj)⟩, rfl⟩
theorem zo_jop {pc nx ty : Nat} {t : zA_T} (hty : ty < 2) (h0 : ∀ {lv st ph cc ns} {a b : Int64}, ty = 1 → (∃ x, ZW l d y X mc ms Q nx lv (.long x :: st) ph cc ns → ZW l d y X mc ms Q pc lv (.long b :: .long a :: st) ph cc ns))
    (h1 : ∀ {lv st ph cc ns} {a : Int64} {b : Int32}, ty = 0 → (∃ x, ZW l d y X mc ms Q nx lv (.long x :: st) ph cc ns → ZW l d y X mc ms Q pc lv (.int b :: .long a :: st) ph cc ns)) : zSd l d y X mc ms XL φ Q pc t (zx_jop nx t ty) := by
  obtain ⟨S, H, L, s0, cc, ns⟩ := t
  intro ts hts ρ ph lv st g k0
  obtain ⟨g1, g2, g3, g4, g5⟩ := g
  unfold zx_jop at hts
  split at hts
  · next b a r hst =>
    have hst : s0 = b :: a :: r := hst
    subst hst
    obtain ⟨vb, st1, rfl, gb, gr1⟩ := zL2.cons1 g4
    obtain ⟨va, st2, rfl, ga, gr⟩ := zL2.cons1 gr1
    split at hts
    · next hI =>
      split at hts
      · next hb =>
        obtain ⟨z, rfl, -⟩ := zg_long hI ga
        rcases (by omega : ty = 0 ∨ ty = 1) with e | e
        · subst e
          obtain ⟨w, rfl, -⟩ := zg_int (by simpa [zx_ty] using hb) gb
          obtain ⟨x, hx⟩ := h1 (lv := lv) (st := st2) (ph := ph) (cc := cc) (ns := ns) (a := z) (b := w) rfl
          obtain ⟨t', ρ', m, hle, gt, e⟩ := zx_newJ_g (φ := φ) x hts g1 g2 g3 gr g5
          have := k0 _ m ρ' ph lv _ hle gt
          rw [e] at this
          exact hx this
        · subst e
          obtain ⟨w, rfl, -⟩ := zg_long (by simpa [zx_ty] using hb) gb
          obtain ⟨x, hx⟩ := h0 (lv := lv) (st := st2) (ph := ph) (cc := cc) (ns := ns) (a := z) (b := w) rfl
          obtain ⟨t', ρ', m, hle, gt, e⟩ := zx_newJ_g (φ := φ) x hts g1 g2 g3 gr g5
          have := k0 _ m ρ' ph lv _ hle gt
          rw [e] at this
          exact hx this
      · cases hts
    · cases hts
  · cases hts
end ZO
end
section
/-! PART 10: fields and arrays of what is known. -/
theorem zg_C0 {φ : List z_C} {ρ : List Int} {a : zA_C} {c : z_C} (h : a.1 = 0) (g : zg_C φ ρ a c) : ∃ fs, c = .inr (a.2.1, fs) ∧ zL2 (zg_V ρ) a.2.2.2.1 fs := by
  rcases g with ⟨h1, -⟩ | ⟨-, g⟩ | ⟨h1, -⟩ | ⟨h1, -⟩ | ⟨h1, -⟩
  · omega
  · exact g
  all_goals omega
theorem zg_CI {φ : List z_C} {ρ : List Int} {a : zA_C} {c : z_C} (h : a.1 = 1) (h2 : a.2.1 = 0) (g : zg_C φ ρ a c) : ∃ f : Nat → Int32, c = .inl (0, a.2.2.1, z_I f) ∧ ∀ j, j < a.2.2.1 → zg_V ρ ((a.2.2.2.2.lookup j).getD (a.2.2.2.1.headD (3, 0))) (.int (f j)) := by
  rcases g with ⟨h1, -⟩ | ⟨h1, -⟩ | ⟨-, -, g⟩ | ⟨-, h1, -⟩ | ⟨-, h1, -⟩
  · omega
  · omega
  · exact g
  all_goals omega
theorem zg_CJ {φ : List z_C} {ρ : List Int} {a : zA_C} {c : z_C} (h : a.1 = 1) (h2 : a.2.1 = 1) (g : zg_C φ ρ a c) : ∃ f : Nat → Int64, c = .inl (1, a.2.2.1, z_J f) ∧ ∀ j, j < a.2.2.1 → zg_V ρ ((a.2.2.2.2.lookup j).getD (a.2.2.2.1.headD (3, 0))) (.long (f j)) := by
  rcases g with ⟨h1, -⟩ | ⟨h1, -⟩ | ⟨-, h1, -⟩ | ⟨-, -, g⟩ | ⟨-, h1, -⟩
  · omega
  · omega
  · omega
  · exact g
  · omega
theorem zg_CO {φ : List z_C} {ρ : List Int} {a : zA_C} {c : z_C} (h : a.1 = 1) (h2 : a.2.1 = 2) (g : zg_C φ ρ a c) : ∃ f : Nat → Option Nat, c = .inl (2, a.2.2.1, z_O f) ∧ ∀ j, j < a.2.2.1 → zg_V ρ ((a.2.2.2.2.lookup j).getD (a.2.2.2.1.headD (3, 0))) (z_rf (f j)) := by
  rcases g with ⟨h1, -⟩ | ⟨h1, -⟩ | ⟨-, h1, -⟩ | ⟨-, h1, -⟩ | ⟨-, -, g⟩
  · omega
  · omega
  · omega
  · omega
  · exact g
section ZO
variable {l : Launch} {d : Nat} {y : zx_Y} {X : zx_X} {mc ms XL : Nat} {φ : List z_C} {Q : Option Value → List z_C → Prop}
def zx_get (k ci nx : Nat) (t : zA_T) : zA_R := match t.2.2.2.1 with
  | a :: r => if a.1 = 2 ∧ 3 ≤ a.2.toNat then (match t.2.1[a.2.toNat - 3]? with
      | some c => if c.1 = 0 ∧ c.2.1 = ci then (match c.2.2.2.1[k]? with
          | some v => some [(nx, zt_st t (v :: r))]
          | none => none) else none
      | none => none) else none
  | [] => none
theorem z_back3 {n : Nat} (h : 3 ≤ n) : Value.ref n = Value.ref (n - 3 + 3) := by rw [Nat.sub_add_cancel h]
theorem zo_get {k ci pc nx : Nat} {t : zA_T} (hs : ∀ {lv st ph cc ns} {i : Nat} {fs : List Value} {v : Value}, ph[i]? = some (.inr (ci, fs)) → fs[k]? = some v → ZW l d y X mc ms Q nx lv (v :: st) ph cc ns → ZW l d y X mc ms Q pc lv (.ref (i + 3) :: st) ph cc ns) : zSd l d y X mc ms XL φ Q pc t (zx_get k ci nx t) := by
  obtain ⟨S, H, L, s0, cc, ns⟩ := t
  intro ts hts ρ ph lv st g k0
  obtain ⟨g1, g2, g3, g4, g5⟩ := g
  unfold zx_get at hts
  split at hts
  · next a r hst =>
    have hst : s0 = a :: r := hst
    subst hst
    obtain ⟨va, st1, rfl, ga, gr⟩ := zL2.cons1 g4
    split at hts
    · next h2 =>
      have ea := zg_ref h2.1 ga
      subst ea
      rw [z_back3 h2.2]
      split at hts
      · next c hc =>
        obtain ⟨c', hc', gc⟩ := zL2.get g2 hc
        split at hts
        · next h3 =>
          obtain ⟨fs, rfl, gf⟩ := zg_C0 h3.1 gc
          split at hts
          · next v hv =>
            obtain ⟨v', hv', gv⟩ := zL2.get gf hv
            cases hts
            rw [h3.2] at hc'
            exact hs hc' hv' (k0 _ (List.mem_singleton.mpr rfl) ρ ph lv _ (zLE.refl ρ) ⟨g1, g2, g3, ⟨gv, gr⟩, g5⟩)
          · cases hts
        · cases hts
      · cases hts
    · cases hts
  · cases hts
/-- what may be put into a field: an int (0), a boolean (1), a reference (2) -/
def zx_fit (tc : Nat) (S : zA_S) (v : zA_V) : Bool := if tc = 0 then zIs v else if tc = 1 then (zIs v && (match zr S v with | some q => decide (0 ≤ q.1 ∧ q.2 ≤ 1) | none => false)) else v.1 == 2
theorem zx_fit_g {tc : Nat} {S : zA_S} {v : zA_V} {ρ : List Int} {u : Value} (hS : zg_S ρ S) (g : zg_V ρ v u) (h : zx_fit tc S v = true) : (tc = 0 → ∃ x, u = .int x) ∧ (tc = 1 → u = .int 0 ∨ u = .int 1) ∧ (tc ≠ 0 → tc ≠ 1 → ∃ a, u = .ref a) := by
  unfold zx_fit at h
  refine ⟨fun e => ?_, fun e => ?_, fun e1 e2 => ?_⟩
  · rw [if_pos e] at h
    obtain ⟨x, hx, -⟩ := zg_int h g
    exact ⟨x, hx⟩
  · rw [if_neg (by omega), if_pos e, Bool.and_eq_true] at h
    obtain ⟨x, hx, he⟩ := zg_int h.1 g
    have h2 := h.2
    split at h2
    · next q hq =>
      have := zr_in hS he hq
      have h3 := of_decide_eq_true h2
      rcases (by omega : x.toInt = 0 ∨ x.toInt = 1) with e1 | e1
      · exact Or.inl (by rw [hx, Int32.toInt_inj.mp (show x.toInt = (0 : Int32).toInt from e1)])
      · exact Or.inr (by rw [hx, Int32.toInt_inj.mp (show x.toInt = (1 : Int32).toInt from e1)])
    · cases h2
  · rw [if_neg e1, if_neg e2] at h
    exact ⟨_, zg_ref (by simpa using h) g⟩
def zx_put (k ci tc nx : Nat) (t : zA_T) : zA_R := match t.2.2.2.1 with
  | v0 :: a :: r => if a.1 = 2 ∧ 3 ≤ a.2.toNat then (match t.2.1[a.2.toNat - 3]? with
      | some c => if c.1 = 0 ∧ c.2.1 = ci ∧ k < c.2.2.2.1.length ∧ zx_fit tc t.1 v0 = true then
          some [(nx, zt_H t (t.2.1.set (a.2.toNat - 3) (0, ci, 0, c.2.2.2.1.set k (zn t.1 v0), [])) r)] else none
      | none => none) else none
  | _ => none
theorem zo_put {k ci tc pc nx : Nat} {t : zA_T} (hs : ∀ {lv st ph cc ns} {i : Nat} {fs : List Value} {v : Value}, ph[i]? = some (.inr (ci, fs)) → k < fs.length → (tc = 0 → ∃ x, v = .int x) → (tc = 1 → v = .int 0 ∨ v = .int 1) → (tc ≠ 0 → tc ≠ 1 → ∃ a, v = .ref a) → ZW l d y X mc ms Q nx lv st (ph.set i (.inr (ci, fs.set k v))) cc ns → ZW l d y X mc ms Q pc lv (v :: .ref (i + 3) :: st) ph cc ns) : zSd l d y X mc ms XL φ Q pc t (zx_put k ci tc nx t) := by
  obtain ⟨S, H, L, s0, cc, ns⟩ := t
  intro ts hts ρ ph lv st g k0
  obtain ⟨g1, g2, g3, g4, g5⟩ := g
  unfold zx_put at hts
  split at hts
  · next v0 a r hst =>
    have hst : s0 = v0 :: a :: r := hst
    subst hst
    obtain ⟨vv, st0, rfl, gv, gr0⟩ := zL2.cons1 g4
    obtain ⟨va, st1, rfl, ga, gr⟩ := zL2.cons1 gr0
    split at hts
    · next h2 =>
      have ea := zg_ref h2.1 ga
      subst ea
      rw [z_back3 h2.2]
      split at hts
      · next c hc =>
        obtain ⟨c', hc', gc⟩ := zL2.get g2 hc
        split at hts
        · next h3 =>
          obtain ⟨fs, rfl, gf⟩ := zg_C0 h3.1 gc
          cases hts
          rw [h3.2.1] at hc'
          obtain ⟨f1, f2, f3⟩ := zx_fit_g g1 gv h3.2.2.2
          refine hs hc' (by rw [← zL2.len gf]; exact h3.2.2.1) f1 f2 f3 (k0 _ (List.mem_singleton.mpr rfl) ρ _ lv _ (zLE.refl ρ) ⟨g1, zL2.set ?_ _ g2, g3, gr, g5⟩)
          exact Or.inr (Or.inl ⟨rfl, _, rfl, zL2.set (zn_g g1 gv) _ gf⟩)
        · cases hts
      · cases hts
    · cases hts
  · cases hts
/-- one place of an array that is known -/
def zx_el (c : zA_C) (j : Nat) : zA_V := (c.2.2.2.2.lookup j).getD (c.2.2.2.1.headD (3, 0))
def zx_tbN (i : Nat) : Nat := if i = 0 then 32 else 8
def zx_tbG (i : Nat) : List Int32 := if i = 0 then zs_own else zs_abv
def zx_ald (XL ty nx pc : Nat) (t : zA_T) : zA_R := match t.2.2.2.1 with
  | j0 :: a :: r => let j := zn t.1 j0
    if a.1 = 2 ∧ zIs j = true then
      if 3 ≤ a.2.toNat then (match t.2.1[a.2.toNat - 3]?, zr t.1 j with
        | some c, some q => if c.1 = 1 ∧ c.2.1 = ty ∧ 0 ≤ q.1 ∧ q.2 < c.2.2.1 then
            (if j.1 = 0 then some [(nx, zt_st t (zx_el c j.2.toNat :: r))] else match c.2.2.2.2 with
              | [] => some [(nx, zt_st t (c.2.2.2.1.headD (3, 0) :: r))]
              | _ :: _ => zx_again pc t (zSp t.1 j)) else none
        | _, _ => none)
      else if ty = 0 then
        if a.2.toNat = 2 then (if j.1 = 0 ∧ 0 ≤ j.2 ∧ j.2 < XL then some [(nx, zt_st t ((1, j.2) :: r))] else none)
        else if j.1 = 0 then (if 0 ≤ j.2 ∧ j.2 < zx_tbN a.2.toNat then some [(nx, zt_st t ((0, ((zx_tbG a.2.toNat).getD j.2.toNat 0).toInt) :: r))] else none)
        else zx_again pc t (zSp t.1 j)
      else none
    else none
  | _ => none
theorem zo_ald {ty pc nx : Nat} {t : zA_T} (hty : ty < 3)
    (hI : ∀ {lv st ph cc ns} {i n : Nat} {f : Nat → Int32} {j : Int32}, ty = 0 → ph[i]? = some (.inl (0, n, z_I f)) → vp_in j n → ZW l d y X mc ms Q nx lv (.int (f j.toNatClampNeg) :: st) ph cc ns → ZW l d y X mc ms Q pc lv (.int j :: .ref (i + 3) :: st) ph cc ns)
    (hJ : ∀ {lv st ph cc ns} {i n : Nat} {f : Nat → Int64} {j : Int32}, ty = 1 → ph[i]? = some (.inl (1, n, z_J f)) → vp_in j n → ZW l d y X mc ms Q nx lv (.long (f j.toNatClampNeg) :: st) ph cc ns → ZW l d y X mc ms Q pc lv (.int j :: .ref (i + 3) :: st) ph cc ns)
    (hO : ∀ {lv st ph cc ns} {i n : Nat} {f : Nat → Option Nat} {j : Int32}, ty = 2 → ph[i]? = some (.inl (2, n, z_O f)) → vp_in j n → ZW l d y X mc ms Q nx lv (z_rf (f j.toNatClampNeg) :: st) ph cc ns → ZW l d y X mc ms Q pc lv (.int j :: .ref (i + 3) :: st) ph cc ns)
    (hT : ∀ {lv st ph cc ns} {i n : Nat} {g : List Int32} {j : Int32}, ty = 0 → (i = 0 ∧ n = 32 ∧ g = zs_own ∨ i = 1 ∧ n = 8 ∧ g = zs_abv) → vp_in j n → ZW l d y X mc ms Q nx lv (.int (g.getD j.toNatClampNeg 0) :: st) ph cc ns → ZW l d y X mc ms Q pc lv (.int j :: .ref i :: st) ph cc ns)
    (hX : ∀ {lv st ph cc ns} {j : Int32}, ty = 0 → vp_in j X.1 → ZW l d y X mc ms Q nx lv (.int (X.2 j.toNatClampNeg) :: st) ph cc ns → ZW l d y X mc ms Q pc lv (.int j :: .ref 2 :: st) ph cc ns) :
    zSd l d y X mc ms XL φ Q pc t (zx_ald XL ty nx pc t) := by
  obtain ⟨S, H, L, s0, cc, ns⟩ := t
  intro ts hts ρ ph lv st g k0
  have gT := g
  obtain ⟨g1, g2, g3, g4, g5⟩ := g
  unfold zx_ald at hts
  split at hts
  · next j0 a r hst =>
    have hst : s0 = j0 :: a :: r := hst
    subst hst
    obtain ⟨vj, st0, rfl, gj0, gr0⟩ := zL2.cons1 g4
    obtain ⟨va, st1, rfl, ga, gr⟩ := zL2.cons1 gr0
    have gj := zn_g g1 gj0
    dsimp only at hts
    generalize hej : zn S j0 = j at *
    split at hts
    · next hI0 =>
      have ea := zg_ref hI0.1 ga
      subst ea
      obtain ⟨x, rfl, ex⟩ := zg_int hI0.2 gj
      split at hts
      · next h3 =>
        rw [z_back3 h3] at *
        split at hts
        · next c q hc hq =>
          obtain ⟨c', hc', gc⟩ := zL2.get g2 hc
          have bq := zr_in g1 ex hq
          split at hts
          · next h4 =>
            obtain ⟨c1, c2, c3, c4⟩ := h4
            have hin : vp_in x c.2.2.1 := vp_in_iff.mpr ⟨by omega, by omega⟩
            have hjl : x.toNatClampNeg < c.2.2.1 := z_in_lt hin
            have fin : ∀ (v : zA_V), (∀ u, zg_V ρ (zx_el c x.toNatClampNeg) u → zg_V ρ v u) → some [(nx, zt_st (S, H, L, j0 :: a :: r, cc, ns) (v :: r))] = some ts → ZW l d y X mc ms Q pc lv (.int x :: .ref (a.2.toNat - 3 + 3) :: st1) ph cc ns := by
              intro v hv e
              cases e
              rcases (by omega : ty = 0 ∨ ty = 1 ∨ ty = 2) with e | e | e
              · obtain ⟨f, rfl, gf⟩ := zg_CI c1 (c2.trans e) gc
                exact hI e hc' hin (k0 _ (List.mem_singleton.mpr rfl) ρ ph lv _ (zLE.refl ρ) ⟨g1, g2, g3, ⟨hv _ (gf _ hjl), gr⟩, g5⟩)
              · obtain ⟨f, rfl, gf⟩ := zg_CJ c1 (c2.trans e) gc
                exact hJ e hc' hin (k0 _ (List.mem_singleton.mpr rfl) ρ ph lv _ (zLE.refl ρ) ⟨g1, g2, g3, ⟨hv _ (gf _ hjl), gr⟩, g5⟩)
              · obtain ⟨f, rfl, gf⟩ := zg_CO c1 (c2.trans e) gc
                exact hO e hc' hin (k0 _ (List.mem_singleton.mpr rfl) ρ ph lv _ (zLE.refl ρ) ⟨g1, g2, g3, ⟨hv _ (gf _ hjl), gr⟩, g5⟩)
            split at hts
            · next hj0 =>
              have hx : x.toInt = j.2 := by rcases ex with ⟨-, e⟩ | ⟨e, -⟩ <;> omega
              have hxn : x.toNatClampNeg = j.2.toNat := by show x.toInt.toNat = _; rw [hx]
              exact fin _ (fun u gu => by rw [hxn] at gu; exact gu) hts
            · split at hts
              · next hov => exact fin _ (fun u gu => by unfold zx_el at gu; rw [hov] at gu; exact gu) hts
              · obtain ⟨t', m, gt, e⟩ := zx_again_g hts rfl gT ex
                have := k0 _ m ρ ph lv _ (zLE.refl ρ) gt
                rw [e] at this
                exact this
          · cases hts
        · cases hts
      · next h3 =>
        split at hts
        · next hty0 =>
          split at hts
          · next h5 =>
            split at hts
            · next h6 =>
              cases hts
              have hx : x.toInt = j.2 := by rcases ex with ⟨-, e⟩ | ⟨e, -⟩ <;> omega
              have hxn : x.toNatClampNeg = j.2.toNat := by show x.toInt.toNat = _; rw [hx]
              rw [h5]
              refine hX hty0 (vp_in_iff.mpr ⟨by omega, by rw [g5.1]; omega⟩) (k0 _ (List.mem_singleton.mpr rfl) ρ ph lv _ (zLE.refl ρ) ⟨g1, g2, g3, ⟨?_, gr⟩, g5⟩)
              rw [hxn]
              exact Or.inr (Or.inl ⟨rfl, _, rfl, g5.2 _ (by omega)⟩)
            · cases hts
          · next h5 =>
            split at hts
            · next hj0 =>
              have hx : x.toInt = j.2 := by rcases ex with ⟨-, e⟩ | ⟨e, -⟩ <;> omega
              have hxn : x.toNatClampNeg = j.2.toNat := by show x.toInt.toNat = _; rw [hx]
              split at hts
              · next h6 =>
                cases hts
                have hcase : a.2.toNat = 0 ∧ zx_tbN a.2.toNat = 32 ∧ zx_tbG a.2.toNat = zs_own ∨ a.2.toNat = 1 ∧ zx_tbN a.2.toNat = 8 ∧ zx_tbG a.2.toNat = zs_abv := by
                  unfold zx_tbN zx_tbG
                  rcases (by omega : a.2.toNat = 0 ∨ a.2.toNat = 1) with e | e
                  · exact Or.inl ⟨e, by rw [if_pos e], by rw [if_pos e]⟩
                  · exact Or.inr ⟨e, by rw [if_neg (by omega)], by rw [if_neg (by omega)]⟩
                refine hT (n := zx_tbN a.2.toNat) (g := zx_tbG a.2.toNat) hty0 hcase (vp_in_iff.mpr ⟨by omega, by rw [hx]; exact h6.2⟩) (k0 _ (List.mem_singleton.mpr rfl) ρ ph lv _ (zLE.refl ρ) ⟨g1, g2, g3, ⟨zg_ofI ?_, gr⟩, g5⟩)
                rw [hxn]
              · cases hts
            · obtain ⟨t', m, gt, e⟩ := zx_again_g hts rfl gT ex
              have := k0 _ m ρ ph lv _ (zLE.refl ρ) gt
              rw [e] at this
              exact this
        · cases hts
    · cases hts
  · cases hts
/-- a place of an array is written -/
def zx_wr (c : zA_C) (j : Nat) (v : zA_V) : zA_C := (1, c.2.1, c.2.2.1, c.2.2.2.1, (if v = c.2.2.2.1.headD (3, 0) then c.2.2.2.2.filter (fun q => !(q.1 == j)) else (j, v) :: c.2.2.2.2.filter (fun q => !(q.1 == j))))
theorem z_look_f (l : List (Nat × zA_V)) (j i : Nat) : (l.filter (fun q => !(q.1 == j))).lookup i = if i = j then none else l.lookup i := by
  induction l with
  | nil => simp
  | cons a r ih =>
    obtain ⟨k, v⟩ := a
    rw [List.filter_cons]
    by_cases hkj : k = j
    · subst hkj
      simp only [beq_self_eq_true, Bool.not_true, Bool.false_eq_true, if_false]
      rw [ih, List.lookup_cons]
      by_cases hik : i = k
      · simp [hik]
      · have : (i == k) = false := by simpa using hik
        simp [hik, this]
    · have h1 : (k == j) = false := by simpa using hkj
      simp only [h1, Bool.not_false, if_true]
      rw [List.lookup_cons, List.lookup_cons, ih]
      by_cases hik : i = k
      · have : ¬ i = j := fun e => hkj (hik.symm.trans e)
        simp [hik, hkj]
      · have h2 : (i == k) = false := by simpa using hik
        simp [h2]
theorem zx_wr_el (c : zA_C) (j i : Nat) (v : zA_V) : zx_el (zx_wr c j v) i = if i = j then v else zx_el c i := by
  unfold zx_el zx_wr
  dsimp only
  split
  · next h =>
    rw [z_look_f]
    split
    · rw [Option.getD_none, h]
    · rfl
  · next h =>
    rw [List.lookup_cons]
    by_cases hij : i = j
    · subst hij
      simp
    · have : (i == j) = false := by simpa using hij
      rw [this, if_neg hij]
      simp only [z_look_f, if_neg hij]
def zx_ast (ty nx pc : Nat) (t : zA_T) : zA_R := match t.2.2.2.1 with
  | v0 :: j0 :: a :: r => let j := zn t.1 j0
    if a.1 = 2 ∧ zIs j = true ∧ 3 ≤ a.2.toNat ∧ zx_ty ty v0 = true then
      (match t.2.1[a.2.toNat - 3]?, zr t.1 j with
        | some c, some q => if c.1 = 1 ∧ c.2.1 = ty ∧ 0 ≤ q.1 ∧ q.2 < c.2.2.1 then
            (if j.1 = 0 then
              (if ty = 2 then (if 3 ≤ v0.2.toNat then (match t.2.1[v0.2.toNat - 3]? with
                  | some e => if e.1 = 0 ∧ e.2.1 = 10 then some [(nx, zt_H t (t.2.1.set (a.2.toNat - 3) (zx_wr c j.2.toNat (zn t.1 v0))) r)] else none
                  | none => none) else none)
                else some [(nx, zt_H t (t.2.1.set (a.2.toNat - 3) (zx_wr c j.2.toNat (zn t.1 v0))) r)])
              else zx_again pc t (zSp t.1 j)) else none
        | _, _ => none)
    else none
  | _ => none
theorem zo_ast {ty pc nx : Nat} {t : zA_T} (hty : ty < 3)
    (hI : ∀ {lv st ph cc ns} {i n : Nat} {f : Nat → Int32} {j x : Int32}, ty = 0 → ph[i]? = some (.inl (0, n, z_I f)) → vp_in j n → ZW l d y X mc ms Q nx lv st (ph.set i (.inl (0, n, z_I (upd f j.toNatClampNeg x)))) cc ns → ZW l d y X mc ms Q pc lv (.int x :: .int j :: .ref (i + 3) :: st) ph cc ns)
    (hJ : ∀ {lv st ph cc ns} {i n : Nat} {f : Nat → Int64} {j : Int32} {x : Int64}, ty = 1 → ph[i]? = some (.inl (1, n, z_J f)) → vp_in j n → ZW l d y X mc ms Q nx lv st (ph.set i (.inl (1, n, z_J (vp_updL f j.toNatClampNeg x)))) cc ns → ZW l d y X mc ms Q pc lv (.long x :: .int j :: .ref (i + 3) :: st) ph cc ns)
    (hO : ∀ {lv st ph cc ns} {i n q : Nat} {f : Nat → Option Nat} {j : Int32} {fs : List Value}, ty = 2 → ph[i]? = some (.inl (2, n, z_O f)) → ph[q]? = some (.inr (10, fs)) → vp_in j n → ZW l d y X mc ms Q nx lv st (ph.set i (.inl (2, n, z_O (va_up f j.toNatClampNeg (some (q + 3)))))) cc ns → ZW l d y X mc ms Q pc lv (.ref (q + 3) :: .int j :: .ref (i + 3) :: st) ph cc ns) :
    zSd l d y X mc ms XL φ Q pc t (zx_ast ty nx pc t) := by
  obtain ⟨S, H, L, s0, cc, ns⟩ := t
  intro ts hts ρ ph lv st g k0
  have gT := g
  obtain ⟨g1, g2, g3, g4, g5⟩ := g
  unfold zx_ast at hts
  split at hts
  · next v0 j0 a r hst =>
    have hst : s0 = v0 :: j0 :: a :: r := hst
    subst hst
    obtain ⟨vv, st2, rfl, gv, gr2⟩ := zL2.cons1 g4
    obtain ⟨vj, st0, rfl, gj0, gr0⟩ := zL2.cons1 gr2
    obtain ⟨va, st1, rfl, ga, gr⟩ := zL2.cons1 gr0
    have gj := zn_g g1 gj0
    have gv' := zn_g g1 gv
    dsimp only at hts
    generalize hej : zn S j0 = j at *
    split at hts
    · next hI0 =>
      have ea := zg_ref hI0.1 ga
      subst ea
      obtain ⟨x, rfl, ex⟩ := zg_int hI0.2.1 gj
      have hvt := hI0.2.2.2
      rw [z_back3 hI0.2.2.1] at *
      split at hts
      · next c q hc hq =>
        obtain ⟨c', hc', gc⟩ := zL2.get g2 hc
        have bq := zr_in g1 ex hq
        split at hts
        · next h4 =>
          obtain ⟨c1, c2, c3, c4⟩ := h4
          have hin : vp_in x c.2.2.1 := vp_in_iff.mpr ⟨by omega, by omega⟩
          split at hts
          · next hj0 =>
            have hx : x.toInt = j.2 := by rcases ex with ⟨-, e⟩ | ⟨e, -⟩ <;> omega
            have hxn : x.toNatClampNeg = j.2.toNat := by show x.toInt.toNat = _; rw [hx]
            have hel : ∀ (i : Nat) (u : Value), (i = x.toNatClampNeg → zg_V ρ (zn S v0) u) → (i ≠ x.toNatClampNeg → zg_V ρ (zx_el c i) u) → zg_V ρ (zx_el (zx_wr c j.2.toNat (zn S v0)) i) u := by
              intro i u e1 e2
              rw [zx_wr_el]
              split
              · next e => exact e1 (e.trans hxn.symm)
              · next e => exact e2 (fun q => e (q.trans hxn))
            rcases (by omega : ty = 0 ∨ ty = 1 ∨ ty = 2) with e | e | e
            · subst e
              rw [if_neg (by decide)] at hts
              cases hts
              obtain ⟨f, rfl, gf⟩ := zg_CI c1 c2 gc
              obtain ⟨z, rfl, -⟩ := zg_int (by simpa [zx_ty] using hvt) gv
              refine hI rfl hc' hin (k0 _ (List.mem_singleton.mpr rfl) ρ _ lv _ (zLE.refl ρ) ⟨g1, zL2.set ?_ _ g2, g3, gr, g5⟩)
              refine Or.inr (Or.inr (Or.inl ⟨rfl, c2, _, rfl, fun i hi => hel i _ (fun e => ?_) (fun e => ?_)⟩))
              · rw [e]; simp only [upd, if_true]; exact gv'
              · simp only [upd, if_neg e]; exact gf i hi
            · subst e
              rw [if_neg (by decide)] at hts
              cases hts
              obtain ⟨f, rfl, gf⟩ := zg_CJ c1 c2 gc
              obtain ⟨z, rfl, -⟩ := zg_long (by simpa [zx_ty] using hvt) gv
              refine hJ rfl hc' hin (k0 _ (List.mem_singleton.mpr rfl) ρ _ lv _ (zLE.refl ρ) ⟨g1, zL2.set ?_ _ g2, g3, gr, g5⟩)
              refine Or.inr (Or.inr (Or.inr (Or.inl ⟨rfl, c2, _, rfl, fun i hi => hel i _ (fun e => ?_) (fun e => ?_)⟩)))
              · rw [e]; simp only [vp_updL, if_true]; exact gv'
              · simp only [vp_updL, if_neg e]; exact gf i hi
            · subst e
              rw [if_pos rfl] at hts
              split at hts
              · next h5 =>
                split at hts
                · next e he =>
                  obtain ⟨e', he', ge⟩ := zL2.get g2 he
                  split at hts
                  · next h6 =>
                    cases hts
                    obtain ⟨f, rfl, gf⟩ := zg_CO c1 c2 gc
                    obtain ⟨fs, rfl, -⟩ := zg_C0 h6.1 ge
                    rw [h6.2] at he'
                    have ev := zg_ref (by simpa [zx_ty] using hvt) gv
                    subst ev
                    rw [z_back3 h5] at gv' ⊢
                    refine hO rfl hc' he' hin (k0 _ (List.mem_singleton.mpr rfl) ρ _ lv _ (zLE.refl ρ) ⟨g1, zL2.set ?_ _ g2, g3, gr, g5⟩)
                    refine Or.inr (Or.inr (Or.inr (Or.inr ⟨rfl, c2, _, rfl, fun i hi => hel i _ (fun e => ?_) (fun e => ?_)⟩)))
                    · rw [e]; simp only [va_up, if_true]; exact gv'
                    · simp only [va_up, if_neg e]; exact gf i hi
                  · cases hts
                · cases hts
              · cases hts
          · obtain ⟨t', m, gt, e⟩ := zx_again_g hts rfl gT ex
            have := k0 _ m ρ ph lv _ (zLE.refl ρ) gt
            rw [e] at this
            exact this
        · cases hts
      · cases hts
    · cases hts
  · cases hts
end ZO
end
section
/-! PART 11: lengths, new cells, copies, fills. -/
section ZO
variable {l : Launch} {d : Nat} {y : zx_Y} {X : zx_X} {mc ms XL : Nat} {φ : List z_C} {Q : Option Value → List z_C → Prop}
theorem zN_toInt {n : Nat} (h : n < 2147483648) : (Int32.ofNat n).toInt = (n : Int) := Int32.toInt_ofNat_small (by omega)
def zx_len (XL nx : Nat) (t : zA_T) : zA_R := match t.2.2.2.1 with
  | a :: r => if a.1 = 2 then (if a.2.toNat = 2 then (if XL < 2147483648 then some [(nx, zt_st t ((0, (XL : Int)) :: r))] else none)
      else if 3 ≤ a.2.toNat then (match t.2.1[a.2.toNat - 3]? with
        | some c => if c.1 = 1 ∧ c.2.1 < 3 ∧ c.2.2.1 < 2147483648 then some [(nx, zt_st t ((0, (c.2.2.1 : Int)) :: r))] else none
        | none => none) else none) else none
  | [] => none
theorem zo_len {pc nx : Nat} {t : zA_T} (hA : ∀ {lv st ph cc ns} {i k n : Nat} {x : z_S}, k < 3 → ph[i]? = some (.inl (k, n, x)) → ZW l d y X mc ms Q nx lv (.int (Int32.ofNat n) :: st) ph cc ns → ZW l d y X mc ms Q pc lv (.ref (i + 3) :: st) ph cc ns)
    (hX : ∀ {lv st ph cc ns}, ZW l d y X mc ms Q nx lv (.int (Int32.ofNat X.1) :: st) ph cc ns → ZW l d y X mc ms Q pc lv (.ref 2 :: st) ph cc ns) : zSd l d y X mc ms XL φ Q pc t (zx_len XL nx t) := by
  obtain ⟨S, H, L, s0, cc, ns⟩ := t
  intro ts hts ρ ph lv st g k0
  obtain ⟨g1, g2, g3, g4, g5⟩ := g
  unfold zx_len at hts
  split at hts
  · next a r hst =>
    have hst : s0 = a :: r := hst
    subst hst
    obtain ⟨va, st1, rfl, ga, gr⟩ := zL2.cons1 g4
    split at hts
    · next h2 =>
      have ea := zg_ref h2 ga
      subst ea
      split at hts
      · next h3 =>
        split at hts
        · next h4 =>
          cases hts
          rw [h3]
          refine hX (k0 _ (List.mem_singleton.mpr rfl) ρ ph lv _ (zLE.refl ρ) ⟨g1, g2, g3, ⟨zg_ofI ?_, gr⟩, g5⟩)
          rw [g5.1]
          exact zN_toInt h4
        · cases hts
      · split at hts
        · next h3 =>
          rw [z_back3 h3]
          split at hts
          · next c hc =>
            obtain ⟨c', hc', gc⟩ := zL2.get g2 hc
            split at hts
            · next h4 =>
              cases hts
              obtain ⟨c1, c2, c3⟩ := h4
              have hex : ∃ x, c' = .inl (c.2.1, c.2.2.1, x) := by
                rcases (by omega : c.2.1 = 0 ∨ c.2.1 = 1 ∨ c.2.1 = 2) with e | e | e
                · obtain ⟨f, rfl, -⟩ := zg_CI c1 e gc; exact ⟨_, by rw [e]⟩
                · obtain ⟨f, rfl, -⟩ := zg_CJ c1 e gc; exact ⟨_, by rw [e]⟩
                · obtain ⟨f, rfl, -⟩ := zg_CO c1 e gc; exact ⟨_, by rw [e]⟩
              obtain ⟨x, rfl⟩ := hex
              exact hA c2 hc' (k0 _ (List.mem_singleton.mpr rfl) ρ ph lv _ (zLE.refl ρ) ⟨g1, g2, g3, ⟨zg_ofI (zN_toInt c3), gr⟩, g5⟩)
            · cases hts
          · cases hts
        · cases hts
    · cases hts
  · cases hts
/-- a new array of ty (0 int, 1 long, 2 references) -/
def zx_nb (ty : Nat) : zA_V := if ty = 0 then (0, 0) else if ty = 1 then (4, 0) else (3, 0)
def zx_nar (mc ms ty nx : Nat) (t : zA_T) : zA_R := match t.2.2.2.1 with
  | a :: r => if a.1 = 0 ∧ 0 ≤ a.2 ∧ a.2 ≤ 10000 ∧ t.2.2.2.2.1 + 1 ≤ mc ∧ t.2.2.2.2.2 + a.2.toNat ≤ ms then
      some [(nx, (t.1, t.2.1 ++ [(1, ty, a.2.toNat, [zx_nb ty], [])], t.2.2.1, (2, ((t.2.1.length + 3 : Nat) : Int)) :: r, t.2.2.2.2.1 + 1, t.2.2.2.2.2 + a.2.toNat))] else none
  | [] => none
def zx_nc (ty n : Nat) : z_C := if ty = 0 then .inl (0, n, z_I (fun _ => 0)) else if ty = 1 then .inl (1, n, z_J (fun _ => 0)) else .inl (2, n, z_O (fun _ => none))
theorem zx_nc_g (φ : List z_C) (ρ : List Int) {ty : Nat} (hty : ty < 3) (n : Nat) : zg_C φ ρ (1, ty, n, [zx_nb ty], []) (zx_nc ty n) := by
  rcases (by omega : ty = 0 ∨ ty = 1 ∨ ty = 2) with e | e | e <;> subst e
  · exact Or.inr (Or.inr (Or.inl ⟨rfl, rfl, _, rfl, fun j hj => zg_ofI (by decide)⟩))
  · exact Or.inr (Or.inr (Or.inr (Or.inl ⟨rfl, rfl, _, rfl, fun j hj => zg_ofJ (by decide)⟩)))
  · exact Or.inr (Or.inr (Or.inr (Or.inr ⟨rfl, rfl, _, rfl, fun j hj => Or.inr (Or.inr (Or.inr (Or.inl ⟨rfl, rfl⟩)))⟩)))
theorem zo_nar {ty pc nx : Nat} {t : zA_T} (hty : ty < 3) (hs : ∀ {lv st ph cc ns} {n : Int32} {N : Nat}, ¬ n < 0 → n.toNatClampNeg = N → N ≤ 10000 → cc + 1 ≤ mc → ns + N ≤ ms → ZW l d y X mc ms Q nx lv (.ref (ph.length + 3) :: st) (ph ++ [zx_nc ty N]) (cc + 1) (ns + N) → ZW l d y X mc ms Q pc lv (.int n :: st) ph cc ns) : zSd l d y X mc ms XL φ Q pc t (zx_nar mc ms ty nx t) := by
  obtain ⟨S, H, L, s0, cc, ns⟩ := t
  intro ts hts ρ ph lv st g k0
  obtain ⟨g1, g2, g3, g4, g5⟩ := g
  unfold zx_nar at hts
  split at hts
  · next a r hst =>
    have hst : s0 = a :: r := hst
    subst hst
    obtain ⟨va, st1, rfl, ga, gr⟩ := zL2.cons1 g4
    split at hts
    · next h2 =>
      cases hts
      obtain ⟨h1, h2, h3, h4, h5⟩ := h2
      obtain ⟨x, rfl, ex⟩ := zg_int (a := a) (by simp [zIs, h1]) ga
      have hx : x.toInt = a.2 := by rcases ex with ⟨-, e⟩ | ⟨e, -⟩ <;> omega
      have hxn : x.toNatClampNeg = a.2.toNat := by show x.toInt.toNat = _; rw [hx]
      refine hs (fun q => by rw [Int32.lt_iff_toInt_lt, Int32.toInt_zero] at q; omega) hxn (by omega) h4 h5 (k0 _ (List.mem_singleton.mpr rfl) ρ _ lv _ (zLE.refl ρ) ⟨g1, zL2.app (cs := [(1, ty, a.2.toNat, [zx_nb ty], [])]) (ds := [zx_nc ty a.2.toNat]) ⟨zx_nc_g φ ρ hty _, trivial⟩ g2, g3, ⟨?_, gr⟩, g5⟩)
      rw [← zL2.len g2]
      exact zg_ofR
    · cases hts
  · cases hts
/-- a new object -/
def zx_dv (t : FieldType) : zA_V := match t with
  | .object _ => (3, 0)
  | .array _ => (3, 0)
  | .long => (4, 0)
  | .float => (9, 0)
  | .double => (9, 0)
  | _ => (0, 0)
def zx_df (ci : Nat) : List zA_V := match zc[ci]? with
  | some q => (List.range q.2.2).map (fun k => zx_dv (zc_ty q k))
  | none => []
def zx_obj (mc ms ci N nx : Nat) (t : zA_T) : zA_R :=
  if (zx_df ci).length = N ∧ (zx_df ci).all (fun v => !(v.1 == 9)) = true ∧ t.2.2.2.2.1 + 1 ≤ mc ∧ t.2.2.2.2.2 + N ≤ ms then
    some [(nx, (t.1, t.2.1 ++ [(0, ci, 0, zx_df ci, [])], t.2.2.1, (2, ((t.2.1.length + 3 : Nat) : Int)) :: t.2.2.2.1, t.2.2.2.2.1 + 1, t.2.2.2.2.2 + N))] else none
theorem zx_dv_g (ρ : List Int) (t : FieldType) (h : (zx_dv t).1 ≠ 9) : zg_V ρ (zx_dv t) (defaultValue t) := by
  cases t with
  | object n => exact Or.inr (Or.inr (Or.inr (Or.inl ⟨rfl, rfl⟩)))
  | array n => exact Or.inr (Or.inr (Or.inr (Or.inl ⟨rfl, rfl⟩)))
  | long => exact zg_ofJ (by decide)
  | float => exact absurd rfl h
  | double => exact absurd rfl h
  | _ => exact zg_ofI (by decide)
theorem zx_df_g (ρ : List Int) {ci : Nat} {q : vw_C} (hq : zc[ci]? = some q) (h : (zx_df ci).all (fun v => !(v.1 == 9)) = true) : zL2 (zg_V ρ) (zx_df ci) (zc_fs q) := by
  unfold zx_df at h ⊢
  rw [hq] at h ⊢
  dsimp only at h ⊢
  unfold zc_fs
  generalize List.range q.2.2 = ks at h ⊢
  induction ks with
  | nil => exact trivial
  | cons k ks ih =>
    simp only [List.map_cons, List.all_cons, Bool.and_eq_true] at h
    refine ⟨zx_dv_g ρ _ (fun e => ?_), ih h.2⟩
    have := h.1
    rw [e] at this
    simp at this
theorem zo_obj {ci N pc nx : Nat} {t : zA_T} {q : vw_C} (hq : zc[ci]? = some q) (hN : q.2.2 = N) (hs : ∀ {lv st ph cc ns}, cc + 1 ≤ mc → ns + N ≤ ms → ZW l d y X mc ms Q nx lv (.ref (ph.length + 3) :: st) (ph ++ [.inr (ci, zc_fs q)]) (cc + 1) (ns + N) → ZW l d y X mc ms Q pc lv st ph cc ns) : zSd l d y X mc ms XL φ Q pc t (zx_obj mc ms ci N nx t) := by
  obtain ⟨S, H, L, s0, cc, ns⟩ := t
  intro ts hts ρ ph lv st g k0
  obtain ⟨g1, g2, g3, g4, g5⟩ := g
  unfold zx_obj at hts
  split at hts
  · next h =>
    cases hts
    refine hs h.2.2.1 h.2.2.2 (k0 _ (List.mem_singleton.mpr rfl) ρ _ lv _ (zLE.refl ρ) ⟨g1, zL2.app (cs := [(0, ci, 0, zx_df ci, [])]) (ds := [.inr (ci, zc_fs q)]) ⟨Or.inr (Or.inl ⟨rfl, _, rfl, zx_df_g ρ hq h.2.1⟩), trivial⟩ g2, g3, ⟨?_, g4⟩, g5⟩)
    rw [← zL2.len g2]
    exact zg_ofR
  · cases hts
/-- a whole array over another -/
def zx_cpy (ty nx : Nat) (t : zA_T) : zA_R := match t.2.2.2.1 with
  | k :: dp :: rd :: sp :: rs :: r => if k.1 = 0 ∧ dp = (0, 0) ∧ sp = (0, 0) ∧ rd.1 = 2 ∧ rs.1 = 2 ∧ 3 ≤ rd.2.toNat ∧ 3 ≤ rs.2.toNat then
      (match t.2.1[rs.2.toNat - 3]?, t.2.1[rd.2.toNat - 3]? with
        | some c, some e => if c.1 = 1 ∧ e.1 = 1 ∧ c.2.1 = ty ∧ e.2.1 = ty ∧ k.2 = e.2.2.1 ∧ e.2.2.1 ≤ c.2.2.1 then
            some [(nx, zt_H t (t.2.1.set (rd.2.toNat - 3) (1, ty, e.2.2.1, c.2.2.2.1, c.2.2.2.2)) r)] else none
        | _, _ => none) else none
  | _ => none
theorem zo_cpy {ty pc nx : Nat} {t : zA_T} (hty : ty < 2)
    (hI : ∀ {lv st ph cc ns} {i0 i1 n0 n1 : Nat} {f g : Nat → Int32} {sp dp k : Int32}, ty = 0 → ph[i0]? = some (.inl (0, n0, z_I f)) → ph[i1]? = some (.inl (0, n1, z_I g)) → ¬ sp < 0 → ¬ dp < 0 → ¬ k < 0 → sp.toNatClampNeg + k.toNatClampNeg ≤ n0 → dp.toNatClampNeg + k.toNatClampNeg ≤ n1 → ZW l d y X mc ms Q nx lv st (ph.set i1 (.inl (0, n1, z_I (va_cpy f g sp.toNatClampNeg dp.toNatClampNeg k.toNatClampNeg)))) cc ns → ZW l d y X mc ms Q pc lv (.int k :: .int dp :: .ref (i1 + 3) :: .int sp :: .ref (i0 + 3) :: st) ph cc ns)
    (hJ : ∀ {lv st ph cc ns} {i0 i1 n0 n1 : Nat} {f g : Nat → Int64} {sp dp k : Int32}, ty = 1 → ph[i0]? = some (.inl (1, n0, z_J f)) → ph[i1]? = some (.inl (1, n1, z_J g)) → ¬ sp < 0 → ¬ dp < 0 → ¬ k < 0 → sp.toNatClampNeg + k.toNatClampNeg ≤ n0 → dp.toNatClampNeg + k.toNatClampNeg ≤ n1 → ZW l d y X mc ms Q nx lv st (ph.set i1 (.inl (1, n1, z_J (va_cpy f g sp.toNatClampNeg dp.toNatClampNeg k.toNatClampNeg)))) cc ns → ZW l d y X mc ms Q pc lv (.int k :: .int dp :: .ref (i1 + 3) :: .int sp :: .ref (i0 + 3) :: st) ph cc ns) :
    zSd l d y X mc ms XL φ Q pc t (zx_cpy ty nx t) := by
  obtain ⟨S, H, L, s0, cc, ns⟩ := t
  intro ts hts ρ ph lv st g k0
  obtain ⟨g1, g2, g3, g4, g5⟩ := g
  unfold zx_cpy at hts
  split at hts
  · next k dp rd sp rs r hst =>
    have hst : s0 = k :: dp :: rd :: sp :: rs :: r := hst
    subst hst
    obtain ⟨vk, st1, rfl, gk, gr1⟩ := zL2.cons1 g4
    obtain ⟨vd, st2, rfl, gd, gr2⟩ := zL2.cons1 gr1
    obtain ⟨vrd, st3, rfl, grd, gr3⟩ := zL2.cons1 gr2
    obtain ⟨vs, st4, rfl, gs, gr4⟩ := zL2.cons1 gr3
    obtain ⟨vrs, st5, rfl, grs, gr⟩ := zL2.cons1 gr4
    split at hts
    · next h =>
      obtain ⟨h1, rfl, rfl, h4, h5, h6, h7⟩ := h
      have e1 := zg_ref h4 grd
      have e2 := zg_ref h5 grs
      subst e1 e2
      rw [z_back3 h6, z_back3 h7]
      obtain ⟨xk, rfl, exk⟩ := zg_int (a := k) (by simp [zIs, h1]) gk
      obtain ⟨xd, rfl, exd⟩ := zg_int (a := (0, 0)) rfl gd
      obtain ⟨xs, rfl, exs⟩ := zg_int (a := (0, 0)) rfl gs
      have hk : xk.toInt = k.2 := by rcases exk with ⟨-, e⟩ | ⟨e, -⟩ <;> omega
      have hd : xd.toInt = 0 := by rcases exd with ⟨-, e⟩ | ⟨e, -⟩; exact e; exact absurd e (by decide)
      have hs : xs.toInt = 0 := by rcases exs with ⟨-, e⟩ | ⟨e, -⟩; exact e; exact absurd e (by decide)
      have hkn : xk.toNatClampNeg = k.2.toNat := by show xk.toInt.toNat = _; rw [hk]
      have hdn : xd.toNatClampNeg = 0 := by show xd.toInt.toNat = _; rw [hd]; rfl
      have hsn : xs.toNatClampNeg = 0 := by show xs.toInt.toNat = _; rw [hs]; rfl
      have nneg : ∀ z : Int32, 0 ≤ z.toInt → ¬ z < 0 := fun z hz q => by rw [Int32.lt_iff_toInt_lt, Int32.toInt_zero] at q; omega
      split at hts
      · next c e hc he =>
        obtain ⟨c', hc', gc⟩ := zL2.get g2 hc
        obtain ⟨e', he', ge⟩ := zL2.get g2 he
        split at hts
        · next hh =>
          cases hts
          obtain ⟨c1, e1, c2, e2, hke, hle⟩ := hh
          rcases (by omega : ty = 0 ∨ ty = 1) with e | e
          · subst e
            obtain ⟨f, rfl, gf⟩ := zg_CI c1 c2 gc
            obtain ⟨f2, rfl, gf2⟩ := zg_CI e1 e2 ge
            refine hI rfl hc' he' (nneg _ (by omega)) (nneg _ (by omega)) (nneg _ (by omega)) (by omega) (by omega) (k0 _ (List.mem_singleton.mpr rfl) ρ _ lv _ (zLE.refl ρ) ⟨g1, zL2.set ?_ _ g2, g3, gr, g5⟩)
            refine Or.inr (Or.inr (Or.inl ⟨rfl, rfl, _, rfl, fun j hj => ?_⟩))
            have hj : j < e.2.2.1 := hj
            have ev : va_cpy f f2 xs.toNatClampNeg xd.toNatClampNeg xk.toNatClampNeg j = f j := by
              unfold va_cpy
              rw [hdn, hsn, hkn, if_pos ⟨Nat.zero_le _, by omega⟩]
              congr 1
              omega
            rw [ev]
            exact gf j (by omega)
          · subst e
            obtain ⟨f, rfl, gf⟩ := zg_CJ c1 c2 gc
            obtain ⟨f2, rfl, gf2⟩ := zg_CJ e1 e2 ge
            refine hJ rfl hc' he' (nneg _ (by omega)) (nneg _ (by omega)) (nneg _ (by omega)) (by omega) (by omega) (k0 _ (List.mem_singleton.mpr rfl) ρ _ lv _ (zLE.refl ρ) ⟨g1, zL2.set ?_ _ g2, g3, gr, g5⟩)
            refine Or.inr (Or.inr (Or.inr (Or.inl ⟨rfl, rfl, _, rfl, fun j hj => ?_⟩)))
            have hj : j < e.2.2.1 := hj
            have ev : va_cpy f f2 xs.toNatClampNeg xd.toNatClampNeg xk.toNatClampNeg j = f j := by
              unfold va_cpy
              rw [hdn, hsn, hkn, if_pos ⟨Nat.zero_le _, by omega⟩]
              congr 1
              omega
            rw [ev]
            exact gf j (by omega)
        · cases hts
      · cases hts
    · cases hts
  · cases hts
/-- an array filled with one value -/
def zx_fil (ty nx : Nat) (t : zA_T) : zA_R := match t.2.2.2.1 with
  | v :: a :: r => if a.1 = 2 ∧ 3 ≤ a.2.toNat ∧ zx_ty ty v = true then
      (match t.2.1[a.2.toNat - 3]? with
        | some c => if c.1 = 1 ∧ c.2.1 = ty ∧ c.2.2.1 < 2147483648 then some [(nx, zt_H t (t.2.1.set (a.2.toNat - 3) (1, ty, c.2.2.1, [zn t.1 v], [])) r)] else none
        | none => none) else none
  | _ => none
theorem zo_fil {ty pc nx : Nat} {t : zA_T} (hty : ty < 2)
    (hI : ∀ {lv st ph cc ns} {i n : Nat} {f : Nat → Int32} {x : Int32}, ty = 0 → ph[i]? = some (.inl (0, n, z_I f)) → n < 2147483648 → (∀ f' : Nat → Int32, (∀ j, j < n → f' j = x) → ZW l d y X mc ms Q nx lv st (ph.set i (.inl (0, n, z_I f'))) cc ns) → ZW l d y X mc ms Q pc lv (.int x :: .ref (i + 3) :: st) ph cc ns)
    (hJ : ∀ {lv st ph cc ns} {i n : Nat} {f : Nat → Int64} {x : Int64}, ty = 1 → ph[i]? = some (.inl (1, n, z_J f)) → n < 2147483648 → (∀ f' : Nat → Int64, (∀ j, j < n → f' j = x) → ZW l d y X mc ms Q nx lv st (ph.set i (.inl (1, n, z_J f'))) cc ns) → ZW l d y X mc ms Q pc lv (.long x :: .ref (i + 3) :: st) ph cc ns) :
    zSd l d y X mc ms XL φ Q pc t (zx_fil ty nx t) := by
  obtain ⟨S, H, L, s0, cc, ns⟩ := t
  intro ts hts ρ ph lv st g k0
  obtain ⟨g1, g2, g3, g4, g5⟩ := g
  unfold zx_fil at hts
  split at hts
  · next v a r hst =>
    have hst : s0 = v :: a :: r := hst
    subst hst
    obtain ⟨vv, st1, rfl, gv, gr1⟩ := zL2.cons1 g4
    obtain ⟨va, st2, rfl, ga, gr⟩ := zL2.cons1 gr1
    split at hts
    · next h =>
      obtain ⟨h1, h2, h3⟩ := h
      have e1 := zg_ref h1 ga
      subst e1
      rw [z_back3 h2]
      split at hts
      · next c hc =>
        obtain ⟨c', hc', gc⟩ := zL2.get g2 hc
        split at hts
        · next hh =>
          cases hts
          obtain ⟨c1, c2, c3⟩ := hh
          rcases (by omega : ty = 0 ∨ ty = 1) with e | e
          · subst e
            obtain ⟨f, rfl, gf⟩ := zg_CI c1 c2 gc
            obtain ⟨x, rfl, -⟩ := zg_int (by simpa [zx_ty] using h3) gv
            refine hI rfl hc' c3 (fun f' hf' => k0 _ (List.mem_singleton.mpr rfl) ρ _ lv _ (zLE.refl ρ) ⟨g1, zL2.set ?_ _ g2, g3, gr, g5⟩)
            refine Or.inr (Or.inr (Or.inl ⟨rfl, rfl, _, rfl, fun j hj => ?_⟩))
            rw [hf' j hj]
            exact zn_g g1 gv
          · subst e
            obtain ⟨f, rfl, gf⟩ := zg_CJ c1 c2 gc
            obtain ⟨x, rfl, -⟩ := zg_long (by simpa [zx_ty] using h3) gv
            refine hJ rfl hc' c3 (fun f' hf' => k0 _ (List.mem_singleton.mpr rfl) ρ _ lv _ (zLE.refl ρ) ⟨g1, zL2.set ?_ _ g2, g3, gr, g5⟩)
            refine Or.inr (Or.inr (Or.inr (Or.inl ⟨rfl, rfl, _, rfl, fun j hj => ?_⟩)))
            rw [hf' j hj]
            exact zn_g g1 gv
        · cases hts
      · cases hts
    · cases hts
  · cases hts
/-- Object.<init> -/
def zx_oin (nx : Nat) (t : zA_T) : zA_R := match t.2.2.2.1 with
  | a :: r => if a.1 = 2 ∧ (r.map zcat).sum ≤ 8 then some [(nx, zt_st t r)] else none
  | [] => none
theorem zg_cats {ρ : List Int} : ∀ {r : List zA_V} {st : List Value}, zL2 (zg_V ρ) r st → st.map (fun v => v.category) = r.map zcat
  | [], [], _ => rfl
  | a :: r, v :: st, h => by rw [List.map_cons, List.map_cons, zg_cats h.2, zg_cat h.1]; rfl
  | [], _ :: _, h => h.elim
  | _ :: _, [], h => h.elim
theorem zo_oin {pc nx : Nat} {t : zA_T} (hs : ∀ {lv st ph cc ns} {a : Nat}, (st.map (fun v => v.category)).sum ≤ 8 → ZW l d y X mc ms Q nx lv st ph cc ns → ZW l d y X mc ms Q pc lv (.ref a :: st) ph cc ns) : zSd l d y X mc ms XL φ Q pc t (zx_oin nx t) := by
  obtain ⟨S, H, L, s0, cc, ns⟩ := t
  intro ts hts ρ ph lv st g k0
  obtain ⟨g1, g2, g3, g4, g5⟩ := g
  unfold zx_oin at hts
  split at hts
  · next a r hst =>
    have hst : s0 = a :: r := hst
    subst hst
    obtain ⟨va, st1, rfl, ga, gr⟩ := zL2.cons1 g4
    split at hts
    · next h =>
      cases hts
      have e1 := zg_ref h.1 ga
      subst e1
      exact hs (by rw [zg_cats gr]; exact h.2) (k0 _ (List.mem_singleton.mpr rfl) ρ ph lv _ (zLE.refl ρ) ⟨g1, g2, g3, gr, g5⟩)
    · cases hts
  · cases hts
end ZO
end
