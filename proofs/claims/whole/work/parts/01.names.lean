-- ===== PART A: goes FIRST, ahead of the names: the tables' words, and 'selects' of the private methods out of them =====
/-- a private method of a class that the tables say can be made, by its rows of tables_1 -/
def lw_okq (q : MethodName × Nat) : Prop := (q.1.cls ≠ "java/lang/invoke/MethodHandle" ∧ q.1.cls ≠ "java/lang/invoke/VarHandle") ∧ Cond.instantiable q.1.cls q.2 ∈ tables_1 ∧ Cond.privateMethod q.1 ∈ tables_1 ∧ Cond.instanceMethod q.1 ∈ tables_1
theorem lw_p0 : lw_okq (⟨"IceVote", "bad", "()I"⟩, 12) := ⟨⟨by decide +kernel, by decide +kernel⟩, List.mem_of_getElem? (i := 22) (by decide +kernel), List.mem_of_getElem? (i := 240) (by decide +kernel), List.mem_of_getElem? (i := 241) (by decide +kernel)⟩
theorem lw_p1 : lw_okq (⟨"IceVote", "full", "()I"⟩, 12) := ⟨⟨by decide +kernel, by decide +kernel⟩, List.mem_of_getElem? (i := 22) (by decide +kernel), List.mem_of_getElem? (i := 316) (by decide +kernel), List.mem_of_getElem? (i := 317) (by decide +kernel)⟩
theorem lw_p2 : lw_okq (⟨"IceVote$Text", "findTokens", "()V"⟩, 6) := ⟨⟨by decide +kernel, by decide +kernel⟩, List.mem_of_getElem? (i := 169) (by decide +kernel), List.mem_of_getElem? (i := 346) (by decide +kernel), List.mem_of_getElem? (i := 347) (by decide +kernel)⟩
theorem lw_p3 : lw_okq (⟨"IceVote$Text", "endOfRun", "(III)I"⟩, 6) := ⟨⟨by decide +kernel, by decide +kernel⟩, List.mem_of_getElem? (i := 169) (by decide +kernel), List.mem_of_getElem? (i := 350) (by decide +kernel), List.mem_of_getElem? (i := 351) (by decide +kernel)⟩
theorem lw_p4 : lw_okq (⟨"IceVote$Text", "byteAt", "(I)I"⟩, 6) := ⟨⟨by decide +kernel, by decide +kernel⟩, List.mem_of_getElem? (i := 169) (by decide +kernel), List.mem_of_getElem? (i := 354) (by decide +kernel), List.mem_of_getElem? (i := 355) (by decide +kernel)⟩
theorem lw_p5 : lw_okq (⟨"IceVote$Text", "endOfToken", "(I)I"⟩, 6) := ⟨⟨by decide +kernel, by decide +kernel⟩, List.mem_of_getElem? (i := 169) (by decide +kernel), List.mem_of_getElem? (i := 358) (by decide +kernel), List.mem_of_getElem? (i := 359) (by decide +kernel)⟩
theorem lw_p6 : lw_okq (⟨"IceVote$Text", "tokenIn", "(II)I"⟩, 6) := ⟨⟨by decide +kernel, by decide +kernel⟩, List.mem_of_getElem? (i := 169) (by decide +kernel), List.mem_of_getElem? (i := 365) (by decide +kernel), List.mem_of_getElem? (i := 366) (by decide +kernel)⟩
theorem lw_p7 : lw_okq (⟨"IceVote$Text", "wordIn", "(II)I"⟩, 6) := ⟨⟨by decide +kernel, by decide +kernel⟩, List.mem_of_getElem? (i := 169) (by decide +kernel), List.mem_of_getElem? (i := 369) (by decide +kernel), List.mem_of_getElem? (i := 370) (by decide +kernel)⟩
theorem lw_p8 : lw_okq (⟨"IceVote$Text", "isWord", "(Ljava/lang/String;II)Z"⟩, 6) := ⟨⟨by decide +kernel, by decide +kernel⟩, List.mem_of_getElem? (i := 169) (by decide +kernel), List.mem_of_getElem? (i := 374) (by decide +kernel), List.mem_of_getElem? (i := 375) (by decide +kernel)⟩
theorem lw_p9 : lw_okq (⟨"IceVote$Text", "numberIn", "(II)I"⟩, 6) := ⟨⟨by decide +kernel, by decide +kernel⟩, List.mem_of_getElem? (i := 169) (by decide +kernel), List.mem_of_getElem? (i := 429) (by decide +kernel), List.mem_of_getElem? (i := 430) (by decide +kernel)⟩
theorem lw_p10 : lw_okq (⟨"IceVote$Text", "numberComes", "(II)Z"⟩, 6) := ⟨⟨by decide +kernel, by decide +kernel⟩, List.mem_of_getElem? (i := 169) (by decide +kernel), List.mem_of_getElem? (i := 433) (by decide +kernel), List.mem_of_getElem? (i := 434) (by decide +kernel)⟩
theorem lw_p11 : lw_okq (⟨"IceVote$Text", "advance", "()V"⟩, 6) := ⟨⟨by decide +kernel, by decide +kernel⟩, List.mem_of_getElem? (i := 169) (by decide +kernel), List.mem_of_getElem? (i := 437) (by decide +kernel), List.mem_of_getElem? (i := 438) (by decide +kernel)⟩
theorem lw_p12 : lw_okq (⟨"IceVote$Text", "fault", "()I"⟩, 6) := ⟨⟨by decide +kernel, by decide +kernel⟩, List.mem_of_getElem? (i := 169) (by decide +kernel), List.mem_of_getElem? (i := 441) (by decide +kernel), List.mem_of_getElem? (i := 442) (by decide +kernel)⟩
theorem lw_p13 : lw_okq (⟨"IceVote$Text", "stopComes", "()Z"⟩, 6) := ⟨⟨by decide +kernel, by decide +kernel⟩, List.mem_of_getElem? (i := 169) (by decide +kernel), List.mem_of_getElem? (i := 446) (by decide +kernel), List.mem_of_getElem? (i := 447) (by decide +kernel)⟩
theorem lw_p14 : lw_okq (⟨"IceVote$Text", "itemComes", "(LIceVote$Lake;)Z"⟩, 6) := ⟨⟨by decide +kernel, by decide +kernel⟩, List.mem_of_getElem? (i := 169) (by decide +kernel), List.mem_of_getElem? (i := 450) (by decide +kernel), List.mem_of_getElem? (i := 451) (by decide +kernel)⟩
theorem lw_p15 : lw_okq (⟨"IceVote$Text", "cellsCome", "(LIceVote$Sheet;)Z"⟩, 6) := ⟨⟨by decide +kernel, by decide +kernel⟩, List.mem_of_getElem? (i := 169) (by decide +kernel), List.mem_of_getElem? (i := 454) (by decide +kernel), List.mem_of_getElem? (i := 455) (by decide +kernel)⟩
def lw_privs_1 : List (MethodName × Nat) := [(⟨"IceVote", "bad", "()I"⟩, 12), (⟨"IceVote", "full", "()I"⟩, 12), (⟨"IceVote$Text", "findTokens", "()V"⟩, 6), (⟨"IceVote$Text", "endOfRun", "(III)I"⟩, 6), (⟨"IceVote$Text", "byteAt", "(I)I"⟩, 6), (⟨"IceVote$Text", "endOfToken", "(I)I"⟩, 6), (⟨"IceVote$Text", "tokenIn", "(II)I"⟩, 6), (⟨"IceVote$Text", "wordIn", "(II)I"⟩, 6), (⟨"IceVote$Text", "isWord", "(Ljava/lang/String;II)Z"⟩, 6), (⟨"IceVote$Text", "numberIn", "(II)I"⟩, 6), (⟨"IceVote$Text", "numberComes", "(II)Z"⟩, 6), (⟨"IceVote$Text", "advance", "()V"⟩, 6), (⟨"IceVote$Text", "fault", "()I"⟩, 6), (⟨"IceVote$Text", "stopComes", "()Z"⟩, 6), (⟨"IceVote$Text", "itemComes", "(LIceVote$Lake;)Z"⟩, 6), (⟨"IceVote$Text", "cellsCome", "(LIceVote$Sheet;)Z"⟩, 6)]
theorem lw_r1 : ∀ q ∈ lw_privs_1, lw_okq q := List.forall_mem_cons.mpr ⟨lw_p0, List.forall_mem_cons.mpr ⟨lw_p1, List.forall_mem_cons.mpr ⟨lw_p2, List.forall_mem_cons.mpr ⟨lw_p3, List.forall_mem_cons.mpr ⟨lw_p4, List.forall_mem_cons.mpr ⟨lw_p5, List.forall_mem_cons.mpr ⟨lw_p6, List.forall_mem_cons.mpr ⟨lw_p7, List.forall_mem_cons.mpr ⟨lw_p8, List.forall_mem_cons.mpr ⟨lw_p9, List.forall_mem_cons.mpr ⟨lw_p10, List.forall_mem_cons.mpr ⟨lw_p11, List.forall_mem_cons.mpr ⟨lw_p12, List.forall_mem_cons.mpr ⟨lw_p13, List.forall_mem_cons.mpr ⟨lw_p14, List.forall_mem_cons.mpr ⟨lw_p15, fun _ h => absurd h List.not_mem_nil⟩⟩⟩⟩⟩⟩⟩⟩⟩⟩⟩⟩⟩⟩⟩⟩
theorem lw_p16 : lw_okq (⟨"IceVote$Text", "pairsCome", "(LIceVote$Week;)Z"⟩, 6) := ⟨⟨by decide +kernel, by decide +kernel⟩, List.mem_of_getElem? (i := 169) (by decide +kernel), List.mem_of_getElem? (i := 459) (by decide +kernel), List.mem_of_getElem? (i := 460) (by decide +kernel)⟩
theorem lw_p17 : lw_okq (⟨"IceVote$Text", "voterComes", "(LIceVote$Voters;)Z"⟩, 6) := ⟨⟨by decide +kernel, by decide +kernel⟩, List.mem_of_getElem? (i := 169) (by decide +kernel), List.mem_of_getElem? (i := 464) (by decide +kernel), List.mem_of_getElem? (i := 465) (by decide +kernel)⟩
theorem lw_p18 : lw_okq (⟨"IceVote$Past", "dropOldest", "()V"⟩, 3) := ⟨⟨by decide +kernel, by decide +kernel⟩, List.mem_of_getElem? (i := 100) (by decide +kernel), List.mem_of_getElem? (i := 514) (by decide +kernel), List.mem_of_getElem? (i := 515) (by decide +kernel)⟩
theorem lw_p19 : lw_okq (⟨"IceVote", "no", "()I"⟩, 12) := ⟨⟨by decide +kernel, by decide +kernel⟩, List.mem_of_getElem? (i := 22) (by decide +kernel), List.mem_of_getElem? (i := 577) (by decide +kernel), List.mem_of_getElem? (i := 578) (by decide +kernel)⟩
theorem lw_p20 : lw_okq (⟨"IceVote", "isVoter", "(I)Z"⟩, 12) := ⟨⟨by decide +kernel, by decide +kernel⟩, List.mem_of_getElem? (i := 22) (by decide +kernel), List.mem_of_getElem? (i := 593) (by decide +kernel), List.mem_of_getElem? (i := 594) (by decide +kernel)⟩
theorem lw_p21 : lw_okq (⟨"IceVote", "yesNow", "()I"⟩, 12) := ⟨⟨by decide +kernel, by decide +kernel⟩, List.mem_of_getElem? (i := 22) (by decide +kernel), List.mem_of_getElem? (i := 609) (by decide +kernel), List.mem_of_getElem? (i := 610) (by decide +kernel)⟩
theorem lw_p22 : lw_okq (⟨"IceVote$Ways", "measure", "(III)I"⟩, 2) := ⟨⟨by decide +kernel, by decide +kernel⟩, List.mem_of_getElem? (i := 156) (by decide +kernel), List.mem_of_getElem? (i := 686) (by decide +kernel), List.mem_of_getElem? (i := 687) (by decide +kernel)⟩
theorem lw_p23 : lw_okq (⟨"IceVote$Voters", "heaviest", "()I"⟩, 4) := ⟨⟨by decide +kernel, by decide +kernel⟩, List.mem_of_getElem? (i := 64) (by decide +kernel), List.mem_of_getElem? (i := 738) (by decide +kernel), List.mem_of_getElem? (i := 739) (by decide +kernel)⟩
theorem lw_p24 : lw_okq (⟨"IceVote", "kindsNoted", "(I)I"⟩, 12) := ⟨⟨by decide +kernel, by decide +kernel⟩, List.mem_of_getElem? (i := 22) (by decide +kernel), List.mem_of_getElem? (i := 803) (by decide +kernel), List.mem_of_getElem? (i := 804) (by decide +kernel)⟩
theorem lw_p25 : lw_okq (⟨"IceVote", "fitsNotes", "(II)Z"⟩, 12) := ⟨⟨by decide +kernel, by decide +kernel⟩, List.mem_of_getElem? (i := 22) (by decide +kernel), List.mem_of_getElem? (i := 807) (by decide +kernel), List.mem_of_getElem? (i := 808) (by decide +kernel)⟩
theorem lw_p26 : lw_okq (⟨"IceVote", "mostAlike", "(IIII)I"⟩, 12) := ⟨⟨by decide +kernel, by decide +kernel⟩, List.mem_of_getElem? (i := 22) (by decide +kernel), List.mem_of_getElem? (i := 820) (by decide +kernel), List.mem_of_getElem? (i := 821) (by decide +kernel)⟩
theorem lw_p27 : lw_okq (⟨"IceVote", "fitsPolls", "(II)Z"⟩, 12) := ⟨⟨by decide +kernel, by decide +kernel⟩, List.mem_of_getElem? (i := 22) (by decide +kernel), List.mem_of_getElem? (i := 828) (by decide +kernel), List.mem_of_getElem? (i := 829) (by decide +kernel)⟩
theorem lw_p28 : lw_okq (⟨"IceVote", "passNight", "(III)V"⟩, 12) := ⟨⟨by decide +kernel, by decide +kernel⟩, List.mem_of_getElem? (i := 22) (by decide +kernel), List.mem_of_getElem? (i := 851) (by decide +kernel), List.mem_of_getElem? (i := 852) (by decide +kernel)⟩
theorem lw_p29 : lw_okq (⟨"IceVote", "keepFraction", "(JJ)V"⟩, 12) := ⟨⟨by decide +kernel, by decide +kernel⟩, List.mem_of_getElem? (i := 22) (by decide +kernel), List.mem_of_getElem? (i := 857) (by decide +kernel), List.mem_of_getElem? (i := 858) (by decide +kernel)⟩
theorem lw_p30 : lw_okq (⟨"IceVote", "amount", "(I)I"⟩, 12) := ⟨⟨by decide +kernel, by decide +kernel⟩, List.mem_of_getElem? (i := 22) (by decide +kernel), List.mem_of_getElem? (i := 891) (by decide +kernel), List.mem_of_getElem? (i := 892) (by decide +kernel)⟩
theorem lw_p31 : lw_okq (⟨"IceVoteModel", "bad", "(I)I"⟩, 16) := ⟨⟨by decide +kernel, by decide +kernel⟩, List.mem_of_getElem? (i := 911) (by decide +kernel), List.mem_of_getElem? (i := 981) (by decide +kernel), List.mem_of_getElem? (i := 982) (by decide +kernel)⟩
def lw_privs_2 : List (MethodName × Nat) := [(⟨"IceVote$Text", "pairsCome", "(LIceVote$Week;)Z"⟩, 6), (⟨"IceVote$Text", "voterComes", "(LIceVote$Voters;)Z"⟩, 6), (⟨"IceVote$Past", "dropOldest", "()V"⟩, 3), (⟨"IceVote", "no", "()I"⟩, 12), (⟨"IceVote", "isVoter", "(I)Z"⟩, 12), (⟨"IceVote", "yesNow", "()I"⟩, 12), (⟨"IceVote$Ways", "measure", "(III)I"⟩, 2), (⟨"IceVote$Voters", "heaviest", "()I"⟩, 4), (⟨"IceVote", "kindsNoted", "(I)I"⟩, 12), (⟨"IceVote", "fitsNotes", "(II)Z"⟩, 12), (⟨"IceVote", "mostAlike", "(IIII)I"⟩, 12), (⟨"IceVote", "fitsPolls", "(II)Z"⟩, 12), (⟨"IceVote", "passNight", "(III)V"⟩, 12), (⟨"IceVote", "keepFraction", "(JJ)V"⟩, 12), (⟨"IceVote", "amount", "(I)I"⟩, 12), (⟨"IceVoteModel", "bad", "(I)I"⟩, 16)]
theorem lw_r2 : ∀ q ∈ lw_privs_2, lw_okq q := List.forall_mem_cons.mpr ⟨lw_p16, List.forall_mem_cons.mpr ⟨lw_p17, List.forall_mem_cons.mpr ⟨lw_p18, List.forall_mem_cons.mpr ⟨lw_p19, List.forall_mem_cons.mpr ⟨lw_p20, List.forall_mem_cons.mpr ⟨lw_p21, List.forall_mem_cons.mpr ⟨lw_p22, List.forall_mem_cons.mpr ⟨lw_p23, List.forall_mem_cons.mpr ⟨lw_p24, List.forall_mem_cons.mpr ⟨lw_p25, List.forall_mem_cons.mpr ⟨lw_p26, List.forall_mem_cons.mpr ⟨lw_p27, List.forall_mem_cons.mpr ⟨lw_p28, List.forall_mem_cons.mpr ⟨lw_p29, List.forall_mem_cons.mpr ⟨lw_p30, List.forall_mem_cons.mpr ⟨lw_p31, fun _ h => absurd h List.not_mem_nil⟩⟩⟩⟩⟩⟩⟩⟩⟩⟩⟩⟩⟩⟩⟩⟩
theorem lw_p32 : lw_okq (⟨"IceVoteModel", "many", "()I"⟩, 16) := ⟨⟨by decide +kernel, by decide +kernel⟩, List.mem_of_getElem? (i := 911) (by decide +kernel), List.mem_of_getElem? (i := 985) (by decide +kernel), List.mem_of_getElem? (i := 986) (by decide +kernel)⟩
theorem lw_p33 : lw_okq (⟨"IceVoteModel", "full", "()I"⟩, 16) := ⟨⟨by decide +kernel, by decide +kernel⟩, List.mem_of_getElem? (i := 911) (by decide +kernel), List.mem_of_getElem? (i := 1016) (by decide +kernel), List.mem_of_getElem? (i := 1017) (by decide +kernel)⟩
theorem lw_p34 : lw_okq (⟨"IceVoteModel", "keep", "()V"⟩, 16) := ⟨⟨by decide +kernel, by decide +kernel⟩, List.mem_of_getElem? (i := 911) (by decide +kernel), List.mem_of_getElem? (i := 1028) (by decide +kernel), List.mem_of_getElem? (i := 1029) (by decide +kernel)⟩
theorem lw_p35 : lw_okq (⟨"IceVoteModel", "layIce", "()V"⟩, 16) := ⟨⟨by decide +kernel, by decide +kernel⟩, List.mem_of_getElem? (i := 911) (by decide +kernel), List.mem_of_getElem? (i := 1032) (by decide +kernel), List.mem_of_getElem? (i := 1033) (by decide +kernel)⟩
theorem lw_p36 : lw_okq (⟨"IceVoteModel", "goDays", "(I)V"⟩, 16) := ⟨⟨by decide +kernel, by decide +kernel⟩, List.mem_of_getElem? (i := 911) (by decide +kernel), List.mem_of_getElem? (i := 1036) (by decide +kernel), List.mem_of_getElem? (i := 1037) (by decide +kernel)⟩
theorem lw_p37 : lw_okq (⟨"IceVoteModel", "goDay", "(II)V"⟩, 16) := ⟨⟨by decide +kernel, by decide +kernel⟩, List.mem_of_getElem? (i := 911) (by decide +kernel), List.mem_of_getElem? (i := 1040) (by decide +kernel), List.mem_of_getElem? (i := 1041) (by decide +kernel)⟩
theorem lw_p38 : lw_okq (⟨"IceVoteModel", "kindOf", "(I)I"⟩, 16) := ⟨⟨by decide +kernel, by decide +kernel⟩, List.mem_of_getElem? (i := 911) (by decide +kernel), List.mem_of_getElem? (i := 1044) (by decide +kernel), List.mem_of_getElem? (i := 1045) (by decide +kernel)⟩
theorem lw_p39 : lw_okq (⟨"IceVoteModel", "allIce", "()I"⟩, 16) := ⟨⟨by decide +kernel, by decide +kernel⟩, List.mem_of_getElem? (i := 911) (by decide +kernel), List.mem_of_getElem? (i := 1057) (by decide +kernel), List.mem_of_getElem? (i := 1058) (by decide +kernel)⟩
theorem lw_p40 : lw_okq (⟨"IceVoteModel", "no", "()I"⟩, 16) := ⟨⟨by decide +kernel, by decide +kernel⟩, List.mem_of_getElem? (i := 911) (by decide +kernel), List.mem_of_getElem? (i := 1076) (by decide +kernel), List.mem_of_getElem? (i := 1077) (by decide +kernel)⟩
theorem lw_p41 : lw_okq (⟨"IceVoteModel", "isVoter", "(I)Z"⟩, 16) := ⟨⟨by decide +kernel, by decide +kernel⟩, List.mem_of_getElem? (i := 911) (by decide +kernel), List.mem_of_getElem? (i := 1089) (by decide +kernel), List.mem_of_getElem? (i := 1090) (by decide +kernel)⟩
theorem lw_p42 : lw_okq (⟨"IceVoteModel", "frostNow", "()I"⟩, 16) := ⟨⟨by decide +kernel, by decide +kernel⟩, List.mem_of_getElem? (i := 911) (by decide +kernel), List.mem_of_getElem? (i := 1093) (by decide +kernel), List.mem_of_getElem? (i := 1094) (by decide +kernel)⟩
theorem lw_p43 : lw_okq (⟨"IceVoteModel", "votesYes", "(II)Z"⟩, 16) := ⟨⟨by decide +kernel, by decide +kernel⟩, List.mem_of_getElem? (i := 911) (by decide +kernel), List.mem_of_getElem? (i := 1097) (by decide +kernel), List.mem_of_getElem? (i := 1098) (by decide +kernel)⟩
theorem lw_p44 : lw_okq (⟨"IceVoteModel", "bears", "(I)I"⟩, 16) := ⟨⟨by decide +kernel, by decide +kernel⟩, List.mem_of_getElem? (i := 911) (by decide +kernel), List.mem_of_getElem? (i := 1101) (by decide +kernel), List.mem_of_getElem? (i := 1102) (by decide +kernel)⟩
theorem lw_p45 : lw_okq (⟨"IceVoteModel", "leastBeside", "(I)I"⟩, 16) := ⟨⟨by decide +kernel, by decide +kernel⟩, List.mem_of_getElem? (i := 911) (by decide +kernel), List.mem_of_getElem? (i := 1105) (by decide +kernel), List.mem_of_getElem? (i := 1106) (by decide +kernel)⟩
theorem lw_p46 : lw_okq (⟨"IceVoteModel", "goOne", "(I)V"⟩, 16) := ⟨⟨by decide +kernel, by decide +kernel⟩, List.mem_of_getElem? (i := 911) (by decide +kernel), List.mem_of_getElem? (i := 1128) (by decide +kernel), List.mem_of_getElem? (i := 1129) (by decide +kernel)⟩
theorem lw_p47 : lw_okq (⟨"IceVoteModel", "layFar", "(III)V"⟩, 16) := ⟨⟨by decide +kernel, by decide +kernel⟩, List.mem_of_getElem? (i := 911) (by decide +kernel), List.mem_of_getElem? (i := 1144) (by decide +kernel), List.mem_of_getElem? (i := 1145) (by decide +kernel)⟩
def lw_privs_3 : List (MethodName × Nat) := [(⟨"IceVoteModel", "many", "()I"⟩, 16), (⟨"IceVoteModel", "full", "()I"⟩, 16), (⟨"IceVoteModel", "keep", "()V"⟩, 16), (⟨"IceVoteModel", "layIce", "()V"⟩, 16), (⟨"IceVoteModel", "goDays", "(I)V"⟩, 16), (⟨"IceVoteModel", "goDay", "(II)V"⟩, 16), (⟨"IceVoteModel", "kindOf", "(I)I"⟩, 16), (⟨"IceVoteModel", "allIce", "()I"⟩, 16), (⟨"IceVoteModel", "no", "()I"⟩, 16), (⟨"IceVoteModel", "isVoter", "(I)Z"⟩, 16), (⟨"IceVoteModel", "frostNow", "()I"⟩, 16), (⟨"IceVoteModel", "votesYes", "(II)Z"⟩, 16), (⟨"IceVoteModel", "bears", "(I)I"⟩, 16), (⟨"IceVoteModel", "leastBeside", "(I)I"⟩, 16), (⟨"IceVoteModel", "goOne", "(I)V"⟩, 16), (⟨"IceVoteModel", "layFar", "(III)V"⟩, 16)]
theorem lw_r3 : ∀ q ∈ lw_privs_3, lw_okq q := List.forall_mem_cons.mpr ⟨lw_p32, List.forall_mem_cons.mpr ⟨lw_p33, List.forall_mem_cons.mpr ⟨lw_p34, List.forall_mem_cons.mpr ⟨lw_p35, List.forall_mem_cons.mpr ⟨lw_p36, List.forall_mem_cons.mpr ⟨lw_p37, List.forall_mem_cons.mpr ⟨lw_p38, List.forall_mem_cons.mpr ⟨lw_p39, List.forall_mem_cons.mpr ⟨lw_p40, List.forall_mem_cons.mpr ⟨lw_p41, List.forall_mem_cons.mpr ⟨lw_p42, List.forall_mem_cons.mpr ⟨lw_p43, List.forall_mem_cons.mpr ⟨lw_p44, List.forall_mem_cons.mpr ⟨lw_p45, List.forall_mem_cons.mpr ⟨lw_p46, List.forall_mem_cons.mpr ⟨lw_p47, fun _ h => absurd h List.not_mem_nil⟩⟩⟩⟩⟩⟩⟩⟩⟩⟩⟩⟩⟩⟩⟩⟩
theorem lw_p48 : lw_okq (⟨"IceVoteModel", "layNearer", "(I)Z"⟩, 16) := ⟨⟨by decide +kernel, by decide +kernel⟩, List.mem_of_getElem? (i := 911) (by decide +kernel), List.mem_of_getElem? (i := 1151) (by decide +kernel), List.mem_of_getElem? (i := 1152) (by decide +kernel)⟩
theorem lw_p49 : lw_okq (⟨"IceVoteModel", "nextOf", "(I)I"⟩, 16) := ⟨⟨by decide +kernel, by decide +kernel⟩, List.mem_of_getElem? (i := 911) (by decide +kernel), List.mem_of_getElem? (i := 1155) (by decide +kernel), List.mem_of_getElem? (i := 1156) (by decide +kernel)⟩
theorem lw_p50 : lw_okq (⟨"IceVoteModel", "partsOf", "(III)I"⟩, 16) := ⟨⟨by decide +kernel, by decide +kernel⟩, List.mem_of_getElem? (i := 911) (by decide +kernel), List.mem_of_getElem? (i := 1171) (by decide +kernel), List.mem_of_getElem? (i := 1172) (by decide +kernel)⟩
theorem lw_p51 : lw_okq (⟨"IceVoteModel", "isParted", "(IIII)Z"⟩, 16) := ⟨⟨by decide +kernel, by decide +kernel⟩, List.mem_of_getElem? (i := 911) (by decide +kernel), List.mem_of_getElem? (i := 1175) (by decide +kernel), List.mem_of_getElem? (i := 1176) (by decide +kernel)⟩
theorem lw_p52 : lw_okq (⟨"IceVoteModel", "yesOf", "(I)I"⟩, 16) := ⟨⟨by decide +kernel, by decide +kernel⟩, List.mem_of_getElem? (i := 911) (by decide +kernel), List.mem_of_getElem? (i := 1183) (by decide +kernel), List.mem_of_getElem? (i := 1184) (by decide +kernel)⟩
theorem lw_p53 : lw_okq (⟨"IceVoteModel", "wetOf", "(I)I"⟩, 16) := ⟨⟨by decide +kernel, by decide +kernel⟩, List.mem_of_getElem? (i := 911) (by decide +kernel), List.mem_of_getElem? (i := 1187) (by decide +kernel), List.mem_of_getElem? (i := 1188) (by decide +kernel)⟩
theorem lw_p54 : lw_okq (⟨"IceVoteModel", "isCarried", "(I)Z"⟩, 16) := ⟨⟨by decide +kernel, by decide +kernel⟩, List.mem_of_getElem? (i := 911) (by decide +kernel), List.mem_of_getElem? (i := 1191) (by decide +kernel), List.mem_of_getElem? (i := 1192) (by decide +kernel)⟩
theorem lw_p55 : lw_okq (⟨"IceVoteModel", "heaviest", "()I"⟩, 16) := ⟨⟨by decide +kernel, by decide +kernel⟩, List.mem_of_getElem? (i := 911) (by decide +kernel), List.mem_of_getElem? (i := 1198) (by decide +kernel), List.mem_of_getElem? (i := 1199) (by decide +kernel)⟩
theorem lw_p56 : lw_okq (⟨"IceVoteModel", "bearsIt", "(I)Z"⟩, 16) := ⟨⟨by decide +kernel, by decide +kernel⟩, List.mem_of_getElem? (i := 911) (by decide +kernel), List.mem_of_getElem? (i := 1202) (by decide +kernel), List.mem_of_getElem? (i := 1203) (by decide +kernel)⟩
theorem lw_p57 : lw_okq (⟨"IceVoteModel", "kindsOf", "(I)I"⟩, 16) := ⟨⟨by decide +kernel, by decide +kernel⟩, List.mem_of_getElem? (i := 911) (by decide +kernel), List.mem_of_getElem? (i := 1238) (by decide +kernel), List.mem_of_getElem? (i := 1239) (by decide +kernel)⟩
theorem lw_p58 : lw_okq (⟨"IceVoteModel", "hasBy", "(II)I"⟩, 16) := ⟨⟨by decide +kernel, by decide +kernel⟩, List.mem_of_getElem? (i := 911) (by decide +kernel), List.mem_of_getElem? (i := 1254) (by decide +kernel), List.mem_of_getElem? (i := 1255) (by decide +kernel)⟩
theorem lw_p59 : lw_okq (⟨"IceVoteModel", "fraction", "(JJ)V"⟩, 16) := ⟨⟨by decide +kernel, by decide +kernel⟩, List.mem_of_getElem? (i := 911) (by decide +kernel), List.mem_of_getElem? (i := 1264) (by decide +kernel), List.mem_of_getElem? (i := 1265) (by decide +kernel)⟩
theorem lw_p60 : lw_okq (⟨"IceVoteModel", "lookAt", "(I)V"⟩, 16) := ⟨⟨by decide +kernel, by decide +kernel⟩, List.mem_of_getElem? (i := 911) (by decide +kernel), List.mem_of_getElem? (i := 1291) (by decide +kernel), List.mem_of_getElem? (i := 1292) (by decide +kernel)⟩
theorem lw_p61 : lw_okq (⟨"IceVoteModel", "takesLake", "()Z"⟩, 16) := ⟨⟨by decide +kernel, by decide +kernel⟩, List.mem_of_getElem? (i := 911) (by decide +kernel), List.mem_of_getElem? (i := 1305) (by decide +kernel), List.mem_of_getElem? (i := 1306) (by decide +kernel)⟩
theorem lw_p62 : lw_okq (⟨"IceVoteModel", "spells", "(IIIIIII)Z"⟩, 16) := ⟨⟨by decide +kernel, by decide +kernel⟩, List.mem_of_getElem? (i := 911) (by decide +kernel), List.mem_of_getElem? (i := 1309) (by decide +kernel), List.mem_of_getElem? (i := 1310) (by decide +kernel)⟩
theorem lw_p63 : lw_okq (⟨"IceVoteModel", "goBehind", "()V"⟩, 16) := ⟨⟨by decide +kernel, by decide +kernel⟩, List.mem_of_getElem? (i := 911) (by decide +kernel), List.mem_of_getElem? (i := 1313) (by decide +kernel), List.mem_of_getElem? (i := 1314) (by decide +kernel)⟩
def lw_privs_4 : List (MethodName × Nat) := [(⟨"IceVoteModel", "layNearer", "(I)Z"⟩, 16), (⟨"IceVoteModel", "nextOf", "(I)I"⟩, 16), (⟨"IceVoteModel", "partsOf", "(III)I"⟩, 16), (⟨"IceVoteModel", "isParted", "(IIII)Z"⟩, 16), (⟨"IceVoteModel", "yesOf", "(I)I"⟩, 16), (⟨"IceVoteModel", "wetOf", "(I)I"⟩, 16), (⟨"IceVoteModel", "isCarried", "(I)Z"⟩, 16), (⟨"IceVoteModel", "heaviest", "()I"⟩, 16), (⟨"IceVoteModel", "bearsIt", "(I)Z"⟩, 16), (⟨"IceVoteModel", "kindsOf", "(I)I"⟩, 16), (⟨"IceVoteModel", "hasBy", "(II)I"⟩, 16), (⟨"IceVoteModel", "fraction", "(JJ)V"⟩, 16), (⟨"IceVoteModel", "lookAt", "(I)V"⟩, 16), (⟨"IceVoteModel", "takesLake", "()Z"⟩, 16), (⟨"IceVoteModel", "spells", "(IIIIIII)Z"⟩, 16), (⟨"IceVoteModel", "goBehind", "()V"⟩, 16)]
theorem lw_r4 : ∀ q ∈ lw_privs_4, lw_okq q := List.forall_mem_cons.mpr ⟨lw_p48, List.forall_mem_cons.mpr ⟨lw_p49, List.forall_mem_cons.mpr ⟨lw_p50, List.forall_mem_cons.mpr ⟨lw_p51, List.forall_mem_cons.mpr ⟨lw_p52, List.forall_mem_cons.mpr ⟨lw_p53, List.forall_mem_cons.mpr ⟨lw_p54, List.forall_mem_cons.mpr ⟨lw_p55, List.forall_mem_cons.mpr ⟨lw_p56, List.forall_mem_cons.mpr ⟨lw_p57, List.forall_mem_cons.mpr ⟨lw_p58, List.forall_mem_cons.mpr ⟨lw_p59, List.forall_mem_cons.mpr ⟨lw_p60, List.forall_mem_cons.mpr ⟨lw_p61, List.forall_mem_cons.mpr ⟨lw_p62, List.forall_mem_cons.mpr ⟨lw_p63, fun _ h => absurd h List.not_mem_nil⟩⟩⟩⟩⟩⟩⟩⟩⟩⟩⟩⟩⟩⟩⟩⟩
theorem lw_p64 : lw_okq (⟨"IceVoteModel", "takes", "(III)Z"⟩, 16) := ⟨⟨by decide +kernel, by decide +kernel⟩, List.mem_of_getElem? (i := 911) (by decide +kernel), List.mem_of_getElem? (i := 1317) (by decide +kernel), List.mem_of_getElem? (i := 1318) (by decide +kernel)⟩
theorem lw_p65 : lw_okq (⟨"IceVoteModel", "takesItem", "()Z"⟩, 16) := ⟨⟨by decide +kernel, by decide +kernel⟩, List.mem_of_getElem? (i := 911) (by decide +kernel), List.mem_of_getElem? (i := 1321) (by decide +kernel), List.mem_of_getElem? (i := 1322) (by decide +kernel)⟩
theorem lw_p66 : lw_okq (⟨"IceVoteModel", "takesCell", "()Z"⟩, 16) := ⟨⟨by decide +kernel, by decide +kernel⟩, List.mem_of_getElem? (i := 911) (by decide +kernel), List.mem_of_getElem? (i := 1325) (by decide +kernel), List.mem_of_getElem? (i := 1326) (by decide +kernel)⟩
theorem lw_p67 : lw_okq (⟨"IceVoteModel", "takesWeek", "()Z"⟩, 16) := ⟨⟨by decide +kernel, by decide +kernel⟩, List.mem_of_getElem? (i := 911) (by decide +kernel), List.mem_of_getElem? (i := 1329) (by decide +kernel), List.mem_of_getElem? (i := 1330) (by decide +kernel)⟩
theorem lw_p68 : lw_okq (⟨"IceVoteModel", "takesVoter", "()Z"⟩, 16) := ⟨⟨by decide +kernel, by decide +kernel⟩, List.mem_of_getElem? (i := 911) (by decide +kernel), List.mem_of_getElem? (i := 1333) (by decide +kernel), List.mem_of_getElem? (i := 1334) (by decide +kernel)⟩
theorem lw_p69 : lw_okq (⟨"IceVoteModel", "counted", "(I)I"⟩, 16) := ⟨⟨by decide +kernel, by decide +kernel⟩, List.mem_of_getElem? (i := 911) (by decide +kernel), List.mem_of_getElem? (i := 1357) (by decide +kernel), List.mem_of_getElem? (i := 1358) (by decide +kernel)⟩
theorem lw_p70 : lw_okq (⟨"IceVoteModel", "sums", "(JII)J"⟩, 16) := ⟨⟨by decide +kernel, by decide +kernel⟩, List.mem_of_getElem? (i := 911) (by decide +kernel), List.mem_of_getElem? (i := 1367) (by decide +kernel), List.mem_of_getElem? (i := 1368) (by decide +kernel)⟩
def lw_privs_5 : List (MethodName × Nat) := [(⟨"IceVoteModel", "takes", "(III)Z"⟩, 16), (⟨"IceVoteModel", "takesItem", "()Z"⟩, 16), (⟨"IceVoteModel", "takesCell", "()Z"⟩, 16), (⟨"IceVoteModel", "takesWeek", "()Z"⟩, 16), (⟨"IceVoteModel", "takesVoter", "()Z"⟩, 16), (⟨"IceVoteModel", "counted", "(I)I"⟩, 16), (⟨"IceVoteModel", "sums", "(JII)J"⟩, 16)]
theorem lw_r5 : ∀ q ∈ lw_privs_5, lw_okq q := List.forall_mem_cons.mpr ⟨lw_p64, List.forall_mem_cons.mpr ⟨lw_p65, List.forall_mem_cons.mpr ⟨lw_p66, List.forall_mem_cons.mpr ⟨lw_p67, List.forall_mem_cons.mpr ⟨lw_p68, List.forall_mem_cons.mpr ⟨lw_p69, List.forall_mem_cons.mpr ⟨lw_p70, fun _ h => absurd h List.not_mem_nil⟩⟩⟩⟩⟩⟩⟩
def lw_privs : List (MethodName × Nat) := lw_privs_1 ++ (lw_privs_2 ++ (lw_privs_3 ++ (lw_privs_4 ++ (lw_privs_5))))
def lw_tbl : List Cond := k2_sels lw_privs ++ tables_1
theorem lw_privs_ok : ∀ q ∈ lw_privs, lw_okq q := by
  show ∀ q ∈ lw_privs_1 ++ (lw_privs_2 ++ (lw_privs_3 ++ (lw_privs_4 ++ (lw_privs_5)))), lw_okq q
  exact List.forall_mem_append.mpr ⟨lw_r1, List.forall_mem_append.mpr ⟨lw_r2, List.forall_mem_append.mpr ⟨lw_r3, List.forall_mem_append.mpr ⟨lw_r4, lw_r5⟩⟩⟩⟩
-- ===== end of PART A; then your names; then what follows =====
/-! ===== BEGIN printed: names, fields, word lists, decode rows ===== -/
def RX0 : String := "IceVote$CellKind"
def TX0 : u_T := fun k => match k with
  | _ => ("", "", "", false)
def tyX0 : Nat → FieldType := fun k => match k with
  | _ => .int
theorem nmX0 : ∀ a, a < 0 → ∀ b, b < 0 → a ≠ b → (TX0 a).2.1 ≠ (TX0 b).2.1 := by decide +kernel
theorem tyX0_ok : ∀ k, k < 0 → parseFieldDescriptor (TX0 k).2.2.1 = some (tyX0 k) := by decide +kernel
abbrev cX0_after : ByteArray := prog_2_method_2_code
def yX0_after : MethodName := ⟨RX0, "after", "(IIII)I"⟩
abbrev cX0_grows : ByteArray := prog_2_method_3_code
def yX0_grows : MethodName := ⟨RX0, "grows", "(III)I"⟩
abbrev cX0_streamGrows : ByteArray := prog_2_method_4_code
def yX0_streamGrows : MethodName := ⟨RX0, "streamGrows", "(I)I"⟩
abbrev cX0_melts : ByteArray := prog_2_method_5_code
def yX0_melts : MethodName := ⟨RX0, "melts", "(II)I"⟩
abbrev cX0_bears : ByteArray := prog_2_method_6_code
def yX0_bears : MethodName := ⟨RX0, "bears", "(II)I"⟩
def RX1 : String := "IceVote$Lake"
def TX1 : u_T := fun k => match k with
  | 0 => ("IceVote$Lake", "sheet", "LIceVote$Sheet;", true)
  | 1 => ("IceVote$Lake", "week", "LIceVote$Week;", true)
  | 2 => ("IceVote$Lake", "voters", "LIceVote$Voters;", true)
  | 3 => ("IceVote$Lake", "notes", "LIceVote$Records;", true)
  | 4 => ("IceVote$Lake", "polls", "LIceVote$Records;", true)
  | 5 => ("IceVote$Lake", "past", "LIceVote$Past;", true)
  | 6 => ("IceVote$Lake", "word", "[I", true)
  | _ => ("IceVote$Lake", "day", "I", false)
def tyX1 : Nat → FieldType := fun k => match k with
  | 0 => .object "IceVote$Sheet"
  | 1 => .object "IceVote$Week"
  | 2 => .object "IceVote$Voters"
  | 3 => .object "IceVote$Records"
  | 4 => .object "IceVote$Records"
  | 5 => .object "IceVote$Past"
  | 6 => .array .int
  | _ => .int
theorem nmX1 : ∀ a, a < 8 → ∀ b, b < 8 → a ≠ b → (TX1 a).2.1 ≠ (TX1 b).2.1 := by decide +kernel
theorem tyX1_ok : ∀ k, k < 8 → parseFieldDescriptor (TX1 k).2.2.1 = some (tyX1 k) := by decide +kernel
abbrev cX1_init : ByteArray := prog_3_method_1_code
def yX1_init : MethodName := ⟨RX1, "<init>", "()V"⟩
abbrev cX1_copy : ByteArray := prog_3_method_2_code
def yX1_copy : MethodName := ⟨RX1, "copy", "(LIceVote$Lake;)V"⟩
abbrev cX1_restart : ByteArray := prog_3_method_3_code
def yX1_restart : MethodName := ⟨RX1, "restart", "(I)V"⟩
abbrev cX1_frost : ByteArray := prog_3_method_4_code
def yX1_frost : MethodName := ⟨RX1, "frost", "()I"⟩
abbrev cX1_keepPast : ByteArray := prog_3_method_5_code
def yX1_keepPast : MethodName := ⟨RX1, "keepPast", "()V"⟩
abbrev cX1_passDays : ByteArray := prog_3_method_6_code
def yX1_passDays : MethodName := ⟨RX1, "passDays", "(I)V"⟩
abbrev cX1_iceBehind : ByteArray := prog_3_method_7_code
def yX1_iceBehind : MethodName := ⟨RX1, "iceBehind", "(II)I"⟩
def RX2 : String := "IceVote$Past"
def TX2 : u_T := fun k => match k with
  | 0 => ("IceVote$Past", "ice", "[I", true)
  | 1 => ("IceVote$Past", "day", "[I", true)
  | _ => ("IceVote$Past", "size", "I", false)
def tyX2 : Nat → FieldType := fun k => match k with
  | 0 => .array .int
  | 1 => .array .int
  | _ => .int
theorem nmX2 : ∀ a, a < 3 → ∀ b, b < 3 → a ≠ b → (TX2 a).2.1 ≠ (TX2 b).2.1 := by decide +kernel
theorem tyX2_ok : ∀ k, k < 3 → parseFieldDescriptor (TX2 k).2.2.1 = some (tyX2 k) := by decide +kernel
abbrev cX2_init : ByteArray := prog_4_method_1_code
def yX2_init : MethodName := ⟨RX2, "<init>", "()V"⟩
abbrev cX2_copy : ByteArray := prog_4_method_2_code
def yX2_copy : MethodName := ⟨RX2, "copy", "(LIceVote$Past;)V"⟩
abbrev cX2_empty : ByteArray := prog_4_method_3_code
def yX2_empty : MethodName := ⟨RX2, "empty", "()V"⟩
abbrev cX2_keep : ByteArray := prog_4_method_4_code
def yX2_keep : MethodName := ⟨RX2, "keep", "(LIceVote$Sheet;I)V"⟩
abbrev cX2_dropOldest : ByteArray := prog_4_method_5_code
def yX2_dropOldest : MethodName := ⟨RX2, "dropOldest", "()V"⟩
abbrev cX2_goBack : ByteArray := prog_4_method_6_code
def yX2_goBack : MethodName := ⟨RX2, "goBack", "(LIceVote$Sheet;)I"⟩
def RX3 : String := "IceVote$Records"
def TX3 : u_T := fun k => match k with
  | 0 => ("IceVote$Records", "row", "[I", true)
  | _ => ("IceVote$Records", "size", "I", false)
def tyX3 : Nat → FieldType := fun k => match k with
  | 0 => .array .int
  | _ => .int
theorem nmX3 : ∀ a, a < 2 → ∀ b, b < 2 → a ≠ b → (TX3 a).2.1 ≠ (TX3 b).2.1 := by decide +kernel
theorem tyX3_ok : ∀ k, k < 2 → parseFieldDescriptor (TX3 k).2.2.1 = some (tyX3 k) := by decide +kernel
abbrev cX3_init : ByteArray := prog_5_method_1_code
def yX3_init : MethodName := ⟨RX3, "<init>", "()V"⟩
abbrev cX3_copy : ByteArray := prog_5_method_2_code
def yX3_copy : MethodName := ⟨RX3, "copy", "(LIceVote$Records;)V"⟩
abbrev cX3_add : ByteArray := prog_5_method_3_code
def yX3_add : MethodName := ⟨RX3, "add", "(IIIII)I"⟩
abbrev cX3_at : ByteArray := prog_5_method_4_code
def yX3_at : MethodName := ⟨RX3, "at", "(II)I"⟩
abbrev cX3_empty : ByteArray := prog_5_method_5_code
def yX3_empty : MethodName := ⟨RX3, "empty", "()I"⟩
abbrev cX3_fold : ByteArray := prog_5_method_6_code
def yX3_fold : MethodName := ⟨RX3, "fold", "(J)J"⟩
def RX4 : String := "IceVote$Sheet"
def TX4 : u_T := fun k => match k with
  | 0 => ("IceVote$Sheet", "kind", "[I", true)
  | _ => ("IceVote$Sheet", "ice", "[I", true)
def tyX4 : Nat → FieldType := fun k => match k with
  | 0 => .array .int
  | _ => .array .int
theorem nmX4 : ∀ a, a < 2 → ∀ b, b < 2 → a ≠ b → (TX4 a).2.1 ≠ (TX4 b).2.1 := by decide +kernel
theorem tyX4_ok : ∀ k, k < 2 → parseFieldDescriptor (TX4 k).2.2.1 = some (tyX4 k) := by decide +kernel
abbrev cX4_init : ByteArray := prog_6_method_1_code
def yX4_init : MethodName := ⟨RX4, "<init>", "()V"⟩
abbrev cX4_copy : ByteArray := prog_6_method_2_code
def yX4_copy : MethodName := ⟨RX4, "copy", "(LIceVote$Sheet;)V"⟩
abbrev cX4_restart : ByteArray := prog_6_method_3_code
def yX4_restart : MethodName := ⟨RX4, "restart", "(I)V"⟩
abbrev cX4_kindOf : ByteArray := prog_6_method_4_code
def yX4_kindOf : MethodName := ⟨RX4, "kindOf", "(I)I"⟩
abbrev cX4_iceOf : ByteArray := prog_6_method_5_code
def yX4_iceOf : MethodName := ⟨RX4, "iceOf", "(I)I"⟩
abbrev cX4_bears : ByteArray := prog_6_method_6_code
def yX4_bears : MethodName := ⟨RX4, "bears", "(I)I"⟩
abbrev cX4_setKind : ByteArray := prog_6_method_7_code
def yX4_setKind : MethodName := ⟨RX4, "setKind", "(II)V"⟩
abbrev cX4_setIce : ByteArray := prog_6_method_8_code
def yX4_setIce : MethodName := ⟨RX4, "setIce", "(II)V"⟩
abbrev cX4_passDay : ByteArray := prog_6_method_9_code
def yX4_passDay : MethodName := ⟨RX4, "passDay", "(II)V"⟩
abbrev cX4_together : ByteArray := prog_6_method_10_code
def yX4_together : MethodName := ⟨RX4, "together", "()I"⟩
abbrev cX4_bearsTogether : ByteArray := prog_6_method_11_code
def yX4_bearsTogether : MethodName := ⟨RX4, "bearsTogether", "()I"⟩
abbrev cX4_bearing : ByteArray := prog_6_method_12_code
def yX4_bearing : MethodName := ⟨RX4, "bearing", "(I)I"⟩
abbrev cX4_leastBeside : ByteArray := prog_6_method_13_code
def yX4_leastBeside : MethodName := ⟨RX4, "leastBeside", "(I)I"⟩
abbrev cX4_iceOfWard : ByteArray := prog_6_method_14_code
def yX4_iceOfWard : MethodName := ⟨RX4, "iceOfWard", "(I)I"⟩
def RX5 : String := "IceVote$Text"
def TX5 : u_T := fun k => match k with
  | 0 => ("IceVote$Text", "bytes", "[I", true)
  | 1 => ("IceVote$Text", "length", "I", false)
  | 2 => ("IceVote$Text", "tokens", "[I", true)
  | 3 => ("IceVote$Text", "starts", "[I", true)
  | 4 => ("IceVote$Text", "here", "I", false)
  | _ => ("IceVote$Text", "token", "I", false)
def tyX5 : Nat → FieldType := fun k => match k with
  | 0 => .array .int
  | 1 => .int
  | 2 => .array .int
  | 3 => .array .int
  | 4 => .int
  | _ => .int
theorem nmX5 : ∀ a, a < 6 → ∀ b, b < 6 → a ≠ b → (TX5 a).2.1 ≠ (TX5 b).2.1 := by decide +kernel
theorem tyX5_ok : ∀ k, k < 6 → parseFieldDescriptor (TX5 k).2.2.1 = some (tyX5 k) := by decide +kernel
abbrev cX5_init : ByteArray := prog_7_method_1_code
def yX5_init : MethodName := ⟨RX5, "<init>", "()V"⟩
abbrev cX5_add : ByteArray := prog_7_method_2_code
def yX5_add : MethodName := ⟨RX5, "add", "(I)V"⟩
abbrev cX5_tell : ByteArray := prog_7_method_3_code
def yX5_tell : MethodName := ⟨RX5, "tell", "(LIceVote$Lake;)I"⟩
abbrev cX5_fault : ByteArray := prog_7_method_4_code
def yX5_fault : MethodName := ⟨RX5, "fault", "()I"⟩
abbrev cX5_itemComes : ByteArray := prog_7_method_5_code
def yX5_itemComes : MethodName := ⟨RX5, "itemComes", "(LIceVote$Lake;)Z"⟩
abbrev cX5_cellsCome : ByteArray := prog_7_method_6_code
def yX5_cellsCome : MethodName := ⟨RX5, "cellsCome", "(LIceVote$Sheet;)Z"⟩
abbrev cX5_pairsCome : ByteArray := prog_7_method_7_code
def yX5_pairsCome : MethodName := ⟨RX5, "pairsCome", "(LIceVote$Week;)Z"⟩
abbrev cX5_voterComes : ByteArray := prog_7_method_8_code
def yX5_voterComes : MethodName := ⟨RX5, "voterComes", "(LIceVote$Voters;)Z"⟩
abbrev cX5_numberComes : ByteArray := prog_7_method_9_code
def yX5_numberComes : MethodName := ⟨RX5, "numberComes", "(II)Z"⟩
abbrev cX5_stopComes : ByteArray := prog_7_method_10_code
def yX5_stopComes : MethodName := ⟨RX5, "stopComes", "()Z"⟩
abbrev cX5_advance : ByteArray := prog_7_method_11_code
def yX5_advance : MethodName := ⟨RX5, "advance", "()V"⟩
abbrev cX5_findTokens : ByteArray := prog_7_method_12_code
def yX5_findTokens : MethodName := ⟨RX5, "findTokens", "()V"⟩
abbrev cX5_endOfToken : ByteArray := prog_7_method_13_code
def yX5_endOfToken : MethodName := ⟨RX5, "endOfToken", "(I)I"⟩
abbrev cX5_endOfRun : ByteArray := prog_7_method_14_code
def yX5_endOfRun : MethodName := ⟨RX5, "endOfRun", "(III)I"⟩
abbrev cX5_byteAt : ByteArray := prog_7_method_15_code
def yX5_byteAt : MethodName := ⟨RX5, "byteAt", "(I)I"⟩
abbrev cX5_tokenIn : ByteArray := prog_7_method_16_code
def yX5_tokenIn : MethodName := ⟨RX5, "tokenIn", "(II)I"⟩
abbrev cX5_numberIn : ByteArray := prog_7_method_17_code
def yX5_numberIn : MethodName := ⟨RX5, "numberIn", "(II)I"⟩
abbrev cX5_wordIn : ByteArray := prog_7_method_18_code
def yX5_wordIn : MethodName := ⟨RX5, "wordIn", "(II)I"⟩
abbrev cX5_isWord : ByteArray := prog_7_method_19_code
def yX5_isWord : MethodName := ⟨RX5, "isWord", "(Ljava/lang/String;II)Z"⟩
def RX6 : String := "IceVote$VoterKind"
def TX6 : u_T := fun k => match k with
  | _ => ("", "", "", false)
def tyX6 : Nat → FieldType := fun k => match k with
  | _ => .int
theorem nmX6 : ∀ a, a < 0 → ∀ b, b < 0 → a ≠ b → (TX6 a).2.1 ≠ (TX6 b).2.1 := by decide +kernel
theorem tyX6_ok : ∀ k, k < 0 → parseFieldDescriptor (TX6 k).2.2.1 = some (tyX6 k) := by decide +kernel
abbrev cX6_yes : ByteArray := prog_8_method_2_code
def yX6_yes : MethodName := ⟨RX6, "yes", "(IIIII)Z"⟩
def RX7 : String := "IceVote$Voters"
def TX7 : u_T := fun k => match k with
  | 0 => ("IceVote$Voters", "kind", "[I", true)
  | 1 => ("IceVote$Voters", "weight", "[I", true)
  | 2 => ("IceVote$Voters", "cell", "[I", true)
  | _ => ("IceVote$Voters", "size", "I", false)
def tyX7 : Nat → FieldType := fun k => match k with
  | 0 => .array .int
  | 1 => .array .int
  | 2 => .array .int
  | _ => .int
theorem nmX7 : ∀ a, a < 4 → ∀ b, b < 4 → a ≠ b → (TX7 a).2.1 ≠ (TX7 b).2.1 := by decide +kernel
theorem tyX7_ok : ∀ k, k < 4 → parseFieldDescriptor (TX7 k).2.2.1 = some (tyX7 k) := by decide +kernel
abbrev cX7_init : ByteArray := prog_9_method_1_code
def yX7_init : MethodName := ⟨RX7, "<init>", "()V"⟩
abbrev cX7_copy : ByteArray := prog_9_method_2_code
def yX7_copy : MethodName := ⟨RX7, "copy", "(LIceVote$Voters;)V"⟩
abbrev cX7_add : ByteArray := prog_9_method_3_code
def yX7_add : MethodName := ⟨RX7, "add", "(III)V"⟩
abbrev cX7_kindOf : ByteArray := prog_9_method_4_code
def yX7_kindOf : MethodName := ⟨RX7, "kindOf", "(I)I"⟩
abbrev cX7_weightOf : ByteArray := prog_9_method_5_code
def yX7_weightOf : MethodName := ⟨RX7, "weightOf", "(I)I"⟩
abbrev cX7_cellOf : ByteArray := prog_9_method_6_code
def yX7_cellOf : MethodName := ⟨RX7, "cellOf", "(I)I"⟩
abbrev cX7_sets : ByteArray := prog_9_method_7_code
def yX7_sets : MethodName := ⟨RX7, "sets", "()I"⟩
abbrev cX7_yes : ByteArray := prog_9_method_8_code
def yX7_yes : MethodName := ⟨RX7, "yes", "(LIceVote$Sheet;I)I"⟩
abbrev cX7_carried : ByteArray := prog_9_method_9_code
def yX7_carried : MethodName := ⟨RX7, "carried", "(I)Z"⟩
abbrev cX7_heaviest : ByteArray := prog_9_method_10_code
def yX7_heaviest : MethodName := ⟨RX7, "heaviest", "()I"⟩
abbrev cX7_heavy : ByteArray := prog_9_method_11_code
def yX7_heavy : MethodName := ⟨RX7, "heavy", "(LIceVote$Sheet;)I"⟩
abbrev cX7_wet : ByteArray := prog_9_method_12_code
def yX7_wet : MethodName := ⟨RX7, "wet", "(LIceVote$Sheet;I)I"⟩
abbrev cX7_gain : ByteArray := prog_9_method_13_code
def yX7_gain : MethodName := ⟨RX7, "gain", "(III)I"⟩
abbrev cX7_fold : ByteArray := prog_9_method_14_code
def yX7_fold : MethodName := ⟨RX7, "fold", "(J)J"⟩
def RX8 : String := "IceVote$Ways"
def TX8 : u_T := fun k => match k with
  | 0 => ("IceVote$Ways", "ring", "[I", true)
  | _ => ("IceVote$Ways", "steps", "[I", true)
def tyX8 : Nat → FieldType := fun k => match k with
  | 0 => .array .int
  | _ => .array .int
theorem nmX8 : ∀ a, a < 2 → ∀ b, b < 2 → a ≠ b → (TX8 a).2.1 ≠ (TX8 b).2.1 := by decide +kernel
theorem tyX8_ok : ∀ k, k < 2 → parseFieldDescriptor (TX8 k).2.2.1 = some (tyX8 k) := by decide +kernel
abbrev cX8_init : ByteArray := prog_10_method_1_code
def yX8_init : MethodName := ⟨RX8, "<init>", "()V"⟩
abbrev cX8_beside : ByteArray := prog_10_method_2_code
def yX8_beside : MethodName := ⟨RX8, "beside", "(I)I"⟩
abbrev cX8_joined : ByteArray := prog_10_method_3_code
def yX8_joined : MethodName := ⟨RX8, "joined", "(III)Z"⟩
abbrev cX8_find : ByteArray := prog_10_method_4_code
def yX8_find : MethodName := ⟨RX8, "find", "(III)I"⟩
abbrev cX8_measure : ByteArray := prog_10_method_5_code
def yX8_measure : MethodName := ⟨RX8, "measure", "(III)I"⟩
abbrev cX8_first : ByteArray := prog_10_method_6_code
def yX8_first : MethodName := ⟨RX8, "first", "(I)I"⟩
abbrev cX8_step : ByteArray := prog_10_method_7_code
def yX8_step : MethodName := ⟨RX8, "step", "(I)I"⟩
abbrev cX8_cut : ByteArray := prog_10_method_8_code
def yX8_cut : MethodName := ⟨RX8, "cut", "(III)I"⟩
def RX9 : String := "IceVote$Week"
def TX9 : u_T := fun k => match k with
  | 0 => ("IceVote$Week", "frost", "[I", true)
  | _ => ("IceVote$Week", "sun", "[I", true)
def tyX9 : Nat → FieldType := fun k => match k with
  | 0 => .array .int
  | _ => .array .int
theorem nmX9 : ∀ a, a < 2 → ∀ b, b < 2 → a ≠ b → (TX9 a).2.1 ≠ (TX9 b).2.1 := by decide +kernel
theorem tyX9_ok : ∀ k, k < 2 → parseFieldDescriptor (TX9 k).2.2.1 = some (tyX9 k) := by decide +kernel
abbrev cX9_init : ByteArray := prog_11_method_1_code
def yX9_init : MethodName := ⟨RX9, "<init>", "()V"⟩
abbrev cX9_copy : ByteArray := prog_11_method_2_code
def yX9_copy : MethodName := ⟨RX9, "copy", "(LIceVote$Week;)V"⟩
abbrev cX9_restart : ByteArray := prog_11_method_3_code
def yX9_restart : MethodName := ⟨RX9, "restart", "()V"⟩
abbrev cX9_set : ByteArray := prog_11_method_4_code
def yX9_set : MethodName := ⟨RX9, "set", "(III)V"⟩
abbrev cX9_frostOn : ByteArray := prog_11_method_5_code
def yX9_frostOn : MethodName := ⟨RX9, "frostOn", "(I)I"⟩
abbrev cX9_sunOn : ByteArray := prog_11_method_6_code
def yX9_sunOn : MethodName := ⟨RX9, "sunOn", "(I)I"⟩
abbrev cX9_iceAfter : ByteArray := prog_11_method_7_code
def yX9_iceAfter : MethodName := ⟨RX9, "iceAfter", "(III)I"⟩
def RX10 : String := "IceVote"
def TX10 : u_T := fun k => match k with
  | 0 => ("IceVote", "now", "LIceVote$Lake;", true)
  | 1 => ("IceVote", "told", "LIceVote$Lake;", true)
  | 2 => ("IceVote", "images", "[LIceVote$Lake;", true)
  | 3 => ("IceVote", "trial", "LIceVote$Sheet;", true)
  | 4 => ("IceVote", "ways", "LIceVote$Ways;", true)
  | 5 => ("IceVote", "text", "LIceVote$Text;", true)
  | 6 => ("IceVote", "refused", "[I", true)
  | 7 => ("IceVote", "looks", "[I", true)
  | 8 => ("IceVote", "chance", "[J", true)
  | 9 => ("IceVote", "chanceAfter", "[J", true)
  | 10 => ("IceVote", "above", "J", false)
  | _ => ("IceVote", "below", "J", false)
def tyX10 : Nat → FieldType := fun k => match k with
  | 0 => .object "IceVote$Lake"
  | 1 => .object "IceVote$Lake"
  | 2 => .array (.object "IceVote$Lake")
  | 3 => .object "IceVote$Sheet"
  | 4 => .object "IceVote$Ways"
  | 5 => .object "IceVote$Text"
  | 6 => .array .int
  | 7 => .array .int
  | 8 => .array .long
  | 9 => .array .long
  | 10 => .long
  | _ => .long
theorem nmX10 : ∀ a, a < 12 → ∀ b, b < 12 → a ≠ b → (TX10 a).2.1 ≠ (TX10 b).2.1 := by decide +kernel
theorem tyX10_ok : ∀ k, k < 12 → parseFieldDescriptor (TX10 k).2.2.1 = some (tyX10 k) := by decide +kernel
abbrev cX10_init : ByteArray := prog_1_method_1_code
def yX10_init : MethodName := ⟨RX10, "<init>", "()V"⟩
abbrev cX10_lake : ByteArray := prog_1_method_2_code
def yX10_lake : MethodName := ⟨RX10, "lake", "(I)I"⟩
abbrev cX10_cell : ByteArray := prog_1_method_3_code
def yX10_cell : MethodName := ⟨RX10, "cell", "(II)I"⟩
abbrev cX10_weather : ByteArray := prog_1_method_4_code
def yX10_weather : MethodName := ⟨RX10, "weather", "(III)I"⟩
abbrev cX10_ward : ByteArray := prog_1_method_5_code
def yX10_ward : MethodName := ⟨RX10, "ward", "(II)I"⟩
abbrev cX10_voter : ByteArray := prog_1_method_6_code
def yX10_voter : MethodName := ⟨RX10, "voter", "(III)I"⟩
abbrev cX10_type : ByteArray := prog_1_method_7_code
def yX10_type : MethodName := ⟨RX10, "type", "(I)I"⟩
abbrev cX10_clear : ByteArray := prog_1_method_8_code
def yX10_clear : MethodName := ⟨RX10, "clear", "()I"⟩
abbrev cX10_read : ByteArray := prog_1_method_9_code
def yX10_read : MethodName := ⟨RX10, "read", "()I"⟩
abbrev cX10_day : ByteArray := prog_1_method_10_code
def yX10_day : MethodName := ⟨RX10, "day", "(I)I"⟩
abbrev cX10_tread : ByteArray := prog_1_method_11_code
def yX10_tread : MethodName := ⟨RX10, "tread", "(II)I"⟩
abbrev cX10_stone : ByteArray := prog_1_method_12_code
def yX10_stone : MethodName := ⟨RX10, "stone", "(I)I"⟩
abbrev cX10_undo : ByteArray := prog_1_method_13_code
def yX10_undo : MethodName := ⟨RX10, "undo", "()I"⟩
abbrev cX10_of : ByteArray := prog_1_method_14_code
def yX10_of : MethodName := ⟨RX10, "of", "(II)I"⟩
abbrev cX10_about : ByteArray := prog_1_method_15_code
def yX10_about : MethodName := ⟨RX10, "about", "(II)I"⟩
abbrev cX10_then : ByteArray := prog_1_method_16_code
def yX10_then : MethodName := ⟨RX10, "then", "(III)I"⟩
abbrev cX10_when : ByteArray := prog_1_method_17_code
def yX10_when : MethodName := ⟨RX10, "when", "(II)I"⟩
abbrev cX10_where : ByteArray := prog_1_method_18_code
def yX10_where : MethodName := ⟨RX10, "where", "(II)I"⟩
abbrev cX10_horses : ByteArray := prog_1_method_19_code
def yX10_horses : MethodName := ⟨RX10, "horses", "(I)I"⟩
abbrev cX10_path : ByteArray := prog_1_method_20_code
def yX10_path : MethodName := ⟨RX10, "path", "(IIII)I"⟩
abbrev cX10_safe : ByteArray := prog_1_method_21_code
def yX10_safe : MethodName := ⟨RX10, "safe", "(II)I"⟩
abbrev cX10_cross : ByteArray := prog_1_method_22_code
def yX10_cross : MethodName := ⟨RX10, "cross", "(III)I"⟩
abbrev cX10_apart : ByteArray := prog_1_method_23_code
def yX10_apart : MethodName := ⟨RX10, "apart", "(IIII)I"⟩
abbrev cX10_votes : ByteArray := prog_1_method_24_code
def yX10_votes : MethodName := ⟨RX10, "votes", "(I)I"⟩
abbrev cX10_turn : ByteArray := prog_1_method_25_code
def yX10_turn : MethodName := ⟨RX10, "turn", "()I"⟩
abbrev cX10_seen : ByteArray := prog_1_method_26_code
def yX10_seen : MethodName := ⟨RX10, "seen", "(II)I"⟩
abbrev cX10_lies : ByteArray := prog_1_method_27_code
def yX10_lies : MethodName := ⟨RX10, "lies", "()I"⟩
abbrev cX10_stones : ByteArray := prog_1_method_28_code
def yX10_stones : MethodName := ⟨RX10, "stones", "(III)I"⟩
abbrev cX10_note : ByteArray := prog_1_method_29_code
def yX10_note : MethodName := ⟨RX10, "note", "(IIIII)I"⟩
abbrev cX10_voted : ByteArray := prog_1_method_30_code
def yX10_voted : MethodName := ⟨RX10, "voted", "(IIIII)I"⟩
abbrev cX10_forget : ByteArray := prog_1_method_31_code
def yX10_forget : MethodName := ⟨RX10, "forget", "(I)I"⟩
abbrev cX10_is : ByteArray := prog_1_method_32_code
def yX10_is : MethodName := ⟨RX10, "is", "(I)I"⟩
abbrev cX10_next : ByteArray := prog_1_method_33_code
def yX10_next : MethodName := ⟨RX10, "next", "(I)I"⟩
abbrev cX10_who : ByteArray := prog_1_method_34_code
def yX10_who : MethodName := ⟨RX10, "who", "(I)I"⟩
abbrev cX10_two : ByteArray := prog_1_method_35_code
def yX10_two : MethodName := ⟨RX10, "two", "(II)I"⟩
abbrev cX10_thaw : ByteArray := prog_1_method_36_code
def yX10_thaw : MethodName := ⟨RX10, "thaw", "(IIII)I"⟩
abbrev cX10_winters : ByteArray := prog_1_method_37_code
def yX10_winters : MethodName := ⟨RX10, "winters", "(II)I"⟩
abbrev cX10_part : ByteArray := prog_1_method_38_code
def yX10_part : MethodName := ⟨RX10, "part", "(I)J"⟩
abbrev cX10_image : ByteArray := prog_1_method_39_code
def yX10_image : MethodName := ⟨RX10, "image", "(I)I"⟩
abbrev cX10_from : ByteArray := prog_1_method_40_code
def yX10_from : MethodName := ⟨RX10, "from", "(I)I"⟩
abbrev cX10_status : ByteArray := prog_1_method_41_code
def yX10_status : MethodName := ⟨RX10, "status", "(I)I"⟩
abbrev cX10_count : ByteArray := prog_1_method_42_code
def yX10_count : MethodName := ⟨RX10, "count", "(I)I"⟩
abbrev cX10_digest : ByteArray := prog_1_method_43_code
def yX10_digest : MethodName := ⟨RX10, "digest", "()J"⟩
abbrev cX10_bad : ByteArray := prog_1_method_44_code
def yX10_bad : MethodName := ⟨RX10, "bad", "()I"⟩
abbrev cX10_no : ByteArray := prog_1_method_45_code
def yX10_no : MethodName := ⟨RX10, "no", "()I"⟩
abbrev cX10_full : ByteArray := prog_1_method_46_code
def yX10_full : MethodName := ⟨RX10, "full", "()I"⟩
abbrev cX10_isVoter : ByteArray := prog_1_method_47_code
def yX10_isVoter : MethodName := ⟨RX10, "isVoter", "(I)Z"⟩
abbrev cX10_isCell : ByteArray := prog_1_method_48_code
def yX10_isCell : MethodName := ⟨RX10, "isCell", "(I)Z"⟩
abbrev cX10_isSky : ByteArray := prog_1_method_49_code
def yX10_isSky : MethodName := ⟨RX10, "isSky", "(I)Z"⟩
abbrev cX10_isBorne : ByteArray := prog_1_method_50_code
def yX10_isBorne : MethodName := ⟨RX10, "isBorne", "(I)Z"⟩
abbrev cX10_within : ByteArray := prog_1_method_51_code
def yX10_within : MethodName := ⟨RX10, "within", "(III)Z"⟩
abbrev cX10_has : ByteArray := prog_1_method_52_code
def yX10_has : MethodName := ⟨RX10, "has", "(II)Z"⟩
abbrev cX10_amount : ByteArray := prog_1_method_53_code
def yX10_amount : MethodName := ⟨RX10, "amount", "(I)I"⟩
abbrev cX10_yesNow : ByteArray := prog_1_method_54_code
def yX10_yesNow : MethodName := ⟨RX10, "yesNow", "()I"⟩
abbrev cX10_kindsNoted : ByteArray := prog_1_method_55_code
def yX10_kindsNoted : MethodName := ⟨RX10, "kindsNoted", "(I)I"⟩
abbrev cX10_fitsNotes : ByteArray := prog_1_method_56_code
def yX10_fitsNotes : MethodName := ⟨RX10, "fitsNotes", "(II)Z"⟩
abbrev cX10_mostAlike : ByteArray := prog_1_method_57_code
def yX10_mostAlike : MethodName := ⟨RX10, "mostAlike", "(IIII)I"⟩
abbrev cX10_fitsPolls : ByteArray := prog_1_method_58_code
def yX10_fitsPolls : MethodName := ⟨RX10, "fitsPolls", "(II)Z"⟩
abbrev cX10_passNight : ByteArray := prog_1_method_59_code
def yX10_passNight : MethodName := ⟨RX10, "passNight", "(III)V"⟩
abbrev cX10_addAt : ByteArray := prog_1_method_60_code
def yX10_addAt : MethodName := ⟨RX10, "addAt", "([JIJ)V"⟩
abbrev cX10_keepFraction : ByteArray := prog_1_method_61_code
def yX10_keepFraction : MethodName := ⟨RX10, "keepFraction", "(JJ)V"⟩
def RX11 : String := "IceVoteModel"
def TX11 : u_T := fun k => match k with
  | 0 => ("IceVoteModel", "told", "[I", true)
  | 1 => ("IceVoteModel", "kept", "[I", true)
  | 2 => ("IceVoteModel", "isKept", "[Z", true)
  | 3 => ("IceVoteModel", "refused", "[I", true)
  | 4 => ("IceVoteModel", "above", "J", false)
  | 5 => ("IceVoteModel", "below", "J", false)
  | 6 => ("IceVoteModel", "ices", "[I", true)
  | 7 => ("IceVoteModel", "far", "[I", true)
  | 8 => ("IceVoteModel", "bytes", "[I", true)
  | 9 => ("IceVoteModel", "bytesLong", "I", false)
  | 10 => ("IceVoteModel", "tokenAt", "I", false)
  | 11 => ("IceVoteModel", "tokenLong", "I", false)
  | 12 => ("IceVoteModel", "token", "I", false)
  | 13 => ("IceVoteModel", "value", "I", false)
  | 14 => ("IceVoteModel", "anew", "[I", true)
  | _ => ("IceVoteModel", "values", "[I", true)
def tyX11 : Nat → FieldType := fun k => match k with
  | 0 => .array .int
  | 1 => .array .int
  | 2 => .array .boolean
  | 3 => .array .int
  | 4 => .long
  | 5 => .long
  | 6 => .array .int
  | 7 => .array .int
  | 8 => .array .int
  | 9 => .int
  | 10 => .int
  | 11 => .int
  | 12 => .int
  | 13 => .int
  | 14 => .array .int
  | _ => .array .int
theorem nmX11 : ∀ a, a < 16 → ∀ b, b < 16 → a ≠ b → (TX11 a).2.1 ≠ (TX11 b).2.1 := by decide +kernel
theorem tyX11_ok : ∀ k, k < 16 → parseFieldDescriptor (TX11 k).2.2.1 = some (tyX11 k) := by decide +kernel
abbrev cX11_init : ByteArray := prog_13_method_1_code
def yX11_init : MethodName := ⟨RX11, "<init>", "()V"⟩
abbrev cX11_in : ByteArray := prog_13_method_3_code
def yX11_in : MethodName := ⟨RX11, "in", "(JJJ)Z"⟩
abbrev cX11_bad : ByteArray := prog_13_method_4_code
def yX11_bad : MethodName := ⟨RX11, "bad", "(I)I"⟩
abbrev cX11_no : ByteArray := prog_13_method_5_code
def yX11_no : MethodName := ⟨RX11, "no", "()I"⟩
abbrev cX11_full : ByteArray := prog_13_method_6_code
def yX11_full : MethodName := ⟨RX11, "full", "()I"⟩
abbrev cX11_bits : ByteArray := prog_13_method_7_code
def yX11_bits : MethodName := ⟨RX11, "bits", "(I)I"⟩
abbrev cX11_has : ByteArray := prog_13_method_8_code
def yX11_has : MethodName := ⟨RX11, "has", "(II)Z"⟩
abbrev cX11_begin : ByteArray := prog_13_method_9_code
def yX11_begin : MethodName := ⟨RX11, "begin", "([II)V"⟩
abbrev cX11_many : ByteArray := prog_13_method_10_code
def yX11_many : MethodName := ⟨RX11, "many", "()I"⟩
abbrev cX11_isVoter : ByteArray := prog_13_method_11_code
def yX11_isVoter : MethodName := ⟨RX11, "isVoter", "(I)Z"⟩
abbrev cX11_isCell : ByteArray := prog_13_method_12_code
def yX11_isCell : MethodName := ⟨RX11, "isCell", "(I)Z"⟩
abbrev cX11_isIce : ByteArray := prog_13_method_13_code
def yX11_isIce : MethodName := ⟨RX11, "isIce", "(I)Z"⟩
abbrev cX11_isWeather : ByteArray := prog_13_method_14_code
def yX11_isWeather : MethodName := ⟨RX11, "isWeather", "(I)Z"⟩
abbrev cX11_isBurden : ByteArray := prog_13_method_15_code
def yX11_isBurden : MethodName := ⟨RX11, "isBurden", "(I)Z"⟩
abbrev cX11_lake : ByteArray := prog_13_method_16_code
def yX11_lake : MethodName := ⟨RX11, "lake", "(I)I"⟩
abbrev cX11_cell : ByteArray := prog_13_method_17_code
def yX11_cell : MethodName := ⟨RX11, "cell", "(II)I"⟩
abbrev cX11_weather : ByteArray := prog_13_method_18_code
def yX11_weather : MethodName := ⟨RX11, "weather", "(III)I"⟩
abbrev cX11_ward : ByteArray := prog_13_method_19_code
def yX11_ward : MethodName := ⟨RX11, "ward", "(II)I"⟩
abbrev cX11_layVoter : ByteArray := prog_13_method_20_code
def yX11_layVoter : MethodName := ⟨RX11, "layVoter", "([IIII)V"⟩
abbrev cX11_voter : ByteArray := prog_13_method_21_code
def yX11_voter : MethodName := ⟨RX11, "voter", "(III)I"⟩
abbrev cX11_growsAs : ByteArray := prog_13_method_22_code
def yX11_growsAs : MethodName := ⟨RX11, "growsAs", "(III)I"⟩
abbrev cX11_meltsAs : ByteArray := prog_13_method_23_code
def yX11_meltsAs : MethodName := ⟨RX11, "meltsAs", "(II)I"⟩
abbrev cX11_bearsAs : ByteArray := prog_13_method_24_code
def yX11_bearsAs : MethodName := ⟨RX11, "bearsAs", "(II)I"⟩
abbrev cX11_behindDay : ByteArray := prog_13_method_25_code
def yX11_behindDay : MethodName := ⟨RX11, "behindDay", "(IIII)I"⟩
abbrev cX11_votesAs : ByteArray := prog_13_method_26_code
def yX11_votesAs : MethodName := ⟨RX11, "votesAs", "(IIIII)Z"⟩
abbrev cX11_layIce : ByteArray := prog_13_method_27_code
def yX11_layIce : MethodName := ⟨RX11, "layIce", "()V"⟩
abbrev cX11_kindOf : ByteArray := prog_13_method_28_code
def yX11_kindOf : MethodName := ⟨RX11, "kindOf", "(I)I"⟩
abbrev cX11_bears : ByteArray := prog_13_method_29_code
def yX11_bears : MethodName := ⟨RX11, "bears", "(I)I"⟩
abbrev cX11_goDay : ByteArray := prog_13_method_30_code
def yX11_goDay : MethodName := ⟨RX11, "goDay", "(II)V"⟩
abbrev cX11_goDays : ByteArray := prog_13_method_31_code
def yX11_goDays : MethodName := ⟨RX11, "goDays", "(I)V"⟩
abbrev cX11_areBeside : ByteArray := prog_13_method_32_code
def yX11_areBeside : MethodName := ⟨RX11, "areBeside", "(II)Z"⟩
abbrev cX11_leastBeside : ByteArray := prog_13_method_33_code
def yX11_leastBeside : MethodName := ⟨RX11, "leastBeside", "(I)I"⟩
abbrev cX11_keep : ByteArray := prog_13_method_34_code
def yX11_keep : MethodName := ⟨RX11, "keep", "()V"⟩
abbrev cX11_allIce : ByteArray := prog_13_method_35_code
def yX11_allIce : MethodName := ⟨RX11, "allIce", "()I"⟩
abbrev cX11_day : ByteArray := prog_13_method_36_code
def yX11_day : MethodName := ⟨RX11, "day", "(I)I"⟩
abbrev cX11_tread : ByteArray := prog_13_method_37_code
def yX11_tread : MethodName := ⟨RX11, "tread", "(II)I"⟩
abbrev cX11_stone : ByteArray := prog_13_method_38_code
def yX11_stone : MethodName := ⟨RX11, "stone", "(I)I"⟩
abbrev cX11_undo : ByteArray := prog_13_method_39_code
def yX11_undo : MethodName := ⟨RX11, "undo", "()I"⟩
abbrev cX11_of : ByteArray := prog_13_method_40_code
def yX11_of : MethodName := ⟨RX11, "of", "(II)I"⟩
abbrev cX11_frostNow : ByteArray := prog_13_method_41_code
def yX11_frostNow : MethodName := ⟨RX11, "frostNow", "()I"⟩
abbrev cX11_votesYes : ByteArray := prog_13_method_42_code
def yX11_votesYes : MethodName := ⟨RX11, "votesYes", "(II)Z"⟩
abbrev cX11_about : ByteArray := prog_13_method_43_code
def yX11_about : MethodName := ⟨RX11, "about", "(II)I"⟩
abbrev cX11_then : ByteArray := prog_13_method_44_code
def yX11_then : MethodName := ⟨RX11, "then", "(III)I"⟩
abbrev cX11_goOne : ByteArray := prog_13_method_45_code
def yX11_goOne : MethodName := ⟨RX11, "goOne", "(I)V"⟩
abbrev cX11_when : ByteArray := prog_13_method_46_code
def yX11_when : MethodName := ⟨RX11, "when", "(II)I"⟩
abbrev cX11_where : ByteArray := prog_13_method_47_code
def yX11_where : MethodName := ⟨RX11, "where", "(II)I"⟩
abbrev cX11_horses : ByteArray := prog_13_method_48_code
def yX11_horses : MethodName := ⟨RX11, "horses", "(I)I"⟩
abbrev cX11_layFar : ByteArray := prog_13_method_49_code
def yX11_layFar : MethodName := ⟨RX11, "layFar", "(III)V"⟩
abbrev cX11_layNearer : ByteArray := prog_13_method_50_code
def yX11_layNearer : MethodName := ⟨RX11, "layNearer", "(I)Z"⟩
abbrev cX11_nextOf : ByteArray := prog_13_method_51_code
def yX11_nextOf : MethodName := ⟨RX11, "nextOf", "(I)I"⟩
abbrev cX11_path : ByteArray := prog_13_method_52_code
def yX11_path : MethodName := ⟨RX11, "path", "(IIII)I"⟩
abbrev cX11_safe : ByteArray := prog_13_method_53_code
def yX11_safe : MethodName := ⟨RX11, "safe", "(II)I"⟩
abbrev cX11_cross : ByteArray := prog_13_method_54_code
def yX11_cross : MethodName := ⟨RX11, "cross", "(III)I"⟩
abbrev cX11_isParted : ByteArray := prog_13_method_55_code
def yX11_isParted : MethodName := ⟨RX11, "isParted", "(IIII)Z"⟩
abbrev cX11_partsOf : ByteArray := prog_13_method_56_code
def yX11_partsOf : MethodName := ⟨RX11, "partsOf", "(III)I"⟩
abbrev cX11_apart : ByteArray := prog_13_method_57_code
def yX11_apart : MethodName := ⟨RX11, "apart", "(IIII)I"⟩
abbrev cX11_yesOf : ByteArray := prog_13_method_58_code
def yX11_yesOf : MethodName := ⟨RX11, "yesOf", "(I)I"⟩
abbrev cX11_heaviest : ByteArray := prog_13_method_59_code
def yX11_heaviest : MethodName := ⟨RX11, "heaviest", "()I"⟩
abbrev cX11_isCarried : ByteArray := prog_13_method_60_code
def yX11_isCarried : MethodName := ⟨RX11, "isCarried", "(I)Z"⟩
abbrev cX11_bearsIt : ByteArray := prog_13_method_61_code
def yX11_bearsIt : MethodName := ⟨RX11, "bearsIt", "(I)Z"⟩
abbrev cX11_wetOf : ByteArray := prog_13_method_62_code
def yX11_wetOf : MethodName := ⟨RX11, "wetOf", "(I)I"⟩
abbrev cX11_votes : ByteArray := prog_13_method_63_code
def yX11_votes : MethodName := ⟨RX11, "votes", "(I)I"⟩
abbrev cX11_turn : ByteArray := prog_13_method_64_code
def yX11_turn : MethodName := ⟨RX11, "turn", "()I"⟩
abbrev cX11_seen : ByteArray := prog_13_method_65_code
def yX11_seen : MethodName := ⟨RX11, "seen", "(II)I"⟩
abbrev cX11_lies : ByteArray := prog_13_method_66_code
def yX11_lies : MethodName := ⟨RX11, "lies", "()I"⟩
abbrev cX11_stones : ByteArray := prog_13_method_67_code
def yX11_stones : MethodName := ⟨RX11, "stones", "(III)I"⟩
abbrev cX11_note : ByteArray := prog_13_method_68_code
def yX11_note : MethodName := ⟨RX11, "note", "(IIIII)I"⟩
abbrev cX11_voted : ByteArray := prog_13_method_69_code
def yX11_voted : MethodName := ⟨RX11, "voted", "(IIIII)I"⟩
abbrev cX11_forget : ByteArray := prog_13_method_70_code
def yX11_forget : MethodName := ⟨RX11, "forget", "(I)I"⟩
abbrev cX11_kindsOf : ByteArray := prog_13_method_71_code
def yX11_kindsOf : MethodName := ⟨RX11, "kindsOf", "(I)I"⟩
abbrev cX11_is : ByteArray := prog_13_method_72_code
def yX11_is : MethodName := ⟨RX11, "is", "(I)I"⟩
abbrev cX11_next : ByteArray := prog_13_method_73_code
def yX11_next : MethodName := ⟨RX11, "next", "(I)I"⟩
abbrev cX11_who : ByteArray := prog_13_method_74_code
def yX11_who : MethodName := ⟨RX11, "who", "(I)I"⟩
abbrev cX11_hasBy : ByteArray := prog_13_method_75_code
def yX11_hasBy : MethodName := ⟨RX11, "hasBy", "(II)I"⟩
abbrev cX11_two : ByteArray := prog_13_method_76_code
def yX11_two : MethodName := ⟨RX11, "two", "(II)I"⟩
abbrev cX11_fraction : ByteArray := prog_13_method_77_code
def yX11_fraction : MethodName := ⟨RX11, "fraction", "(JJ)V"⟩
abbrev cX11_thaw : ByteArray := prog_13_method_78_code
def yX11_thaw : MethodName := ⟨RX11, "thaw", "(IIII)I"⟩
abbrev cX11_winters : ByteArray := prog_13_method_79_code
def yX11_winters : MethodName := ⟨RX11, "winters", "(II)I"⟩
abbrev cX11_type : ByteArray := prog_13_method_80_code
def yX11_type : MethodName := ⟨RX11, "type", "(I)I"⟩
abbrev cX11_clear : ByteArray := prog_13_method_81_code
def yX11_clear : MethodName := ⟨RX11, "clear", "()I"⟩
abbrev cX11_isSmall : ByteArray := prog_13_method_82_code
def yX11_isSmall : MethodName := ⟨RX11, "isSmall", "(I)Z"⟩
abbrev cX11_isFigure : ByteArray := prog_13_method_83_code
def yX11_isFigure : MethodName := ⟨RX11, "isFigure", "(I)Z"⟩
abbrev cX11_lookAt : ByteArray := prog_13_method_84_code
def yX11_lookAt : MethodName := ⟨RX11, "lookAt", "(I)V"⟩
abbrev cX11_goBehind : ByteArray := prog_13_method_85_code
def yX11_goBehind : MethodName := ⟨RX11, "goBehind", "()V"⟩
abbrev cX11_spells : ByteArray := prog_13_method_86_code
def yX11_spells : MethodName := ⟨RX11, "spells", "(IIIIIII)Z"⟩
abbrev cX11_takes : ByteArray := prog_13_method_87_code
def yX11_takes : MethodName := ⟨RX11, "takes", "(III)Z"⟩
abbrev cX11_takesLake : ByteArray := prog_13_method_88_code
def yX11_takesLake : MethodName := ⟨RX11, "takesLake", "()Z"⟩
abbrev cX11_takesCell : ByteArray := prog_13_method_89_code
def yX11_takesCell : MethodName := ⟨RX11, "takesCell", "()Z"⟩
abbrev cX11_takesWeek : ByteArray := prog_13_method_90_code
def yX11_takesWeek : MethodName := ⟨RX11, "takesWeek", "()Z"⟩
abbrev cX11_takesVoter : ByteArray := prog_13_method_91_code
def yX11_takesVoter : MethodName := ⟨RX11, "takesVoter", "()Z"⟩
abbrev cX11_takesItem : ByteArray := prog_13_method_92_code
def yX11_takesItem : MethodName := ⟨RX11, "takesItem", "()Z"⟩
abbrev cX11_read : ByteArray := prog_13_method_93_code
def yX11_read : MethodName := ⟨RX11, "read", "()I"⟩
abbrev cX11_part : ByteArray := prog_13_method_94_code
def yX11_part : MethodName := ⟨RX11, "part", "(I)J"⟩
abbrev cX11_image : ByteArray := prog_13_method_95_code
def yX11_image : MethodName := ⟨RX11, "image", "(I)I"⟩
abbrev cX11_from : ByteArray := prog_13_method_96_code
def yX11_from : MethodName := ⟨RX11, "from", "(I)I"⟩
abbrev cX11_status : ByteArray := prog_13_method_97_code
def yX11_status : MethodName := ⟨RX11, "status", "(I)I"⟩
abbrev cX11_counted : ByteArray := prog_13_method_98_code
def yX11_counted : MethodName := ⟨RX11, "counted", "(I)I"⟩
abbrev cX11_count : ByteArray := prog_13_method_99_code
def yX11_count : MethodName := ⟨RX11, "count", "(I)I"⟩
abbrev cX11_sums : ByteArray := prog_13_method_100_code
def yX11_sums : MethodName := ⟨RX11, "sums", "(JII)J"⟩
abbrev cX11_digest : ByteArray := prog_13_method_101_code
def yX11_digest : MethodName := ⟨RX11, "digest", "()J"⟩
def RJx145de : String := "java/io/Serializable"
def TJx145de : u_T := fun k => match k with
  | _ => ("", "", "", false)
def tyJx145de : Nat → FieldType := fun k => match k with
  | _ => .int
theorem nmJx145de : ∀ a, a < 0 → ∀ b, b < 0 → a ≠ b → (TJx145de a).2.1 ≠ (TJx145de b).2.1 := by decide +kernel
theorem tyJx145de_ok : ∀ k, k < 0 → parseFieldDescriptor (TJx145de k).2.2.1 = some (tyJx145de k) := by decide +kernel
def RJx9f9b0 : String := "java/lang/CharSequence"
def TJx9f9b0 : u_T := fun k => match k with
  | _ => ("", "", "", false)
def tyJx9f9b0 : Nat → FieldType := fun k => match k with
  | _ => .int
theorem nmJx9f9b0 : ∀ a, a < 0 → ∀ b, b < 0 → a ≠ b → (TJx9f9b0 a).2.1 ≠ (TJx9f9b0 b).2.1 := by decide +kernel
theorem tyJx9f9b0_ok : ∀ k, k < 0 → parseFieldDescriptor (TJx9f9b0 k).2.2.1 = some (tyJx9f9b0 k) := by decide +kernel
def RJxb160c : String := "java/lang/Comparable"
def TJxb160c : u_T := fun k => match k with
  | _ => ("", "", "", false)
def tyJxb160c : Nat → FieldType := fun k => match k with
  | _ => .int
theorem nmJxb160c : ∀ a, a < 0 → ∀ b, b < 0 → a ≠ b → (TJxb160c a).2.1 ≠ (TJxb160c b).2.1 := by decide +kernel
theorem tyJxb160c_ok : ∀ k, k < 0 → parseFieldDescriptor (TJxb160c k).2.2.1 = some (tyJxb160c k) := by decide +kernel
def RJ6 : String := "java/lang/Integer"
def TJ6 : u_T := fun k => match k with
  | _ => ("", "", "", false)
def tyJ6 : Nat → FieldType := fun k => match k with
  | _ => .int
theorem nmJ6 : ∀ a, a < 0 → ∀ b, b < 0 → a ≠ b → (TJ6 a).2.1 ≠ (TJ6 b).2.1 := by decide +kernel
theorem tyJ6_ok : ∀ k, k < 0 → parseFieldDescriptor (TJ6 k).2.2.1 = some (tyJ6 k) := by decide +kernel
abbrev cJ6_bitCount_0f7a4 : ByteArray := prog_14_method_49_code
def yJ6_bitCount_0f7a4 : MethodName := ⟨RJ6, "bitCount", "(I)I"⟩
def RJ9 : String := "java/lang/Math"
def TJ9 : u_T := fun k => match k with
  | _ => ("", "", "", false)
def tyJ9 : Nat → FieldType := fun k => match k with
  | _ => .int
theorem nmJ9 : ∀ a, a < 0 → ∀ b, b < 0 → a ≠ b → (TJ9 a).2.1 ≠ (TJ9 b).2.1 := by decide +kernel
theorem tyJ9_ok : ∀ k, k < 0 → parseFieldDescriptor (TJ9 k).2.2.1 = some (tyJ9 k) := by decide +kernel
abbrev cJ9_floorMod_7cf53 : ByteArray := prog_15_method_50_code
def yJ9_floorMod_7cf53 : MethodName := ⟨RJ9, "floorMod", "(II)I"⟩
abbrev cJ9_max_7cf53 : ByteArray := prog_15_method_65_code
def yJ9_max_7cf53 : MethodName := ⟨RJ9, "max", "(II)I"⟩
abbrev cJ9_min_7cf53 : ByteArray := prog_15_method_69_code
def yJ9_min_7cf53 : MethodName := ⟨RJ9, "min", "(II)I"⟩
def RJ0 : String := "java/lang/String"
def TJ0 : u_T := fun k => match k with
  | _ => ("", "", "", false)
def tyJ0 : Nat → FieldType := fun k => match k with
  | _ => .int
theorem nmJ0 : ∀ a, a < 0 → ∀ b, b < 0 → a ≠ b → (TJ0 a).2.1 ≠ (TJ0 b).2.1 := by decide +kernel
theorem tyJ0_ok : ∀ k, k < 0 → parseFieldDescriptor (TJ0 k).2.2.1 = some (tyJ0 k) := by decide +kernel
abbrev cJ0_length_8abf5 : ByteArray := prog_16_method_54_code
def yJ0_length_8abf5 : MethodName := ⟨RJ0, "length", "()I"⟩
abbrev cJ0_charAt_5068e : ByteArray := prog_16_method_56_code
def yJ0_charAt_5068e : MethodName := ⟨RJ0, "charAt", "(I)C"⟩
abbrev cJ0_coder_7d493 : ByteArray := prog_16_method_152_code
def yJ0_coder_7d493 : MethodName := ⟨RJ0, "coder", "()B"⟩
abbrev cJ0_isLatin1_aae02 : ByteArray := prog_16_method_154_code
def yJ0_isLatin1_aae02 : MethodName := ⟨RJ0, "isLatin1", "()Z"⟩
abbrev cJ0_checkIndex_df160 : ByteArray := prog_16_method_155_code
def yJ0_checkIndex_df160 : MethodName := ⟨RJ0, "checkIndex", "(II)V"⟩
def RJ1 : String := "java/lang/StringLatin1"
def TJ1 : u_T := fun k => match k with
  | _ => ("", "", "", false)
def tyJ1 : Nat → FieldType := fun k => match k with
  | _ => .int
theorem nmJ1 : ∀ a, a < 0 → ∀ b, b < 0 → a ≠ b → (TJ1 a).2.1 ≠ (TJ1 b).2.1 := by decide +kernel
theorem tyJ1_ok : ∀ k, k < 0 → parseFieldDescriptor (TJ1 k).2.2.1 = some (tyJ1 k) := by decide +kernel
abbrev cJ1_charAt_3b067 : ByteArray := prog_17_method_2_code
def yJ1_charAt_3b067 : MethodName := ⟨RJ1, "charAt", "([BI)C"⟩
def RJ2 : String := "java/lang/StringUTF16"
def TJ2 : u_T := fun k => match k with
  | _ => ("", "", "", false)
def tyJ2 : Nat → FieldType := fun k => match k with
  | _ => .int
theorem nmJ2 : ∀ a, a < 0 → ∀ b, b < 0 → a ≠ b → (TJ2 a).2.1 ≠ (TJ2 b).2.1 := by decide +kernel
theorem tyJ2_ok : ∀ k, k < 0 → parseFieldDescriptor (TJ2 k).2.2.1 = some (tyJ2 k) := by decide +kernel
abbrev cJ2_getChar_3b067 : ByteArray := prog_18_method_5_code
def yJ2_getChar_3b067 : MethodName := ⟨RJ2, "getChar", "([BI)C"⟩
abbrev cJ2_length_9d52b : ByteArray := prog_18_method_6_code
def yJ2_length_9d52b : MethodName := ⟨RJ2, "length", "([B)I"⟩
abbrev cJ2_charAt_3b067 : ByteArray := prog_18_method_83_code
def yJ2_charAt_3b067 : MethodName := ⟨RJ2, "charAt", "([BI)C"⟩
abbrev cJ2_checkIndex_2214a : ByteArray := prog_18_method_91_code
def yJ2_checkIndex_2214a : MethodName := ⟨RJ2, "checkIndex", "(I[B)V"⟩
def RJ10 : String := "java/lang/System"
def TJ10 : u_T := fun k => match k with
  | _ => ("", "", "", false)
def tyJ10 : Nat → FieldType := fun k => match k with
  | _ => .int
theorem nmJ10 : ∀ a, a < 0 → ∀ b, b < 0 → a ≠ b → (TJ10 a).2.1 ≠ (TJ10 b).2.1 := by decide +kernel
theorem tyJ10_ok : ∀ k, k < 0 → parseFieldDescriptor (TJ10 k).2.2.1 = some (tyJ10 k) := by decide +kernel
def RJxfd54e : String := "java/lang/constant/Constable"
def TJxfd54e : u_T := fun k => match k with
  | _ => ("", "", "", false)
def tyJxfd54e : Nat → FieldType := fun k => match k with
  | _ => .int
theorem nmJxfd54e : ∀ a, a < 0 → ∀ b, b < 0 → a ≠ b → (TJxfd54e a).2.1 ≠ (TJxfd54e b).2.1 := by decide +kernel
theorem tyJxfd54e_ok : ∀ k, k < 0 → parseFieldDescriptor (TJxfd54e k).2.2.1 = some (tyJxfd54e k) := by decide +kernel
def RJx3cf43 : String := "java/lang/constant/ConstantDesc"
def TJx3cf43 : u_T := fun k => match k with
  | _ => ("", "", "", false)
def tyJx3cf43 : Nat → FieldType := fun k => match k with
  | _ => .int
theorem nmJx3cf43 : ∀ a, a < 0 → ∀ b, b < 0 → a ≠ b → (TJx3cf43 a).2.1 ≠ (TJx3cf43 b).2.1 := by decide +kernel
theorem tyJx3cf43_ok : ∀ k, k < 0 → parseFieldDescriptor (TJx3cf43 k).2.2.1 = some (tyJx3cf43 k) := by decide +kernel
def RJ7 : String := "java/util/Arrays"
def TJ7 : u_T := fun k => match k with
  | _ => ("", "", "", false)
def tyJ7 : Nat → FieldType := fun k => match k with
  | _ => .int
theorem nmJ7 : ∀ a, a < 0 → ∀ b, b < 0 → a ≠ b → (TJ7 a).2.1 ≠ (TJ7 b).2.1 := by decide +kernel
theorem tyJ7_ok : ∀ k, k < 0 → parseFieldDescriptor (TJ7 k).2.2.1 = some (tyJ7 k) := by decide +kernel
abbrev cJ7_fill_d0a16 : ByteArray := prog_20_method_101_code
def yJ7_fill_d0a16 : MethodName := ⟨RJ7, "fill", "([JJ)V"⟩
abbrev cJ7_fill_53178 : ByteArray := prog_20_method_103_code
def yJ7_fill_53178 : MethodName := ⟨RJ7, "fill", "([II)V"⟩
def RJ3 : String := "jdk/internal/util/Preconditions"
def TJ3 : u_T := fun k => match k with
  | _ => ("", "", "", false)
def tyJ3 : Nat → FieldType := fun k => match k with
  | _ => .int
theorem nmJ3 : ∀ a, a < 0 → ∀ b, b < 0 → a ≠ b → (TJ3 a).2.1 ≠ (TJ3 b).2.1 := by decide +kernel
theorem tyJ3_ok : ∀ k, k < 0 → parseFieldDescriptor (TJ3 k).2.2.1 = some (tyJ3 k) := by decide +kernel
abbrev cJ3_checkIndex_8e157 : ByteArray := prog_21_method_11_code
def yJ3_checkIndex_8e157 : MethodName := ⟨RJ3, "checkIndex", "(IILjava/util/function/BiFunction;)I"⟩
def RL : String := "IceVoteLaw"
abbrev cL_law : ByteArray := code
def yL_law : MethodName := ⟨RL, "law", "([I)Z"⟩
abbrev vwCl : List vw_C := [(RX1, TX1, 8), (RX2, TX2, 3), (RX3, TX3, 2), (RX4, TX4, 2), (RX5, TX5, 6), (RX7, TX7, 4), (RX8, TX8, 2), (RX9, TX9, 2), (RX10, TX10, 12), (RX11, TX11, 16)]
