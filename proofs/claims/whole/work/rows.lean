section
-- ===== PART A: goes FIRST, ahead of the names: the tables' words, and 'selects' of the private methods out of them =====
/-- a private method of a class that the tables say can be made, by its rows of tables_1 -/
def lw_okq (q : MethodName × Nat) : Prop := (q.1.cls ≠ "java/lang/invoke/MethodHandle" ∧ q.1.cls ≠ "java/lang/invoke/VarHandle") ∧ Cond.instantiable q.1.cls q.2 ∈ tables_1 ∧ Cond.privateMethod q.1 ∈ tables_1 ∧ Cond.instanceMethod q.1 ∈ tables_1
theorem lw_p0 : lw_okq (⟨"HeardNumbers$Script", "isAtEnd", "()Z"⟩, 3) := ⟨⟨by decide +kernel, by decide +kernel⟩, List.mem_of_getElem? (i := 89) (by decide +kernel), List.mem_of_getElem? (i := 318) (by decide +kernel), List.mem_of_getElem? (i := 319) (by decide +kernel)⟩
theorem lw_p1 : lw_okq (⟨"HeardNumbers$Script", "readCandidate", "(LHeardNumbers$Heard;Z)I"⟩, 3) := ⟨⟨by decide +kernel, by decide +kernel⟩, List.mem_of_getElem? (i := 89) (by decide +kernel), List.mem_of_getElem? (i := 322) (by decide +kernel), List.mem_of_getElem? (i := 323) (by decide +kernel)⟩
theorem lw_p2 : lw_okq (⟨"HeardNumbers$Script", "valueFrom", "(I)I"⟩, 3) := ⟨⟨by decide +kernel, by decide +kernel⟩, List.mem_of_getElem? (i := 89) (by decide +kernel), List.mem_of_getElem? (i := 329) (by decide +kernel), List.mem_of_getElem? (i := 330) (by decide +kernel)⟩
theorem lw_p3 : lw_okq (⟨"HeardNumbers", "tellAnew", "()I"⟩, 9) := ⟨⟨by decide +kernel, by decide +kernel⟩, List.mem_of_getElem? (i := 15) (by decide +kernel), List.mem_of_getElem? (i := 363) (by decide +kernel), List.mem_of_getElem? (i := 364) (by decide +kernel)⟩
theorem lw_p4 : lw_okq (⟨"HeardNumbers$Heard", "spellSmall", "(I)Z"⟩, 7) := ⟨⟨by decide +kernel, by decide +kernel⟩, List.mem_of_getElem? (i := 23) (by decide +kernel), List.mem_of_getElem? (i := 387) (by decide +kernel), List.mem_of_getElem? (i := 388) (by decide +kernel)⟩
theorem lw_p5 : lw_okq (⟨"HeardNumbers$Survey", "findBest", "()V"⟩, 17) := ⟨⟨by decide +kernel, by decide +kernel⟩, List.mem_of_getElem? (i := 107) (by decide +kernel), List.mem_of_getElem? (i := 406) (by decide +kernel), List.mem_of_getElem? (i := 407) (by decide +kernel)⟩
theorem lw_p6 : lw_okq (⟨"HeardNumbers$Walk", "finish", "(I)Z"⟩, 13) := ⟨⟨by decide +kernel, by decide +kernel⟩, List.mem_of_getElem? (i := 149) (by decide +kernel), List.mem_of_getElem? (i := 420) (by decide +kernel), List.mem_of_getElem? (i := 421) (by decide +kernel)⟩
theorem lw_p7 : lw_okq (⟨"HeardNumbers$Walk", "isWhole", "(I)Z"⟩, 13) := ⟨⟨by decide +kernel, by decide +kernel⟩, List.mem_of_getElem? (i := 149) (by decide +kernel), List.mem_of_getElem? (i := 424) (by decide +kernel), List.mem_of_getElem? (i := 425) (by decide +kernel)⟩
theorem lw_p8 : lw_okq (⟨"HeardNumbers$Walk", "enter", "(II)Z"⟩, 13) := ⟨⟨by decide +kernel, by decide +kernel⟩, List.mem_of_getElem? (i := 149) (by decide +kernel), List.mem_of_getElem? (i := 428) (by decide +kernel), List.mem_of_getElem? (i := 429) (by decide +kernel)⟩
theorem lw_p9 : lw_okq (⟨"HeardNumbers$Walk", "passStop", "(I)Z"⟩, 13) := ⟨⟨by decide +kernel, by decide +kernel⟩, List.mem_of_getElem? (i := 149) (by decide +kernel), List.mem_of_getElem? (i := 432) (by decide +kernel), List.mem_of_getElem? (i := 433) (by decide +kernel)⟩
theorem lw_p10 : lw_okq (⟨"HeardNumbers$Walk", "passAnd", "(I)Z"⟩, 13) := ⟨⟨by decide +kernel, by decide +kernel⟩, List.mem_of_getElem? (i := 149) (by decide +kernel), List.mem_of_getElem? (i := 436) (by decide +kernel), List.mem_of_getElem? (i := 437) (by decide +kernel)⟩
theorem lw_p11 : lw_okq (⟨"HeardNumbers$Walk", "passHundred", "(I)Z"⟩, 13) := ⟨⟨by decide +kernel, by decide +kernel⟩, List.mem_of_getElem? (i := 149) (by decide +kernel), List.mem_of_getElem? (i := 440) (by decide +kernel), List.mem_of_getElem? (i := 441) (by decide +kernel)⟩
theorem lw_p12 : lw_okq (⟨"HeardNumbers$Walk", "passThousand", "(I)Z"⟩, 13) := ⟨⟨by decide +kernel, by decide +kernel⟩, List.mem_of_getElem? (i := 149) (by decide +kernel), List.mem_of_getElem? (i := 444) (by decide +kernel), List.mem_of_getElem? (i := 445) (by decide +kernel)⟩
theorem lw_p13 : lw_okq (⟨"HeardNumbers$Walk", "passLow", "(II)Z"⟩, 13) := ⟨⟨by decide +kernel, by decide +kernel⟩, List.mem_of_getElem? (i := 149) (by decide +kernel), List.mem_of_getElem? (i := 448) (by decide +kernel), List.mem_of_getElem? (i := 449) (by decide +kernel)⟩
theorem lw_p14 : lw_okq (⟨"HeardNumbers$Survey", "isSound", "()Z"⟩, 17) := ⟨⟨by decide +kernel, by decide +kernel⟩, List.mem_of_getElem? (i := 107) (by decide +kernel), List.mem_of_getElem? (i := 452) (by decide +kernel), List.mem_of_getElem? (i := 453) (by decide +kernel)⟩
theorem lw_p15 : lw_okq (⟨"HeardNumbers$Survey", "keepBest", "()V"⟩, 17) := ⟨⟨by decide +kernel, by decide +kernel⟩, List.mem_of_getElem? (i := 107) (by decide +kernel), List.mem_of_getElem? (i := 468) (by decide +kernel), List.mem_of_getElem? (i := 469) (by decide +kernel)⟩
def lw_privs_1 : List (MethodName × Nat) := [(⟨"HeardNumbers$Script", "isAtEnd", "()Z"⟩, 3), (⟨"HeardNumbers$Script", "readCandidate", "(LHeardNumbers$Heard;Z)I"⟩, 3), (⟨"HeardNumbers$Script", "valueFrom", "(I)I"⟩, 3), (⟨"HeardNumbers", "tellAnew", "()I"⟩, 9), (⟨"HeardNumbers$Heard", "spellSmall", "(I)Z"⟩, 7), (⟨"HeardNumbers$Survey", "findBest", "()V"⟩, 17), (⟨"HeardNumbers$Walk", "finish", "(I)Z"⟩, 13), (⟨"HeardNumbers$Walk", "isWhole", "(I)Z"⟩, 13), (⟨"HeardNumbers$Walk", "enter", "(II)Z"⟩, 13), (⟨"HeardNumbers$Walk", "passStop", "(I)Z"⟩, 13), (⟨"HeardNumbers$Walk", "passAnd", "(I)Z"⟩, 13), (⟨"HeardNumbers$Walk", "passHundred", "(I)Z"⟩, 13), (⟨"HeardNumbers$Walk", "passThousand", "(I)Z"⟩, 13), (⟨"HeardNumbers$Walk", "passLow", "(II)Z"⟩, 13), (⟨"HeardNumbers$Survey", "isSound", "()Z"⟩, 17), (⟨"HeardNumbers$Survey", "keepBest", "()V"⟩, 17)]
theorem lw_r1 : ∀ q ∈ lw_privs_1, lw_okq q := List.forall_mem_cons.mpr ⟨lw_p0, List.forall_mem_cons.mpr ⟨lw_p1, List.forall_mem_cons.mpr ⟨lw_p2, List.forall_mem_cons.mpr ⟨lw_p3, List.forall_mem_cons.mpr ⟨lw_p4, List.forall_mem_cons.mpr ⟨lw_p5, List.forall_mem_cons.mpr ⟨lw_p6, List.forall_mem_cons.mpr ⟨lw_p7, List.forall_mem_cons.mpr ⟨lw_p8, List.forall_mem_cons.mpr ⟨lw_p9, List.forall_mem_cons.mpr ⟨lw_p10, List.forall_mem_cons.mpr ⟨lw_p11, List.forall_mem_cons.mpr ⟨lw_p12, List.forall_mem_cons.mpr ⟨lw_p13, List.forall_mem_cons.mpr ⟨lw_p14, List.forall_mem_cons.mpr ⟨lw_p15, fun _ h => absurd h List.not_mem_nil⟩⟩⟩⟩⟩⟩⟩⟩⟩⟩⟩⟩⟩⟩⟩⟩
theorem lw_p16 : lw_okq (⟨"HeardNumbers$Survey", "findCounted", "()V"⟩, 17) := ⟨⟨by decide +kernel, by decide +kernel⟩, List.mem_of_getElem? (i := 107) (by decide +kernel), List.mem_of_getElem? (i := 485) (by decide +kernel), List.mem_of_getElem? (i := 486) (by decide +kernel)⟩
theorem lw_p17 : lw_okq (⟨"HeardNumbers$Survey", "tellsBest", "()Z"⟩, 17) := ⟨⟨by decide +kernel, by decide +kernel⟩, List.mem_of_getElem? (i := 107) (by decide +kernel), List.mem_of_getElem? (i := 499) (by decide +kernel), List.mem_of_getElem? (i := 500) (by decide +kernel)⟩
theorem lw_p18 : lw_okq (⟨"HeardNumbers$Counted", "questionsIfTrue", "(I)I"⟩, 8) := ⟨⟨by decide +kernel, by decide +kernel⟩, List.mem_of_getElem? (i := 113) (by decide +kernel), List.mem_of_getElem? (i := 522) (by decide +kernel), List.mem_of_getElem? (i := 523) (by decide +kernel)⟩
theorem lw_p19 : lw_okq (⟨"HeardNumbers$Counted", "alikeTo", "(I)J"⟩, 8) := ⟨⟨by decide +kernel, by decide +kernel⟩, List.mem_of_getElem? (i := 113) (by decide +kernel), List.mem_of_getElem? (i := 526) (by decide +kernel), List.mem_of_getElem? (i := 527) (by decide +kernel)⟩
theorem lw_p20 : lw_okq (⟨"HeardNumbers$Counted", "isAlike", "(II)Z"⟩, 8) := ⟨⟨by decide +kernel, by decide +kernel⟩, List.mem_of_getElem? (i := 113) (by decide +kernel), List.mem_of_getElem? (i := 530) (by decide +kernel), List.mem_of_getElem? (i := 531) (by decide +kernel)⟩
theorem lw_p21 : lw_okq (⟨"HeardNumbers$Counted", "takingLike", "(II)J"⟩, 8) := ⟨⟨by decide +kernel, by decide +kernel⟩, List.mem_of_getElem? (i := 113) (by decide +kernel), List.mem_of_getElem? (i := 542) (by decide +kernel), List.mem_of_getElem? (i := 543) (by decide +kernel)⟩
theorem lw_p22 : lw_okq (⟨"HeardNumbers", "keepForUndo", "()V"⟩, 9) := ⟨⟨by decide +kernel, by decide +kernel⟩, List.mem_of_getElem? (i := 15) (by decide +kernel), List.mem_of_getElem? (i := 569) (by decide +kernel), List.mem_of_getElem? (i := 570) (by decide +kernel)⟩
theorem lw_p23 : lw_okq (⟨"HeardNumbers$Survey", "isCounted", "()Z"⟩, 17) := ⟨⟨by decide +kernel, by decide +kernel⟩, List.mem_of_getElem? (i := 107) (by decide +kernel), List.mem_of_getElem? (i := 678) (by decide +kernel), List.mem_of_getElem? (i := 679) (by decide +kernel)⟩
theorem lw_p24 : lw_okq (⟨"HeardNumbers$Survey", "weigh", "(I)V"⟩, 17) := ⟨⟨by decide +kernel, by decide +kernel⟩, List.mem_of_getElem? (i := 107) (by decide +kernel), List.mem_of_getElem? (i := 690) (by decide +kernel), List.mem_of_getElem? (i := 691) (by decide +kernel)⟩
theorem lw_p25 : lw_okq (⟨"HeardNumbers$Sheet", "cutToLane", "(J)J"⟩, 3) := ⟨⟨by decide +kernel, by decide +kernel⟩, List.mem_of_getElem? (i := 255) (by decide +kernel), List.mem_of_getElem? (i := 745) (by decide +kernel), List.mem_of_getElem? (i := 746) (by decide +kernel)⟩
theorem lw_p26 : lw_okq (⟨"HeardNumbersModel", "isSlot", "(I)Z"⟩, 37) := ⟨⟨by decide +kernel, by decide +kernel⟩, List.mem_of_getElem? (i := 771) (by decide +kernel), List.mem_of_getElem? (i := 893) (by decide +kernel), List.mem_of_getElem? (i := 894) (by decide +kernel)⟩
theorem lw_p27 : lw_okq (⟨"HeardNumbersModel", "at", "(I)I"⟩, 37) := ⟨⟨by decide +kernel, by decide +kernel⟩, List.mem_of_getElem? (i := 771) (by decide +kernel), List.mem_of_getElem? (i := 900) (by decide +kernel), List.mem_of_getElem? (i := 901) (by decide +kernel)⟩
theorem lw_p28 : lw_okq (⟨"HeardNumbersModel", "finds", "()V"⟩, 37) := ⟨⟨by decide +kernel, by decide +kernel⟩, List.mem_of_getElem? (i := 771) (by decide +kernel), List.mem_of_getElem? (i := 908) (by decide +kernel), List.mem_of_getElem? (i := 909) (by decide +kernel)⟩
theorem lw_p29 : lw_okq (⟨"HeardNumbersModel", "readings", "()I"⟩, 37) := ⟨⟨by decide +kernel, by decide +kernel⟩, List.mem_of_getElem? (i := 771) (by decide +kernel), List.mem_of_getElem? (i := 912) (by decide +kernel), List.mem_of_getElem? (i := 913) (by decide +kernel)⟩
theorem lw_p30 : lw_okq (⟨"HeardNumbersModel", "takes", "(I)Z"⟩, 37) := ⟨⟨by decide +kernel, by decide +kernel⟩, List.mem_of_getElem? (i := 771) (by decide +kernel), List.mem_of_getElem? (i := 916) (by decide +kernel), List.mem_of_getElem? (i := 917) (by decide +kernel)⟩
theorem lw_p31 : lw_okq (⟨"HeardNumbersModel", "takesPicked", "()Z"⟩, 37) := ⟨⟨by decide +kernel, by decide +kernel⟩, List.mem_of_getElem? (i := 771) (by decide +kernel), List.mem_of_getElem? (i := 920) (by decide +kernel), List.mem_of_getElem? (i := 921) (by decide +kernel)⟩
def lw_privs_2 : List (MethodName × Nat) := [(⟨"HeardNumbers$Survey", "findCounted", "()V"⟩, 17), (⟨"HeardNumbers$Survey", "tellsBest", "()Z"⟩, 17), (⟨"HeardNumbers$Counted", "questionsIfTrue", "(I)I"⟩, 8), (⟨"HeardNumbers$Counted", "alikeTo", "(I)J"⟩, 8), (⟨"HeardNumbers$Counted", "isAlike", "(II)Z"⟩, 8), (⟨"HeardNumbers$Counted", "takingLike", "(II)J"⟩, 8), (⟨"HeardNumbers", "keepForUndo", "()V"⟩, 9), (⟨"HeardNumbers$Survey", "isCounted", "()Z"⟩, 17), (⟨"HeardNumbers$Survey", "weigh", "(I)V"⟩, 17), (⟨"HeardNumbers$Sheet", "cutToLane", "(J)J"⟩, 3), (⟨"HeardNumbersModel", "isSlot", "(I)Z"⟩, 37), (⟨"HeardNumbersModel", "at", "(I)I"⟩, 37), (⟨"HeardNumbersModel", "finds", "()V"⟩, 37), (⟨"HeardNumbersModel", "readings", "()I"⟩, 37), (⟨"HeardNumbersModel", "takes", "(I)Z"⟩, 37), (⟨"HeardNumbersModel", "takesPicked", "()Z"⟩, 37)]
theorem lw_r2 : ∀ q ∈ lw_privs_2, lw_okq q := List.forall_mem_cons.mpr ⟨lw_p16, List.forall_mem_cons.mpr ⟨lw_p17, List.forall_mem_cons.mpr ⟨lw_p18, List.forall_mem_cons.mpr ⟨lw_p19, List.forall_mem_cons.mpr ⟨lw_p20, List.forall_mem_cons.mpr ⟨lw_p21, List.forall_mem_cons.mpr ⟨lw_p22, List.forall_mem_cons.mpr ⟨lw_p23, List.forall_mem_cons.mpr ⟨lw_p24, List.forall_mem_cons.mpr ⟨lw_p25, List.forall_mem_cons.mpr ⟨lw_p26, List.forall_mem_cons.mpr ⟨lw_p27, List.forall_mem_cons.mpr ⟨lw_p28, List.forall_mem_cons.mpr ⟨lw_p29, List.forall_mem_cons.mpr ⟨lw_p30, List.forall_mem_cons.mpr ⟨lw_p31, fun _ h => absurd h List.not_mem_nil⟩⟩⟩⟩⟩⟩⟩⟩⟩⟩⟩⟩⟩⟩⟩⟩
theorem lw_p32 : lw_okq (⟨"HeardNumbersModel", "isSaid", "()Z"⟩, 37) := ⟨⟨by decide +kernel, by decide +kernel⟩, List.mem_of_getElem? (i := 771) (by decide +kernel), List.mem_of_getElem? (i := 924) (by decide +kernel), List.mem_of_getElem? (i := 925) (by decide +kernel)⟩
theorem lw_p33 : lw_okq (⟨"HeardNumbersModel", "number", "()I"⟩, 37) := ⟨⟨by decide +kernel, by decide +kernel⟩, List.mem_of_getElem? (i := 771) (by decide +kernel), List.mem_of_getElem? (i := 928) (by decide +kernel), List.mem_of_getElem? (i := 929) (by decide +kernel)⟩
theorem lw_p34 : lw_okq (⟨"HeardNumbersModel", "small", "()I"⟩, 37) := ⟨⟨by decide +kernel, by decide +kernel⟩, List.mem_of_getElem? (i := 771) (by decide +kernel), List.mem_of_getElem? (i := 932) (by decide +kernel), List.mem_of_getElem? (i := 933) (by decide +kernel)⟩
theorem lw_p35 : lw_okq (⟨"HeardNumbersModel", "wordHere", "()I"⟩, 37) := ⟨⟨by decide +kernel, by decide +kernel⟩, List.mem_of_getElem? (i := 771) (by decide +kernel), List.mem_of_getElem? (i := 936) (by decide +kernel), List.mem_of_getElem? (i := 937) (by decide +kernel)⟩
theorem lw_p36 : lw_okq (⟨"HeardNumbersModel", "low", "()I"⟩, 37) := ⟨⟨by decide +kernel, by decide +kernel⟩, List.mem_of_getElem? (i := 771) (by decide +kernel), List.mem_of_getElem? (i := 941) (by decide +kernel), List.mem_of_getElem? (i := 942) (by decide +kernel)⟩
theorem lw_p37 : lw_okq (⟨"HeardNumbersModel", "more", "()I"⟩, 37) := ⟨⟨by decide +kernel, by decide +kernel⟩, List.mem_of_getElem? (i := 771) (by decide +kernel), List.mem_of_getElem? (i := 951) (by decide +kernel), List.mem_of_getElem? (i := 952) (by decide +kernel)⟩
theorem lw_p38 : lw_okq (⟨"HeardNumbersModel", "holds", "()Z"⟩, 37) := ⟨⟨by decide +kernel, by decide +kernel⟩, List.mem_of_getElem? (i := 771) (by decide +kernel), List.mem_of_getElem? (i := 955) (by decide +kernel), List.mem_of_getElem? (i := 956) (by decide +kernel)⟩
theorem lw_p39 : lw_okq (⟨"HeardNumbersModel", "counts", "()V"⟩, 37) := ⟨⟨by decide +kernel, by decide +kernel⟩, List.mem_of_getElem? (i := 771) (by decide +kernel), List.mem_of_getElem? (i := 959) (by decide +kernel), List.mem_of_getElem? (i := 960) (by decide +kernel)⟩
theorem lw_p40 : lw_okq (⟨"HeardNumbersModel", "isAsBest", "()Z"⟩, 37) := ⟨⟨by decide +kernel, by decide +kernel⟩, List.mem_of_getElem? (i := 771) (by decide +kernel), List.mem_of_getElem? (i := 963) (by decide +kernel), List.mem_of_getElem? (i := 964) (by decide +kernel)⟩
theorem lw_p41 : lw_okq (⟨"HeardNumbersModel", "look", "(I)I"⟩, 37) := ⟨⟨by decide +kernel, by decide +kernel⟩, List.mem_of_getElem? (i := 771) (by decide +kernel), List.mem_of_getElem? (i := 967) (by decide +kernel), List.mem_of_getElem? (i := 968) (by decide +kernel)⟩
theorem lw_p42 : lw_okq (⟨"HeardNumbersModel", "questions", "()I"⟩, 37) := ⟨⟨by decide +kernel, by decide +kernel⟩, List.mem_of_getElem? (i := 771) (by decide +kernel), List.mem_of_getElem? (i := 971) (by decide +kernel), List.mem_of_getElem? (i := 972) (by decide +kernel)⟩
theorem lw_p43 : lw_okq (⟨"HeardNumbersModel", "tellsSame", "(J)Z"⟩, 37) := ⟨⟨by decide +kernel, by decide +kernel⟩, List.mem_of_getElem? (i := 771) (by decide +kernel), List.mem_of_getElem? (i := 975) (by decide +kernel), List.mem_of_getElem? (i := 976) (by decide +kernel)⟩
theorem lw_p44 : lw_okq (⟨"HeardNumbersModel", "partOf", "(JII)J"⟩, 37) := ⟨⟨by decide +kernel, by decide +kernel⟩, List.mem_of_getElem? (i := 771) (by decide +kernel), List.mem_of_getElem? (i := 979) (by decide +kernel), List.mem_of_getElem? (i := 980) (by decide +kernel)⟩
theorem lw_p45 : lw_okq (⟨"HeardNumbersModel", "spoilt", "()I"⟩, 37) := ⟨⟨by decide +kernel, by decide +kernel⟩, List.mem_of_getElem? (i := 771) (by decide +kernel), List.mem_of_getElem? (i := 983) (by decide +kernel), List.mem_of_getElem? (i := 984) (by decide +kernel)⟩
theorem lw_p46 : lw_okq (⟨"HeardNumbersModel", "here", "()I"⟩, 37) := ⟨⟨by decide +kernel, by decide +kernel⟩, List.mem_of_getElem? (i := 771) (by decide +kernel), List.mem_of_getElem? (i := 997) (by decide +kernel), List.mem_of_getElem? (i := 998) (by decide +kernel)⟩
theorem lw_p47 : lw_okq (⟨"HeardNumbersModel", "reads", "(I)Z"⟩, 37) := ⟨⟨by decide +kernel, by decide +kernel⟩, List.mem_of_getElem? (i := 771) (by decide +kernel), List.mem_of_getElem? (i := 1001) (by decide +kernel), List.mem_of_getElem? (i := 1002) (by decide +kernel)⟩
def lw_privs_3 : List (MethodName × Nat) := [(⟨"HeardNumbersModel", "isSaid", "()Z"⟩, 37), (⟨"HeardNumbersModel", "number", "()I"⟩, 37), (⟨"HeardNumbersModel", "small", "()I"⟩, 37), (⟨"HeardNumbersModel", "wordHere", "()I"⟩, 37), (⟨"HeardNumbersModel", "low", "()I"⟩, 37), (⟨"HeardNumbersModel", "more", "()I"⟩, 37), (⟨"HeardNumbersModel", "holds", "()Z"⟩, 37), (⟨"HeardNumbersModel", "counts", "()V"⟩, 37), (⟨"HeardNumbersModel", "isAsBest", "()Z"⟩, 37), (⟨"HeardNumbersModel", "look", "(I)I"⟩, 37), (⟨"HeardNumbersModel", "questions", "()I"⟩, 37), (⟨"HeardNumbersModel", "tellsSame", "(J)Z"⟩, 37), (⟨"HeardNumbersModel", "partOf", "(JII)J"⟩, 37), (⟨"HeardNumbersModel", "spoilt", "()I"⟩, 37), (⟨"HeardNumbersModel", "here", "()I"⟩, 37), (⟨"HeardNumbersModel", "reads", "(I)Z"⟩, 37)]
theorem lw_r3 : ∀ q ∈ lw_privs_3, lw_okq q := List.forall_mem_cons.mpr ⟨lw_p32, List.forall_mem_cons.mpr ⟨lw_p33, List.forall_mem_cons.mpr ⟨lw_p34, List.forall_mem_cons.mpr ⟨lw_p35, List.forall_mem_cons.mpr ⟨lw_p36, List.forall_mem_cons.mpr ⟨lw_p37, List.forall_mem_cons.mpr ⟨lw_p38, List.forall_mem_cons.mpr ⟨lw_p39, List.forall_mem_cons.mpr ⟨lw_p40, List.forall_mem_cons.mpr ⟨lw_p41, List.forall_mem_cons.mpr ⟨lw_p42, List.forall_mem_cons.mpr ⟨lw_p43, List.forall_mem_cons.mpr ⟨lw_p44, List.forall_mem_cons.mpr ⟨lw_p45, List.forall_mem_cons.mpr ⟨lw_p46, List.forall_mem_cons.mpr ⟨lw_p47, fun _ h => absurd h List.not_mem_nil⟩⟩⟩⟩⟩⟩⟩⟩⟩⟩⟩⟩⟩⟩⟩⟩
theorem lw_p48 : lw_okq (⟨"HeardNumbersModel", "wordRead", "()I"⟩, 37) := ⟨⟨by decide +kernel, by decide +kernel⟩, List.mem_of_getElem? (i := 771) (by decide +kernel), List.mem_of_getElem? (i := 1005) (by decide +kernel), List.mem_of_getElem? (i := 1006) (by decide +kernel)⟩
theorem lw_p49 : lw_okq (⟨"HeardNumbersModel", "has", "(I)Z"⟩, 37) := ⟨⟨by decide +kernel, by decide +kernel⟩, List.mem_of_getElem? (i := 771) (by decide +kernel), List.mem_of_getElem? (i := 1014) (by decide +kernel), List.mem_of_getElem? (i := 1015) (by decide +kernel)⟩
theorem lw_p50 : lw_okq (⟨"HeardNumbersModel", "fault", "()I"⟩, 37) := ⟨⟨by decide +kernel, by decide +kernel⟩, List.mem_of_getElem? (i := 771) (by decide +kernel), List.mem_of_getElem? (i := 1018) (by decide +kernel), List.mem_of_getElem? (i := 1019) (by decide +kernel)⟩
theorem lw_p51 : lw_okq (⟨"HeardNumbersModel", "clears", "()V"⟩, 37) := ⟨⟨by decide +kernel, by decide +kernel⟩, List.mem_of_getElem? (i := 771) (by decide +kernel), List.mem_of_getElem? (i := 1022) (by decide +kernel), List.mem_of_getElem? (i := 1023) (by decide +kernel)⟩
theorem lw_p52 : lw_okq (⟨"HeardNumbersModel", "saysSmall", "(I)V"⟩, 37) := ⟨⟨by decide +kernel, by decide +kernel⟩, List.mem_of_getElem? (i := 771) (by decide +kernel), List.mem_of_getElem? (i := 1031) (by decide +kernel), List.mem_of_getElem? (i := 1032) (by decide +kernel)⟩
theorem lw_p53 : lw_okq (⟨"HeardNumbersModel", "says", "(I)V"⟩, 37) := ⟨⟨by decide +kernel, by decide +kernel⟩, List.mem_of_getElem? (i := 771) (by decide +kernel), List.mem_of_getElem? (i := 1035) (by decide +kernel), List.mem_of_getElem? (i := 1036) (by decide +kernel)⟩
theorem lw_p54 : lw_okq (⟨"HeardNumbersModel", "hears", "(II)V"⟩, 37) := ⟨⟨by decide +kernel, by decide +kernel⟩, List.mem_of_getElem? (i := 771) (by decide +kernel), List.mem_of_getElem? (i := 1039) (by decide +kernel), List.mem_of_getElem? (i := 1040) (by decide +kernel)⟩
theorem lw_p55 : lw_okq (⟨"HeardNumbersModel", "notes", "()V"⟩, 37) := ⟨⟨by decide +kernel, by decide +kernel⟩, List.mem_of_getElem? (i := 771) (by decide +kernel), List.mem_of_getElem? (i := 1051) (by decide +kernel), List.mem_of_getElem? (i := 1052) (by decide +kernel)⟩
theorem lw_p56 : lw_okq (⟨"HeardNumbersModel", "placeOf", "(II)I"⟩, 37) := ⟨⟨by decide +kernel, by decide +kernel⟩, List.mem_of_getElem? (i := 771) (by decide +kernel), List.mem_of_getElem? (i := 1059) (by decide +kernel), List.mem_of_getElem? (i := 1060) (by decide +kernel)⟩
theorem lw_p57 : lw_okq (⟨"HeardNumbersModel", "comes", "(III)V"⟩, 37) := ⟨⟨by decide +kernel, by decide +kernel⟩, List.mem_of_getElem? (i := 771) (by decide +kernel), List.mem_of_getElem? (i := 1063) (by decide +kernel), List.mem_of_getElem? (i := 1064) (by decide +kernel)⟩
theorem lw_p58 : lw_okq (⟨"HeardNumbersModel", "isCounted", "(I)Z"⟩, 37) := ⟨⟨by decide +kernel, by decide +kernel⟩, List.mem_of_getElem? (i := 771) (by decide +kernel), List.mem_of_getElem? (i := 1118) (by decide +kernel), List.mem_of_getElem? (i := 1119) (by decide +kernel)⟩
theorem lw_p59 : lw_okq (⟨"HeardNumbersModel", "why", "(IIII)I"⟩, 37) := ⟨⟨by decide +kernel, by decide +kernel⟩, List.mem_of_getElem? (i := 771) (by decide +kernel), List.mem_of_getElem? (i := 1151) (by decide +kernel), List.mem_of_getElem? (i := 1152) (by decide +kernel)⟩
def lw_privs_4 : List (MethodName × Nat) := [(⟨"HeardNumbersModel", "wordRead", "()I"⟩, 37), (⟨"HeardNumbersModel", "has", "(I)Z"⟩, 37), (⟨"HeardNumbersModel", "fault", "()I"⟩, 37), (⟨"HeardNumbersModel", "clears", "()V"⟩, 37), (⟨"HeardNumbersModel", "saysSmall", "(I)V"⟩, 37), (⟨"HeardNumbersModel", "says", "(I)V"⟩, 37), (⟨"HeardNumbersModel", "hears", "(II)V"⟩, 37), (⟨"HeardNumbersModel", "notes", "()V"⟩, 37), (⟨"HeardNumbersModel", "placeOf", "(II)I"⟩, 37), (⟨"HeardNumbersModel", "comes", "(III)V"⟩, 37), (⟨"HeardNumbersModel", "isCounted", "(I)Z"⟩, 37), (⟨"HeardNumbersModel", "why", "(IIII)I"⟩, 37)]
theorem lw_r4 : ∀ q ∈ lw_privs_4, lw_okq q := List.forall_mem_cons.mpr ⟨lw_p48, List.forall_mem_cons.mpr ⟨lw_p49, List.forall_mem_cons.mpr ⟨lw_p50, List.forall_mem_cons.mpr ⟨lw_p51, List.forall_mem_cons.mpr ⟨lw_p52, List.forall_mem_cons.mpr ⟨lw_p53, List.forall_mem_cons.mpr ⟨lw_p54, List.forall_mem_cons.mpr ⟨lw_p55, List.forall_mem_cons.mpr ⟨lw_p56, List.forall_mem_cons.mpr ⟨lw_p57, List.forall_mem_cons.mpr ⟨lw_p58, List.forall_mem_cons.mpr ⟨lw_p59, fun _ h => absurd h List.not_mem_nil⟩⟩⟩⟩⟩⟩⟩⟩⟩⟩⟩⟩
def lw_privs : List (MethodName × Nat) := lw_privs_1 ++ (lw_privs_2 ++ (lw_privs_3 ++ (lw_privs_4)))
def lw_tbl : List Cond := k2_sels lw_privs ++ tables_1
theorem lw_privs_ok : ∀ q ∈ lw_privs, lw_okq q := by
  show ∀ q ∈ lw_privs_1 ++ (lw_privs_2 ++ (lw_privs_3 ++ (lw_privs_4))), lw_okq q
  exact List.forall_mem_append.mpr ⟨lw_r1, List.forall_mem_append.mpr ⟨lw_r2, List.forall_mem_append.mpr ⟨lw_r3, lw_r4⟩⟩⟩
end
section
def RX0 : String := "HeardNumbers$Check"
def TX0 : u_T := fun k => match k with
  | _ => ("", "", "", false)
def tyX0 : Nat → FieldType := fun k => match k with
  | _ => .int
abbrev wsX00 : List Cond := u_ws RX0 TX0 0
theorem nmX0 : ∀ a, a < 0 → ∀ b, b < 0 → a ≠ b → (TX0 a).2.1 ≠ (TX0 b).2.1 := by decide +kernel
theorem tyX0_ok : ∀ k, k < 0 → parseFieldDescriptor (TX0 k).2.2.1 = some (tyX0 k) := by decide +kernel
abbrev cX0_isKept : ByteArray := prog_2_method_2_code
def yX0_isKept : MethodName := ⟨RX0, "isKept", "(I[II)Z"⟩
abbrev cX0_others : ByteArray := prog_2_method_3_code
def yX0_others : MethodName := ⟨RX0, "others", "([II)I"⟩
abbrev cX0_rises : ByteArray := prog_2_method_4_code
def yX0_rises : MethodName := ⟨RX0, "rises", "([II)Z"⟩
abbrev cX0_isSteady : ByteArray := prog_2_method_5_code
def yX0_isSteady : MethodName := ⟨RX0, "isSteady", "([II)Z"⟩
def RX1 : String := "HeardNumbers$Counted"
def TX1 : u_T := fun k => match k with
  | 0 => ("HeardNumbers$Counted", "known", "Z", false)
  | 1 => ("HeardNumbers$Counted", "many", "I", false)
  | 2 => ("HeardNumbers$Counted", "tally", "[I", true)
  | 3 => ("HeardNumbers$Counted", "cost", "[I", true)
  | 4 => ("HeardNumbers$Counted", "numbers", "[I", true)
  | 5 => ("HeardNumbers$Counted", "number", "[I", true)
  | 6 => ("HeardNumbers$Counted", "taking", "[J", true)
  | _ => ("HeardNumbers$Counted", "part", "[I", true)
def tyX1 : Nat → FieldType := fun k => match k with
  | 0 => .boolean
  | 1 => .int
  | 2 => .array .int
  | 3 => .array .int
  | 4 => .array .int
  | 5 => .array .int
  | 6 => .array .long
  | _ => .array .int
abbrev wsX10 : List Cond := u_ws RX1 TX1 8
theorem nmX1 : ∀ a, a < 8 → ∀ b, b < 8 → a ≠ b → (TX1 a).2.1 ≠ (TX1 b).2.1 := by decide +kernel
theorem tyX1_ok : ∀ k, k < 8 → parseFieldDescriptor (TX1 k).2.2.1 = some (tyX1 k) := by decide +kernel
abbrev cX1_init : ByteArray := prog_3_method_1_code
def yX1_init : MethodName := ⟨RX1, "<init>", "()V"⟩
abbrev cX1_clear : ByteArray := prog_3_method_2_code
def yX1_clear : MethodName := ⟨RX1, "clear", "()V"⟩
abbrev cX1_add : ByteArray := prog_3_method_3_code
def yX1_add : MethodName := ⟨RX1, "add", "(LHeardNumbers$Walk;I)V"⟩
abbrev cX1_lastNumber : ByteArray := prog_3_method_4_code
def yX1_lastNumber : MethodName := ⟨RX1, "lastNumber", "(I)I"⟩
abbrev cX1_partedBest : ByteArray := prog_3_method_5_code
def yX1_partedBest : MethodName := ⟨RX1, "partedBest", "([II)I"⟩
abbrev cX1_questions : ByteArray := prog_3_method_6_code
def yX1_questions : MethodName := ⟨RX1, "questions", "()I"⟩
abbrev cX1_questionsIfTrue : ByteArray := prog_3_method_7_code
def yX1_questionsIfTrue : MethodName := ⟨RX1, "questionsIfTrue", "(I)I"⟩
abbrev cX1_takingLike : ByteArray := prog_3_method_8_code
def yX1_takingLike : MethodName := ⟨RX1, "takingLike", "(II)J"⟩
abbrev cX1_alikeTo : ByteArray := prog_3_method_9_code
def yX1_alikeTo : MethodName := ⟨RX1, "alikeTo", "(I)J"⟩
abbrev cX1_isAlike : ByteArray := prog_3_method_10_code
def yX1_isAlike : MethodName := ⟨RX1, "isAlike", "(II)Z"⟩
def RX2 : String := "HeardNumbers$Heard"
def TX2 : u_T := fun k => match k with
  | 0 => ("HeardNumbers$Heard", "filled", "[I", true)
  | 1 => ("HeardNumbers$Heard", "word", "[I", true)
  | 2 => ("HeardNumbers$Heard", "cost", "[I", true)
  | 3 => ("HeardNumbers$Heard", "size", "I", false)
  | 4 => ("HeardNumbers$Heard", "kind", "I", false)
  | 5 => ("HeardNumbers$Heard", "slack", "I", false)
  | _ => ("HeardNumbers$Heard", "draw", "I", false)
def tyX2 : Nat → FieldType := fun k => match k with
  | 0 => .array .int
  | 1 => .array .int
  | 2 => .array .int
  | 3 => .int
  | 4 => .int
  | 5 => .int
  | _ => .int
abbrev wsX20 : List Cond := u_ws RX2 TX2 7
theorem nmX2 : ∀ a, a < 7 → ∀ b, b < 7 → a ≠ b → (TX2 a).2.1 ≠ (TX2 b).2.1 := by decide +kernel
theorem tyX2_ok : ∀ k, k < 7 → parseFieldDescriptor (TX2 k).2.2.1 = some (tyX2 k) := by decide +kernel
abbrev cX2_init : ByteArray := prog_4_method_1_code
def yX2_init : MethodName := ⟨RX2, "<init>", "()V"⟩
abbrev cX2_take : ByteArray := prog_4_method_2_code
def yX2_take : MethodName := ⟨RX2, "take", "(LHeardNumbers$Heard;)V"⟩
abbrev cX2_takeSlots : ByteArray := prog_4_method_3_code
def yX2_takeSlots : MethodName := ⟨RX2, "takeSlots", "(LHeardNumbers$Heard;)V"⟩
abbrev cX2_isSlot : ByteArray := prog_4_method_4_code
def yX2_isSlot : MethodName := ⟨RX2, "isSlot", "(I)Z"⟩
abbrev cX2_find : ByteArray := prog_4_method_5_code
def yX2_find : MethodName := ⟨RX2, "find", "(II)I"⟩
abbrev cX2_candidates : ByteArray := prog_4_method_6_code
def yX2_candidates : MethodName := ⟨RX2, "candidates", "()I"⟩
abbrev cX2_isLastFull : ByteArray := prog_4_method_7_code
def yX2_isLastFull : MethodName := ⟨RX2, "isLastFull", "()Z"⟩
abbrev cX2_grow : ByteArray := prog_4_method_8_code
def yX2_grow : MethodName := ⟨RX2, "grow", "(II)Z"⟩
abbrev cX2_widen : ByteArray := prog_4_method_9_code
def yX2_widen : MethodName := ⟨RX2, "widen", "(III)Z"⟩
abbrev cX2_cut : ByteArray := prog_4_method_10_code
def yX2_cut : MethodName := ⟨RX2, "cut", "(I)V"⟩
abbrev cX2_narrowTo : ByteArray := prog_4_method_11_code
def yX2_narrowTo : MethodName := ⟨RX2, "narrowTo", "(II)V"⟩
abbrev cX2_turn : ByteArray := prog_4_method_12_code
def yX2_turn : MethodName := ⟨RX2, "turn", "()V"⟩
abbrev cX2_spell : ByteArray := prog_4_method_13_code
def yX2_spell : MethodName := ⟨RX2, "spell", "(I)Z"⟩
abbrev cX2_spellSmall : ByteArray := prog_4_method_14_code
def yX2_spellSmall : MethodName := ⟨RX2, "spellSmall", "(I)Z"⟩
def RX3 : String := "HeardNumbers$Past"
def TX3 : u_T := fun k => match k with
  | 0 => ("HeardNumbers$Past", "ring", "[LHeardNumbers$Heard;", true)
  | 1 => ("HeardNumbers$Past", "first", "I", false)
  | _ => ("HeardNumbers$Past", "many", "I", false)
def tyX3 : Nat → FieldType := fun k => match k with
  | 0 => .array (.object "HeardNumbers$Heard")
  | 1 => .int
  | _ => .int
abbrev wsX30 : List Cond := u_ws RX3 TX3 3
theorem nmX3 : ∀ a, a < 3 → ∀ b, b < 3 → a ≠ b → (TX3 a).2.1 ≠ (TX3 b).2.1 := by decide +kernel
theorem tyX3_ok : ∀ k, k < 3 → parseFieldDescriptor (TX3 k).2.2.1 = some (tyX3 k) := by decide +kernel
abbrev cX3_init : ByteArray := prog_5_method_1_code
def yX3_init : MethodName := ⟨RX3, "<init>", "()V"⟩
abbrev cX3_keep : ByteArray := prog_5_method_2_code
def yX3_keep : MethodName := ⟨RX3, "keep", "(LHeardNumbers$Heard;)V"⟩
abbrev cX3_giveBack : ByteArray := prog_5_method_3_code
def yX3_giveBack : MethodName := ⟨RX3, "giveBack", "(LHeardNumbers$Heard;)V"⟩
abbrev cX3_take : ByteArray := prog_5_method_4_code
def yX3_take : MethodName := ⟨RX3, "take", "(LHeardNumbers$Past;)V"⟩
def RX4 : String := "HeardNumbers$Script"
def TX4 : u_T := fun k => match k with
  | 0 => ("HeardNumbers$Script", "tape", "[C", true)
  | 1 => ("HeardNumbers$Script", "length", "I", false)
  | _ => ("HeardNumbers$Script", "at", "I", false)
def tyX4 : Nat → FieldType := fun k => match k with
  | 0 => .array .char
  | 1 => .int
  | _ => .int
abbrev wsX40 : List Cond := u_ws RX4 TX4 3
theorem nmX4 : ∀ a, a < 3 → ∀ b, b < 3 → a ≠ b → (TX4 a).2.1 ≠ (TX4 b).2.1 := by decide +kernel
theorem tyX4_ok : ∀ k, k < 3 → parseFieldDescriptor (TX4 k).2.2.1 = some (tyX4 k) := by decide +kernel
abbrev cX4_init : ByteArray := prog_6_method_1_code
def yX4_init : MethodName := ⟨RX4, "<init>", "()V"⟩
abbrev cX4_write : ByteArray := prog_6_method_2_code
def yX4_write : MethodName := ⟨RX4, "write", "(C)Z"⟩
abbrev cX4_read : ByteArray := prog_6_method_3_code
def yX4_read : MethodName := ⟨RX4, "read", "(LHeardNumbers$Heard;)I"⟩
abbrev cX4_readCandidate : ByteArray := prog_6_method_4_code
def yX4_readCandidate : MethodName := ⟨RX4, "readCandidate", "(LHeardNumbers$Heard;Z)I"⟩
abbrev cX4_valueFrom : ByteArray := prog_6_method_5_code
def yX4_valueFrom : MethodName := ⟨RX4, "valueFrom", "(I)I"⟩
abbrev cX4_isAtEnd : ByteArray := prog_6_method_6_code
def yX4_isAtEnd : MethodName := ⟨RX4, "isAtEnd", "()Z"⟩
abbrev cX4_isDigit : ByteArray := prog_6_method_7_code
def yX4_isDigit : MethodName := ⟨RX4, "isDigit", "(I)Z"⟩
abbrev cX4_wordOfValue : ByteArray := prog_6_method_8_code
def yX4_wordOfValue : MethodName := ⟨RX4, "wordOfValue", "(I)I"⟩
abbrev cX4_tensWord : ByteArray := prog_6_method_9_code
def yX4_tensWord : MethodName := ⟨RX4, "tensWord", "(I)I"⟩
abbrev cX4_wordOfLetter : ByteArray := prog_6_method_10_code
def yX4_wordOfLetter : MethodName := ⟨RX4, "wordOfLetter", "(I)I"⟩
def RX5 : String := "HeardNumbers$Sheet"
def TX5 : u_T := fun k => match k with
  | 0 => ("HeardNumbers$Sheet", "items", "[J", true)
  | 1 => ("HeardNumbers$Sheet", "lane", "I", false)
  | _ => ("HeardNumbers$Sheet", "size", "I", false)
def tyX5 : Nat → FieldType := fun k => match k with
  | 0 => .array .long
  | 1 => .int
  | _ => .int
abbrev wsX50 : List Cond := u_ws RX5 TX5 3
theorem nmX5 : ∀ a, a < 3 → ∀ b, b < 3 → a ≠ b → (TX5 a).2.1 ≠ (TX5 b).2.1 := by decide +kernel
theorem tyX5_ok : ∀ k, k < 3 → parseFieldDescriptor (TX5 k).2.2.1 = some (tyX5 k) := by decide +kernel
abbrev cX5_init : ByteArray := prog_7_method_1_code
def yX5_init : MethodName := ⟨RX5, "<init>", "()V"⟩
abbrev cX5_renew : ByteArray := prog_7_method_2_code
def yX5_renew : MethodName := ⟨RX5, "renew", "(II)V"⟩
abbrev cX5_lacks : ByteArray := prog_7_method_3_code
def yX5_lacks : MethodName := ⟨RX5, "lacks", "(II)Z"⟩
abbrev cX5_refusal : ByteArray := prog_7_method_4_code
def yX5_refusal : MethodName := ⟨RX5, "refusal", "(III)I"⟩
abbrev cX5_put : ByteArray := prog_7_method_5_code
def yX5_put : MethodName := ⟨RX5, "put", "(IJ)V"⟩
abbrev cX5_tells : ByteArray := prog_7_method_6_code
def yX5_tells : MethodName := ⟨RX5, "tells", "(II[II)Z"⟩
abbrev cX5_cutToLane : ByteArray := prog_7_method_7_code
def yX5_cutToLane : MethodName := ⟨RX5, "cutToLane", "(J)J"⟩
def RX6 : String := "HeardNumbers$Survey"
def TX6 : u_T := fun k => match k with
  | 0 => ("HeardNumbers$Survey", "heard", "LHeardNumbers$Heard;", true)
  | 1 => ("HeardNumbers$Survey", "walk", "LHeardNumbers$Walk;", true)
  | 2 => ("HeardNumbers$Survey", "counts", "LHeardNumbers$Counted;", true)
  | 3 => ("HeardNumbers$Survey", "bestKnown", "Z", false)
  | 4 => ("HeardNumbers$Survey", "said", "I", false)
  | 5 => ("HeardNumbers$Survey", "sound", "I", false)
  | 6 => ("HeardNumbers$Survey", "bestCost", "I", false)
  | 7 => ("HeardNumbers$Survey", "bestMany", "I", false)
  | 8 => ("HeardNumbers$Survey", "next", "I", false)
  | 9 => ("HeardNumbers$Survey", "bestNumber", "[I", true)
  | 10 => ("HeardNumbers$Survey", "bestPick", "[I", true)
  | 11 => ("HeardNumbers$Survey", "changed", "[I", true)
  | 12 => ("HeardNumbers$Survey", "kindCost", "[I", true)
  | 13 => ("HeardNumbers$Survey", "likelyKnown", "Z", false)
  | 14 => ("HeardNumbers$Survey", "likelyOf", "I", false)
  | 15 => ("HeardNumbers$Survey", "likelyWeight", "J", false)
  | _ => ("HeardNumbers$Survey", "allWeight", "J", false)
def tyX6 : Nat → FieldType := fun k => match k with
  | 0 => .object "HeardNumbers$Heard"
  | 1 => .object "HeardNumbers$Walk"
  | 2 => .object "HeardNumbers$Counted"
  | 3 => .boolean
  | 4 => .int
  | 5 => .int
  | 6 => .int
  | 7 => .int
  | 8 => .int
  | 9 => .array .int
  | 10 => .array .int
  | 11 => .array .int
  | 12 => .array .int
  | 13 => .boolean
  | 14 => .int
  | 15 => .long
  | _ => .long
abbrev wsX60 : List Cond := u_ws RX6 TX6 17
theorem nmX6 : ∀ a, a < 17 → ∀ b, b < 17 → a ≠ b → (TX6 a).2.1 ≠ (TX6 b).2.1 := by decide +kernel
theorem tyX6_ok : ∀ k, k < 17 → parseFieldDescriptor (TX6 k).2.2.1 = some (tyX6 k) := by decide +kernel
abbrev cX6_init : ByteArray := prog_8_method_1_code
def yX6_init : MethodName := ⟨RX6, "<init>", "(LHeardNumbers$Heard;)V"⟩
abbrev cX6_forget : ByteArray := prog_8_method_2_code
def yX6_forget : MethodName := ⟨RX6, "forget", "()V"⟩
abbrev cX6_saidOnes : ByteArray := prog_8_method_3_code
def yX6_saidOnes : MethodName := ⟨RX6, "saidOnes", "()I"⟩
abbrev cX6_soundOnes : ByteArray := prog_8_method_4_code
def yX6_soundOnes : MethodName := ⟨RX6, "soundOnes", "()I"⟩
abbrev cX6_bestTells : ByteArray := prog_8_method_5_code
def yX6_bestTells : MethodName := ⟨RX6, "bestTells", "(I)I"⟩
abbrev cX6_bestWord : ByteArray := prog_8_method_6_code
def yX6_bestWord : MethodName := ⟨RX6, "bestWord", "(I)I"⟩
abbrev cX6_countedOnes : ByteArray := prog_8_method_7_code
def yX6_countedOnes : MethodName := ⟨RX6, "countedOnes", "()I"⟩
abbrev cX6_lookAt : ByteArray := prog_8_method_8_code
def yX6_lookAt : MethodName := ⟨RX6, "lookAt", "()I"⟩
abbrev cX6_questions : ByteArray := prog_8_method_9_code
def yX6_questions : MethodName := ⟨RX6, "questions", "()I"⟩
abbrev cX6_nextCost : ByteArray := prog_8_method_10_code
def yX6_nextCost : MethodName := ⟨RX6, "nextCost", "()I"⟩
abbrev cX6_countedWords : ByteArray := prog_8_method_11_code
def yX6_countedWords : MethodName := ⟨RX6, "countedWords", "(I)J"⟩
abbrev cX6_countedTells : ByteArray := prog_8_method_12_code
def yX6_countedTells : MethodName := ⟨RX6, "countedTells", "(IZ)I"⟩
abbrev cX6_spoilt : ByteArray := prog_8_method_13_code
def yX6_spoilt : MethodName := ⟨RX6, "spoilt", "()I"⟩
abbrev cX6_likelihood : ByteArray := prog_8_method_14_code
def yX6_likelihood : MethodName := ⟨RX6, "likelihood", "(IZ)J"⟩
abbrev cX6_kindsMeant : ByteArray := prog_8_method_15_code
def yX6_kindsMeant : MethodName := ⟨RX6, "kindsMeant", "(LHeardNumbers$Sheet;II)I"⟩
abbrev cX6_isSound : ByteArray := prog_8_method_16_code
def yX6_isSound : MethodName := ⟨RX6, "isSound", "()Z"⟩
abbrev cX6_isCounted : ByteArray := prog_8_method_17_code
def yX6_isCounted : MethodName := ⟨RX6, "isCounted", "()Z"⟩
abbrev cX6_findBest : ByteArray := prog_8_method_18_code
def yX6_findBest : MethodName := ⟨RX6, "findBest", "()V"⟩
abbrev cX6_keepBest : ByteArray := prog_8_method_19_code
def yX6_keepBest : MethodName := ⟨RX6, "keepBest", "()V"⟩
abbrev cX6_findCounted : ByteArray := prog_8_method_20_code
def yX6_findCounted : MethodName := ⟨RX6, "findCounted", "()V"⟩
abbrev cX6_tellsBest : ByteArray := prog_8_method_21_code
def yX6_tellsBest : MethodName := ⟨RX6, "tellsBest", "()Z"⟩
abbrev cX6_weigh : ByteArray := prog_8_method_22_code
def yX6_weigh : MethodName := ⟨RX6, "weigh", "(I)V"⟩
abbrev cX6_divisor : ByteArray := prog_8_method_23_code
def yX6_divisor : MethodName := ⟨RX6, "divisor", "(JJ)J"⟩
def RX7 : String := "HeardNumbers$Walk"
def TX7 : u_T := fun k => match k with
  | 0 => ("HeardNumbers$Walk", "heard", "LHeardNumbers$Heard;", true)
  | 1 => ("HeardNumbers$Walk", "tried", "[I", true)
  | 2 => ("HeardNumbers$Walk", "place", "[I", true)
  | 3 => ("HeardNumbers$Walk", "thousands", "[I", true)
  | 4 => ("HeardNumbers$Walk", "small", "[I", true)
  | 5 => ("HeardNumbers$Walk", "ended", "[I", true)
  | 6 => ("HeardNumbers$Walk", "costs", "[I", true)
  | 7 => ("HeardNumbers$Walk", "weights", "[J", true)
  | 8 => ("HeardNumbers$Walk", "depth", "I", false)
  | 9 => ("HeardNumbers$Walk", "number", "[I", true)
  | 10 => ("HeardNumbers$Walk", "many", "I", false)
  | 11 => ("HeardNumbers$Walk", "cost", "I", false)
  | _ => ("HeardNumbers$Walk", "weight", "J", false)
def tyX7 : Nat → FieldType := fun k => match k with
  | 0 => .object "HeardNumbers$Heard"
  | 1 => .array .int
  | 2 => .array .int
  | 3 => .array .int
  | 4 => .array .int
  | 5 => .array .int
  | 6 => .array .int
  | 7 => .array .long
  | 8 => .int
  | 9 => .array .int
  | 10 => .int
  | 11 => .int
  | _ => .long
abbrev wsX70 : List Cond := u_ws RX7 TX7 13
theorem nmX7 : ∀ a, a < 13 → ∀ b, b < 13 → a ≠ b → (TX7 a).2.1 ≠ (TX7 b).2.1 := by decide +kernel
theorem tyX7_ok : ∀ k, k < 13 → parseFieldDescriptor (TX7 k).2.2.1 = some (tyX7 k) := by decide +kernel
abbrev cX7_init : ByteArray := prog_9_method_1_code
def yX7_init : MethodName := ⟨RX7, "<init>", "(LHeardNumbers$Heard;)V"⟩
abbrev cX7_begin : ByteArray := prog_9_method_2_code
def yX7_begin : MethodName := ⟨RX7, "begin", "()V"⟩
abbrev cX7_step : ByteArray := prog_9_method_3_code
def yX7_step : MethodName := ⟨RX7, "step", "()Z"⟩
abbrev cX7_pick : ByteArray := prog_9_method_4_code
def yX7_pick : MethodName := ⟨RX7, "pick", "(I)I"⟩
abbrev cX7_isSaid : ByteArray := prog_9_method_5_code
def yX7_isSaid : MethodName := ⟨RX7, "isSaid", "([I)Z"⟩
abbrev cX7_finish : ByteArray := prog_9_method_6_code
def yX7_finish : MethodName := ⟨RX7, "finish", "(I)Z"⟩
abbrev cX7_enter : ByteArray := prog_9_method_7_code
def yX7_enter : MethodName := ⟨RX7, "enter", "(II)Z"⟩
abbrev cX7_isWhole : ByteArray := prog_9_method_8_code
def yX7_isWhole : MethodName := ⟨RX7, "isWhole", "(I)Z"⟩
abbrev cX7_passStop : ByteArray := prog_9_method_9_code
def yX7_passStop : MethodName := ⟨RX7, "passStop", "(I)Z"⟩
abbrev cX7_passAnd : ByteArray := prog_9_method_10_code
def yX7_passAnd : MethodName := ⟨RX7, "passAnd", "(I)Z"⟩
abbrev cX7_passHundred : ByteArray := prog_9_method_11_code
def yX7_passHundred : MethodName := ⟨RX7, "passHundred", "(I)Z"⟩
abbrev cX7_passThousand : ByteArray := prog_9_method_12_code
def yX7_passThousand : MethodName := ⟨RX7, "passThousand", "(I)Z"⟩
abbrev cX7_passLow : ByteArray := prog_9_method_13_code
def yX7_passLow : MethodName := ⟨RX7, "passLow", "(II)Z"⟩
def RX8 : String := "HeardNumbers"
def TX8 : u_T := fun k => match k with
  | 0 => ("HeardNumbers", "now", "LHeardNumbers$Heard;", true)
  | 1 => ("HeardNumbers", "draft", "LHeardNumbers$Heard;", true)
  | 2 => ("HeardNumbers", "past", "LHeardNumbers$Past;", true)
  | 3 => ("HeardNumbers", "imageNow", "LHeardNumbers$Heard;", true)
  | 4 => ("HeardNumbers", "imagePast", "LHeardNumbers$Past;", true)
  | 5 => ("HeardNumbers", "script", "LHeardNumbers$Script;", true)
  | 6 => ("HeardNumbers", "survey", "LHeardNumbers$Survey;", true)
  | 7 => ("HeardNumbers", "sheets", "[LHeardNumbers$Sheet;", true)
  | _ => ("HeardNumbers", "imaged", "Z", false)
def tyX8 : Nat → FieldType := fun k => match k with
  | 0 => .object "HeardNumbers$Heard"
  | 1 => .object "HeardNumbers$Heard"
  | 2 => .object "HeardNumbers$Past"
  | 3 => .object "HeardNumbers$Heard"
  | 4 => .object "HeardNumbers$Past"
  | 5 => .object "HeardNumbers$Script"
  | 6 => .object "HeardNumbers$Survey"
  | 7 => .array (.object "HeardNumbers$Sheet")
  | _ => .boolean
abbrev wsX80 : List Cond := u_ws RX8 TX8 9
theorem nmX8 : ∀ a, a < 9 → ∀ b, b < 9 → a ≠ b → (TX8 a).2.1 ≠ (TX8 b).2.1 := by decide +kernel
theorem tyX8_ok : ∀ k, k < 9 → parseFieldDescriptor (TX8 k).2.2.1 = some (tyX8 k) := by decide +kernel
abbrev cX8_init : ByteArray := prog_1_method_1_code
def yX8_init : MethodName := ⟨RX8, "<init>", "()V"⟩
abbrev cX8_type : ByteArray := prog_1_method_2_code
def yX8_type : MethodName := ⟨RX8, "type", "(I)I"⟩
abbrev cX8_words : ByteArray := prog_1_method_3_code
def yX8_words : MethodName := ⟨RX8, "words", "()I"⟩
abbrev cX8_say : ByteArray := prog_1_method_4_code
def yX8_say : MethodName := ⟨RX8, "say", "(I)I"⟩
abbrev cX8_slot : ByteArray := prog_1_method_5_code
def yX8_slot : MethodName := ⟨RX8, "slot", "(III)I"⟩
abbrev cX8_count : ByteArray := prog_1_method_6_code
def yX8_count : MethodName := ⟨RX8, "count", "(I)I"⟩
abbrev cX8_hear : ByteArray := prog_1_method_7_code
def yX8_hear : MethodName := ⟨RX8, "hear", "(II)I"⟩
abbrev cX8_also : ByteArray := prog_1_method_8_code
def yX8_also : MethodName := ⟨RX8, "also", "(III)I"⟩
abbrev cX8_lose : ByteArray := prog_1_method_9_code
def yX8_lose : MethodName := ⟨RX8, "lose", "(I)I"⟩
abbrev cX8_settle : ByteArray := prog_1_method_10_code
def yX8_settle : MethodName := ⟨RX8, "settle", "(II)I"⟩
abbrev cX8_check : ByteArray := prog_1_method_11_code
def yX8_check : MethodName := ⟨RX8, "check", "(I)I"⟩
abbrev cX8_slack : ByteArray := prog_1_method_12_code
def yX8_slack : MethodName := ⟨RX8, "slack", "(I)I"⟩
abbrev cX8_storm : ByteArray := prog_1_method_13_code
def yX8_storm : MethodName := ⟨RX8, "storm", "(I)I"⟩
abbrev cX8_undo : ByteArray := prog_1_method_14_code
def yX8_undo : MethodName := ⟨RX8, "undo", "()I"⟩
abbrev cX8_seed : ByteArray := prog_1_method_15_code
def yX8_seed : MethodName := ⟨RX8, "seed", "(I)I"⟩
abbrev cX8_best : ByteArray := prog_1_method_16_code
def yX8_best : MethodName := ⟨RX8, "best", "(I)I"⟩
abbrev cX8_taken : ByteArray := prog_1_method_17_code
def yX8_taken : MethodName := ⟨RX8, "taken", "(I)I"⟩
abbrev cX8_open : ByteArray := prog_1_method_18_code
def yX8_open : MethodName := ⟨RX8, "open", "(I)J"⟩
abbrev cX8_counted : ByteArray := prog_1_method_19_code
def yX8_counted : MethodName := ⟨RX8, "counted", "(II)I"⟩
abbrev cX8_likely : ByteArray := prog_1_method_20_code
def yX8_likely : MethodName := ⟨RX8, "likely", "(II)J"⟩
abbrev cX8_image : ByteArray := prog_1_method_21_code
def yX8_image : MethodName := ⟨RX8, "image", "()I"⟩
abbrev cX8_restore : ByteArray := prog_1_method_22_code
def yX8_restore : MethodName := ⟨RX8, "restore", "()I"⟩
abbrev cX8_meant : ByteArray := prog_1_method_23_code
def yX8_meant : MethodName := ⟨RX8, "meant", "(IIII)I"⟩
abbrev cX8_film : ByteArray := prog_1_method_24_code
def yX8_film : MethodName := ⟨RX8, "film", "(III)I"⟩
abbrev cX8_sheet : ByteArray := prog_1_method_25_code
def yX8_sheet : MethodName := ⟨RX8, "sheet", "(III)I"⟩
abbrev cX8_drop : ByteArray := prog_1_method_26_code
def yX8_drop : MethodName := ⟨RX8, "drop", "(I)I"⟩
abbrev cX8_item : ByteArray := prog_1_method_27_code
def yX8_item : MethodName := ⟨RX8, "item", "(IIIJ)I"⟩
abbrev cX8_copy : ByteArray := prog_1_method_28_code
def yX8_copy : MethodName := ⟨RX8, "copy", "(IIIII)I"⟩
abbrev cX8_isWord : ByteArray := prog_1_method_29_code
def yX8_isWord : MethodName := ⟨RX8, "isWord", "(I)Z"⟩
abbrev cX8_isCost : ByteArray := prog_1_method_30_code
def yX8_isCost : MethodName := ⟨RX8, "isCost", "(I)Z"⟩
abbrev cX8_isSheet : ByteArray := prog_1_method_31_code
def yX8_isSheet : MethodName := ⟨RX8, "isSheet", "(I)Z"⟩
abbrev cX8_isLane : ByteArray := prog_1_method_32_code
def yX8_isLane : MethodName := ⟨RX8, "isLane", "(I)Z"⟩
abbrev cX8_keepForUndo : ByteArray := prog_1_method_33_code
def yX8_keepForUndo : MethodName := ⟨RX8, "keepForUndo", "()V"⟩
abbrev cX8_tellAnew : ByteArray := prog_1_method_34_code
def yX8_tellAnew : MethodName := ⟨RX8, "tellAnew", "()I"⟩
def RX9 : String := "HeardNumbersModel"
def TX9 : u_T := fun k => match k with
  | 0 => ("HeardNumbersModel", "now", "[I", true)
  | 1 => ("HeardNumbersModel", "pick", "[I", true)
  | 2 => ("HeardNumbersModel", "words", "[I", true)
  | 3 => ("HeardNumbersModel", "wordMany", "I", false)
  | 4 => ("HeardNumbersModel", "cost", "I", false)
  | 5 => ("HeardNumbersModel", "numbers", "[I", true)
  | 6 => ("HeardNumbersModel", "numberMany", "I", false)
  | 7 => ("HeardNumbersModel", "next", "I", false)
  | 8 => ("HeardNumbersModel", "saidMany", "I", false)
  | 9 => ("HeardNumbersModel", "soundMany", "I", false)
  | 10 => ("HeardNumbersModel", "best", "I", false)
  | 11 => ("HeardNumbersModel", "bestCost", "I", false)
  | 12 => ("HeardNumbersModel", "bestNumbers", "[I", true)
  | 13 => ("HeardNumbersModel", "bestMany", "I", false)
  | 14 => ("HeardNumbersModel", "nextCost", "I", false)
  | 15 => ("HeardNumbersModel", "countedMany", "I", false)
  | 16 => ("HeardNumbersModel", "having", "[I", true)
  | 17 => ("HeardNumbersModel", "list", "[I", true)
  | 18 => ("HeardNumbersModel", "open", "[J", true)
  | 19 => ("HeardNumbersModel", "asked", "[I", true)
  | 20 => ("HeardNumbersModel", "firstNumbers", "[I", true)
  | 21 => ("HeardNumbersModel", "left", "I", false)
  | 22 => ("HeardNumbersModel", "tape", "[I", true)
  | 23 => ("HeardNumbersModel", "taped", "I", false)
  | 24 => ("HeardNumbersModel", "place", "I", false)
  | 25 => ("HeardNumbersModel", "read", "[I", true)
  | 26 => ("HeardNumbersModel", "say", "[I", true)
  | 27 => ("HeardNumbersModel", "sayMany", "I", false)
  | 28 => ("HeardNumbersModel", "ahead", "[I", true)
  | 29 => ("HeardNumbersModel", "undos", "I", false)
  | 30 => ("HeardNumbersModel", "kept", "[I", true)
  | 31 => ("HeardNumbersModel", "keptAhead", "[I", true)
  | 32 => ("HeardNumbersModel", "keptUndos", "I", false)
  | 33 => ("HeardNumbersModel", "lanes", "[I", true)
  | 34 => ("HeardNumbersModel", "sizes", "[I", true)
  | 35 => ("HeardNumbersModel", "items", "[J", true)
  | _ => ("HeardNumbersModel", "moved", "[J", true)
def tyX9 : Nat → FieldType := fun k => match k with
  | 0 => .array .int
  | 1 => .array .int
  | 2 => .array .int
  | 3 => .int
  | 4 => .int
  | 5 => .array .int
  | 6 => .int
  | 7 => .int
  | 8 => .int
  | 9 => .int
  | 10 => .int
  | 11 => .int
  | 12 => .array .int
  | 13 => .int
  | 14 => .int
  | 15 => .int
  | 16 => .array .int
  | 17 => .array .int
  | 18 => .array .long
  | 19 => .array .int
  | 20 => .array .int
  | 21 => .int
  | 22 => .array .int
  | 23 => .int
  | 24 => .int
  | 25 => .array .int
  | 26 => .array .int
  | 27 => .int
  | 28 => .array .int
  | 29 => .int
  | 30 => .array .int
  | 31 => .array .int
  | 32 => .int
  | 33 => .array .int
  | 34 => .array .int
  | 35 => .array .long
  | _ => .array .long
abbrev wsX90 : List Cond := u_ws RX9 TX9 37
theorem nmX9 : ∀ a, a < 37 → ∀ b, b < 37 → a ≠ b → (TX9 a).2.1 ≠ (TX9 b).2.1 := by decide +kernel
theorem tyX9_ok : ∀ k, k < 37 → parseFieldDescriptor (TX9 k).2.2.1 = some (tyX9 k) := by decide +kernel
abbrev cX9_in : ByteArray := prog_11_method_2_code
def yX9_in : MethodName := ⟨RX9, "in", "(JJJ)Z"⟩
abbrev cX9_init : ByteArray := prog_11_method_3_code
def yX9_init : MethodName := ⟨RX9, "<init>", "()V"⟩
abbrev cX9_isSlot : ByteArray := prog_11_method_4_code
def yX9_isSlot : MethodName := ⟨RX9, "isSlot", "(I)Z"⟩
abbrev cX9_at : ByteArray := prog_11_method_5_code
def yX9_at : MethodName := ⟨RX9, "at", "(I)I"⟩
abbrev cX9_placeOf : ByteArray := prog_11_method_6_code
def yX9_placeOf : MethodName := ⟨RX9, "placeOf", "(II)I"⟩
abbrev cX9_wordHere : ByteArray := prog_11_method_7_code
def yX9_wordHere : MethodName := ⟨RX9, "wordHere", "()I"⟩
abbrev cX9_worth : ByteArray := prog_11_method_8_code
def yX9_worth : MethodName := ⟨RX9, "worth", "(I)I"⟩
abbrev cX9_low : ByteArray := prog_11_method_9_code
def yX9_low : MethodName := ⟨RX9, "low", "()I"⟩
abbrev cX9_more : ByteArray := prog_11_method_10_code
def yX9_more : MethodName := ⟨RX9, "more", "()I"⟩
abbrev cX9_small : ByteArray := prog_11_method_11_code
def yX9_small : MethodName := ⟨RX9, "small", "()I"⟩
abbrev cX9_number : ByteArray := prog_11_method_12_code
def yX9_number : MethodName := ⟨RX9, "number", "()I"⟩
abbrev cX9_isSaid : ByteArray := prog_11_method_13_code
def yX9_isSaid : MethodName := ⟨RX9, "isSaid", "()Z"⟩
abbrev cX9_holds : ByteArray := prog_11_method_14_code
def yX9_holds : MethodName := ⟨RX9, "holds", "()Z"⟩
abbrev cX9_readings : ByteArray := prog_11_method_15_code
def yX9_readings : MethodName := ⟨RX9, "readings", "()I"⟩
abbrev cX9_takes : ByteArray := prog_11_method_16_code
def yX9_takes : MethodName := ⟨RX9, "takes", "(I)Z"⟩
abbrev cX9_takesPicked : ByteArray := prog_11_method_17_code
def yX9_takesPicked : MethodName := ⟨RX9, "takesPicked", "()Z"⟩
abbrev cX9_finds : ByteArray := prog_11_method_18_code
def yX9_finds : MethodName := ⟨RX9, "finds", "()V"⟩
abbrev cX9_isAsBest : ByteArray := prog_11_method_19_code
def yX9_isAsBest : MethodName := ⟨RX9, "isAsBest", "()Z"⟩
abbrev cX9_isCounted : ByteArray := prog_11_method_20_code
def yX9_isCounted : MethodName := ⟨RX9, "isCounted", "(I)Z"⟩
abbrev cX9_counts : ByteArray := prog_11_method_21_code
def yX9_counts : MethodName := ⟨RX9, "counts", "()V"⟩
abbrev cX9_look : ByteArray := prog_11_method_22_code
def yX9_look : MethodName := ⟨RX9, "look", "(I)I"⟩
abbrev cX9_tellsSame : ByteArray := prog_11_method_23_code
def yX9_tellsSame : MethodName := ⟨RX9, "tellsSame", "(J)Z"⟩
abbrev cX9_partOf : ByteArray := prog_11_method_24_code
def yX9_partOf : MethodName := ⟨RX9, "partOf", "(JII)J"⟩
abbrev cX9_questions : ByteArray := prog_11_method_25_code
def yX9_questions : MethodName := ⟨RX9, "questions", "()I"⟩
abbrev cX9_spoilt : ByteArray := prog_11_method_26_code
def yX9_spoilt : MethodName := ⟨RX9, "spoilt", "()I"⟩
abbrev cX9_slot : ByteArray := prog_11_method_27_code
def yX9_slot : MethodName := ⟨RX9, "slot", "(III)I"⟩
abbrev cX9_count : ByteArray := prog_11_method_28_code
def yX9_count : MethodName := ⟨RX9, "count", "(I)I"⟩
abbrev cX9_type : ByteArray := prog_11_method_29_code
def yX9_type : MethodName := ⟨RX9, "type", "(I)I"⟩
abbrev cX9_here : ByteArray := prog_11_method_30_code
def yX9_here : MethodName := ⟨RX9, "here", "()I"⟩
abbrev cX9_has : ByteArray := prog_11_method_31_code
def yX9_has : MethodName := ⟨RX9, "has", "(I)Z"⟩
abbrev cX9_letterWord : ByteArray := prog_11_method_32_code
def yX9_letterWord : MethodName := ⟨RX9, "letterWord", "(I)I"⟩
abbrev cX9_wordRead : ByteArray := prog_11_method_33_code
def yX9_wordRead : MethodName := ⟨RX9, "wordRead", "()I"⟩
abbrev cX9_reads : ByteArray := prog_11_method_34_code
def yX9_reads : MethodName := ⟨RX9, "reads", "(I)Z"⟩
abbrev cX9_fault : ByteArray := prog_11_method_35_code
def yX9_fault : MethodName := ⟨RX9, "fault", "()I"⟩
abbrev cX9_words : ByteArray := prog_11_method_36_code
def yX9_words : MethodName := ⟨RX9, "words", "()I"⟩
abbrev cX9_clears : ByteArray := prog_11_method_37_code
def yX9_clears : MethodName := ⟨RX9, "clears", "()V"⟩
abbrev cX9_hears : ByteArray := prog_11_method_38_code
def yX9_hears : MethodName := ⟨RX9, "hears", "(II)V"⟩
abbrev cX9_says : ByteArray := prog_11_method_39_code
def yX9_says : MethodName := ⟨RX9, "says", "(I)V"⟩
abbrev cX9_saysSmall : ByteArray := prog_11_method_40_code
def yX9_saysSmall : MethodName := ⟨RX9, "saysSmall", "(I)V"⟩
abbrev cX9_say : ByteArray := prog_11_method_41_code
def yX9_say : MethodName := ⟨RX9, "say", "(I)I"⟩
abbrev cX9_notes : ByteArray := prog_11_method_42_code
def yX9_notes : MethodName := ⟨RX9, "notes", "()V"⟩
abbrev cX9_isWord : ByteArray := prog_11_method_43_code
def yX9_isWord : MethodName := ⟨RX9, "isWord", "(I)Z"⟩
abbrev cX9_hear : ByteArray := prog_11_method_44_code
def yX9_hear : MethodName := ⟨RX9, "hear", "(II)I"⟩
abbrev cX9_comes : ByteArray := prog_11_method_45_code
def yX9_comes : MethodName := ⟨RX9, "comes", "(III)V"⟩
abbrev cX9_also : ByteArray := prog_11_method_46_code
def yX9_also : MethodName := ⟨RX9, "also", "(III)I"⟩
abbrev cX9_lose : ByteArray := prog_11_method_47_code
def yX9_lose : MethodName := ⟨RX9, "lose", "(I)I"⟩
abbrev cX9_settle : ByteArray := prog_11_method_48_code
def yX9_settle : MethodName := ⟨RX9, "settle", "(II)I"⟩
abbrev cX9_check : ByteArray := prog_11_method_49_code
def yX9_check : MethodName := ⟨RX9, "check", "(I)I"⟩
abbrev cX9_slack : ByteArray := prog_11_method_50_code
def yX9_slack : MethodName := ⟨RX9, "slack", "(I)I"⟩
abbrev cX9_storm : ByteArray := prog_11_method_51_code
def yX9_storm : MethodName := ⟨RX9, "storm", "(I)I"⟩
abbrev cX9_undo : ByteArray := prog_11_method_52_code
def yX9_undo : MethodName := ⟨RX9, "undo", "()I"⟩
abbrev cX9_seed : ByteArray := prog_11_method_53_code
def yX9_seed : MethodName := ⟨RX9, "seed", "(I)I"⟩
abbrev cX9_best : ByteArray := prog_11_method_54_code
def yX9_best : MethodName := ⟨RX9, "best", "(I)I"⟩
abbrev cX9_taken : ByteArray := prog_11_method_55_code
def yX9_taken : MethodName := ⟨RX9, "taken", "(I)I"⟩
abbrev cX9_open : ByteArray := prog_11_method_56_code
def yX9_open : MethodName := ⟨RX9, "open", "(I)J"⟩
abbrev cX9_counted : ByteArray := prog_11_method_57_code
def yX9_counted : MethodName := ⟨RX9, "counted", "(II)I"⟩
abbrev cX9_likely : ByteArray := prog_11_method_58_code
def yX9_likely : MethodName := ⟨RX9, "likely", "(II)J"⟩
abbrev cX9_image : ByteArray := prog_11_method_59_code
def yX9_image : MethodName := ⟨RX9, "image", "()I"⟩
abbrev cX9_restore : ByteArray := prog_11_method_60_code
def yX9_restore : MethodName := ⟨RX9, "restore", "()I"⟩
abbrev cX9_isSheet : ByteArray := prog_11_method_61_code
def yX9_isSheet : MethodName := ⟨RX9, "isSheet", "(I)Z"⟩
abbrev cX9_cut : ByteArray := prog_11_method_62_code
def yX9_cut : MethodName := ⟨RX9, "cut", "(JI)J"⟩
abbrev cX9_sheet : ByteArray := prog_11_method_63_code
def yX9_sheet : MethodName := ⟨RX9, "sheet", "(III)I"⟩
abbrev cX9_drop : ByteArray := prog_11_method_64_code
def yX9_drop : MethodName := ⟨RX9, "drop", "(I)I"⟩
abbrev cX9_why : ByteArray := prog_11_method_65_code
def yX9_why : MethodName := ⟨RX9, "why", "(IIII)I"⟩
abbrev cX9_item : ByteArray := prog_11_method_66_code
def yX9_item : MethodName := ⟨RX9, "item", "(IIIJ)I"⟩
abbrev cX9_copy : ByteArray := prog_11_method_67_code
def yX9_copy : MethodName := ⟨RX9, "copy", "(IIIII)I"⟩
abbrev cX9_meant : ByteArray := prog_11_method_68_code
def yX9_meant : MethodName := ⟨RX9, "meant", "(IIII)I"⟩
abbrev cX9_film : ByteArray := prog_11_method_69_code
def yX9_film : MethodName := ⟨RX9, "film", "(III)I"⟩
def RJ13 : String := "java/lang/Long"
def TJ13 : u_T := fun k => match k with
  | _ => ("", "", "", false)
def tyJ13 : Nat → FieldType := fun k => match k with
  | _ => .int
abbrev wsJ130 : List Cond := u_ws RJ13 TJ13 0
theorem nmJ13 : ∀ a, a < 0 → ∀ b, b < 0 → a ≠ b → (TJ13 a).2.1 ≠ (TJ13 b).2.1 := by decide +kernel
theorem tyJ13_ok : ∀ k, k < 0 → parseFieldDescriptor (TJ13 k).2.2.1 = some (tyJ13 k) := by decide +kernel
abbrev cJ13_bitCount_95d88 : ByteArray := prog_12_method_50_code
def yJ13_bitCount_95d88 : MethodName := ⟨RJ13, "bitCount", "(J)I"⟩
def RJ9 : String := "java/lang/Math"
def TJ9 : u_T := fun k => match k with
  | _ => ("", "", "", false)
def tyJ9 : Nat → FieldType := fun k => match k with
  | _ => .int
abbrev wsJ90 : List Cond := u_ws RJ9 TJ9 0
theorem nmJ9 : ∀ a, a < 0 → ∀ b, b < 0 → a ≠ b → (TJ9 a).2.1 ≠ (TJ9 b).2.1 := by decide +kernel
theorem tyJ9_ok : ∀ k, k < 0 → parseFieldDescriptor (TJ9 k).2.2.1 = some (tyJ9 k) := by decide +kernel
abbrev cJ9_max_7cf53 : ByteArray := prog_13_method_65_code
def yJ9_max_7cf53 : MethodName := ⟨RJ9, "max", "(II)I"⟩
def RJ10 : String := "java/lang/System"
def TJ10 : u_T := fun k => match k with
  | _ => ("", "", "", false)
def tyJ10 : Nat → FieldType := fun k => match k with
  | _ => .int
abbrev wsJ100 : List Cond := u_ws RJ10 TJ10 0
theorem nmJ10 : ∀ a, a < 0 → ∀ b, b < 0 → a ≠ b → (TJ10 a).2.1 ≠ (TJ10 b).2.1 := by decide +kernel
theorem tyJ10_ok : ∀ k, k < 0 → parseFieldDescriptor (TJ10 k).2.2.1 = some (tyJ10 k) := by decide +kernel
def RL : String := "HeardNumbersLaw"
abbrev cL_law : ByteArray := code
def yL_law : MethodName := ⟨RL, "law", "([I)Z"⟩
abbrev vwCl : List vw_C := [(RX1, TX1, 8), (RX2, TX2, 7), (RX3, TX3, 3), (RX4, TX4, 3), (RX5, TX5, 3), (RX6, TX6, 17), (RX7, TX7, 13), (RX8, TX8, 9), (RX9, TX9, 37)]
abbrev MI : Type := MethodName × ByteArray × Nat × Option FieldType × Nat
def mX0_isKept : MI := (yX0_isKept, cX0_isKept, 3, (some .boolean), 2)
def mX0_others : MI := (yX0_others, cX0_others, 4, (some .int), 1)
def mX0_rises : MI := (yX0_rises, cX0_rises, 3, (some .boolean), 1)
def mX0_isSteady : MI := (yX0_isSteady, cX0_isSteady, 3, (some .boolean), 1)
def mX1_init : MI := (yX1_init, cX1_init, 1, none, 1)
def mX1_clear : MI := (yX1_clear, cX1_clear, 2, none, 1)
def mX1_add : MI := (yX1_add, cX1_add, 7, none, 2)
def mX1_lastNumber : MI := (yX1_lastNumber, cX1_lastNumber, 2, (some .int), 1)
def mX1_partedBest : MI := (yX1_partedBest, cX1_partedBest, 8, (some .int), 2)
def mX1_questions : MI := (yX1_questions, cX1_questions, 3, (some .int), 4)
def mX1_questionsIfTrue : MI := (yX1_questionsIfTrue, cX1_questionsIfTrue, 8, (some .int), 3)
def mX1_takingLike : MI := (yX1_takingLike, cX1_takingLike, 6, (some .long), 1)
def mX1_alikeTo : MI := (yX1_alikeTo, cX1_alikeTo, 5, (some .long), 2)
def mX1_isAlike : MI := (yX1_isAlike, cX1_isAlike, 4, (some .boolean), 1)
def mX2_init : MI := (yX2_init, cX2_init, 1, none, 1)
def mX2_take : MI := (yX2_take, cX2_take, 2, none, 2)
def mX2_takeSlots : MI := (yX2_takeSlots, cX2_takeSlots, 2, none, 1)
def mX2_isSlot : MI := (yX2_isSlot, cX2_isSlot, 2, (some .boolean), 1)
def mX2_find : MI := (yX2_find, cX2_find, 4, (some .int), 2)
def mX2_candidates : MI := (yX2_candidates, cX2_candidates, 3, (some .int), 1)
def mX2_isLastFull : MI := (yX2_isLastFull, cX2_isLastFull, 1, (some .boolean), 1)
def mX2_grow : MI := (yX2_grow, cX2_grow, 3, (some .boolean), 3)
def mX2_widen : MI := (yX2_widen, cX2_widen, 5, (some .boolean), 2)
def mX2_cut : MI := (yX2_cut, cX2_cut, 4, none, 2)
def mX2_narrowTo : MI := (yX2_narrowTo, cX2_narrowTo, 4, none, 2)
def mX2_turn : MI := (yX2_turn, cX2_turn, 4, none, 3)
def mX2_spell : MI := (yX2_spell, cX2_spell, 2, (some .boolean), 5)
def mX2_spellSmall : MI := (yX2_spellSmall, cX2_spellSmall, 3, (some .boolean), 4)
def mX3_init : MI := (yX3_init, cX3_init, 2, none, 2)
def mX3_keep : MI := (yX3_keep, cX3_keep, 2, none, 3)
def mX3_giveBack : MI := (yX3_giveBack, cX3_giveBack, 2, none, 3)
def mX3_take : MI := (yX3_take, cX3_take, 3, none, 3)
def mX4_init : MI := (yX4_init, cX4_init, 1, none, 1)
def mX4_write : MI := (yX4_write, cX4_write, 2, (some .boolean), 1)
def mX4_read : MI := (yX4_read, cX4_read, 5, (some .int), 5)
def mX4_readCandidate : MI := (yX4_readCandidate, cX4_readCandidate, 7, (some .int), 4)
def mX4_valueFrom : MI := (yX4_valueFrom, cX4_valueFrom, 3, (some .int), 2)
def mX4_isAtEnd : MI := (yX4_isAtEnd, cX4_isAtEnd, 1, (some .boolean), 1)
def mX4_isDigit : MI := (yX4_isDigit, cX4_isDigit, 1, (some .boolean), 1)
def mX4_wordOfValue : MI := (yX4_wordOfValue, cX4_wordOfValue, 1, (some .int), 2)
def mX4_tensWord : MI := (yX4_tensWord, cX4_tensWord, 1, (some .int), 1)
def mX4_wordOfLetter : MI := (yX4_wordOfLetter, cX4_wordOfLetter, 1, (some .int), 1)
def mX5_init : MI := (yX5_init, cX5_init, 1, none, 1)
def mX5_renew : MI := (yX5_renew, cX5_renew, 4, none, 1)
def mX5_lacks : MI := (yX5_lacks, cX5_lacks, 3, (some .boolean), 1)
def mX5_refusal : MI := (yX5_refusal, cX5_refusal, 4, (some .int), 2)
def mX5_put : MI := (yX5_put, cX5_put, 4, none, 2)
def mX5_tells : MI := (yX5_tells, cX5_tells, 6, (some .boolean), 2)
def mX5_cutToLane : MI := (yX5_cutToLane, cX5_cutToLane, 3, (some .long), 1)
def mX6_init : MI := (yX6_init, cX6_init, 2, none, 2)
def mX6_forget : MI := (yX6_forget, cX6_forget, 1, none, 1)
def mX6_saidOnes : MI := (yX6_saidOnes, cX6_saidOnes, 1, (some .int), 5)
def mX6_soundOnes : MI := (yX6_soundOnes, cX6_soundOnes, 1, (some .int), 5)
def mX6_bestTells : MI := (yX6_bestTells, cX6_bestTells, 2, (some .int), 5)
def mX6_bestWord : MI := (yX6_bestWord, cX6_bestWord, 2, (some .int), 5)
def mX6_countedOnes : MI := (yX6_countedOnes, cX6_countedOnes, 1, (some .int), 6)
def mX6_lookAt : MI := (yX6_lookAt, cX6_lookAt, 1, (some .int), 6)
def mX6_questions : MI := (yX6_questions, cX6_questions, 1, (some .int), 6)
def mX6_nextCost : MI := (yX6_nextCost, cX6_nextCost, 1, (some .int), 6)
def mX6_countedWords : MI := (yX6_countedWords, cX6_countedWords, 6, (some .long), 6)
def mX6_countedTells : MI := (yX6_countedTells, cX6_countedTells, 5, (some .int), 6)
def mX6_spoilt : MI := (yX6_spoilt, cX6_spoilt, 4, (some .int), 5)
def mX6_likelihood : MI := (yX6_likelihood, cX6_likelihood, 5, (some .long), 5)
def mX6_kindsMeant : MI := (yX6_kindsMeant, cX6_kindsMeant, 8, (some .int), 4)
def mX6_isSound : MI := (yX6_isSound, cX6_isSound, 1, (some .boolean), 3)
def mX6_isCounted : MI := (yX6_isCounted, cX6_isCounted, 1, (some .boolean), 4)
def mX6_findBest : MI := (yX6_findBest, cX6_findBest, 2, none, 4)
def mX6_keepBest : MI := (yX6_keepBest, cX6_keepBest, 2, none, 2)
def mX6_findCounted : MI := (yX6_findCounted, cX6_findCounted, 2, none, 5)
def mX6_tellsBest : MI := (yX6_tellsBest, cX6_tellsBest, 2, (some .boolean), 1)
def mX6_weigh : MI := (yX6_weigh, cX6_weigh, 3, none, 4)
def mX6_divisor : MI := (yX6_divisor, cX6_divisor, 7, (some .long), 1)
def mX7_init : MI := (yX7_init, cX7_init, 2, none, 1)
def mX7_begin : MI := (yX7_begin, cX7_begin, 1, none, 1)
def mX7_step : MI := (yX7_step, cX7_step, 3, (some .boolean), 3)
def mX7_pick : MI := (yX7_pick, cX7_pick, 2, (some .int), 1)
def mX7_isSaid : MI := (yX7_isSaid, cX7_isSaid, 3, (some .boolean), 3)
def mX7_finish : MI := (yX7_finish, cX7_finish, 2, (some .boolean), 2)
def mX7_enter : MI := (yX7_enter, cX7_enter, 5, (some .boolean), 2)
def mX7_isWhole : MI := (yX7_isWhole, cX7_isWhole, 2, (some .boolean), 1)
def mX7_passStop : MI := (yX7_passStop, cX7_passStop, 2, (some .boolean), 1)
def mX7_passAnd : MI := (yX7_passAnd, cX7_passAnd, 2, (some .boolean), 1)
def mX7_passHundred : MI := (yX7_passHundred, cX7_passHundred, 2, (some .boolean), 1)
def mX7_passThousand : MI := (yX7_passThousand, cX7_passThousand, 2, (some .boolean), 1)
def mX7_passLow : MI := (yX7_passLow, cX7_passLow, 6, (some .boolean), 1)
def mX8_init : MI := (yX8_init, cX8_init, 2, none, 3)
def mX8_type : MI := (yX8_type, cX8_type, 2, (some .int), 2)
def mX8_words : MI := (yX8_words, cX8_words, 2, (some .int), 6)
def mX8_say : MI := (yX8_say, cX8_say, 2, (some .int), 6)
def mX8_slot : MI := (yX8_slot, cX8_slot, 5, (some .int), 2)
def mX8_count : MI := (yX8_count, cX8_count, 2, (some .int), 7)
def mX8_hear : MI := (yX8_hear, cX8_hear, 3, (some .int), 5)
def mX8_also : MI := (yX8_also, cX8_also, 4, (some .int), 5)
def mX8_lose : MI := (yX8_lose, cX8_lose, 2, (some .int), 5)
def mX8_settle : MI := (yX8_settle, cX8_settle, 5, (some .int), 5)
def mX8_check : MI := (yX8_check, cX8_check, 3, (some .int), 5)
def mX8_slack : MI := (yX8_slack, cX8_slack, 3, (some .int), 5)
def mX8_storm : MI := (yX8_storm, cX8_storm, 3, (some .int), 5)
def mX8_undo : MI := (yX8_undo, cX8_undo, 1, (some .int), 4)
def mX8_seed : MI := (yX8_seed, cX8_seed, 3, (some .int), 1)
def mX8_best : MI := (yX8_best, cX8_best, 2, (some .int), 6)
def mX8_taken : MI := (yX8_taken, cX8_taken, 2, (some .int), 6)
def mX8_open : MI := (yX8_open, cX8_open, 2, (some .long), 7)
def mX8_counted : MI := (yX8_counted, cX8_counted, 3, (some .int), 7)
def mX8_likely : MI := (yX8_likely, cX8_likely, 3, (some .long), 6)
def mX8_image : MI := (yX8_image, cX8_image, 1, (some .int), 4)
def mX8_restore : MI := (yX8_restore, cX8_restore, 1, (some .int), 4)
def mX8_meant : MI := (yX8_meant, cX8_meant, 7, (some .int), 5)
def mX8_film : MI := (yX8_film, cX8_film, 8, (some .int), 6)
def mX8_sheet : MI := (yX8_sheet, cX8_sheet, 4, (some .int), 2)
def mX8_drop : MI := (yX8_drop, cX8_drop, 4, (some .int), 2)
def mX8_item : MI := (yX8_item, cX8_item, 8, (some .int), 3)
def mX8_copy : MI := (yX8_copy, cX8_copy, 8, (some .int), 2)
def mX8_isWord : MI := (yX8_isWord, cX8_isWord, 1, (some .boolean), 1)
def mX8_isCost : MI := (yX8_isCost, cX8_isCost, 1, (some .boolean), 1)
def mX8_isSheet : MI := (yX8_isSheet, cX8_isSheet, 1, (some .boolean), 1)
def mX8_isLane : MI := (yX8_isLane, cX8_isLane, 1, (some .boolean), 1)
def mX8_keepForUndo : MI := (yX8_keepForUndo, cX8_keepForUndo, 1, none, 4)
def mX8_tellAnew : MI := (yX8_tellAnew, cX8_tellAnew, 1, (some .int), 2)
def mX9_in : MI := (yX9_in, cX9_in, 6, (some .boolean), 1)
def mX9_init : MI := (yX9_init, cX9_init, 2, none, 1)
def mX9_isSlot : MI := (yX9_isSlot, cX9_isSlot, 2, (some .boolean), 2)
def mX9_at : MI := (yX9_at, cX9_at, 2, (some .int), 1)
def mX9_placeOf : MI := (yX9_placeOf, cX9_placeOf, 5, (some .int), 2)
def mX9_wordHere : MI := (yX9_wordHere, cX9_wordHere, 1, (some .int), 1)
def mX9_worth : MI := (yX9_worth, cX9_worth, 1, (some .int), 2)
def mX9_low : MI := (yX9_low, cX9_low, 3, (some .int), 3)
def mX9_more : MI := (yX9_more, cX9_more, 3, (some .int), 4)
def mX9_small : MI := (yX9_small, cX9_small, 4, (some .int), 5)
def mX9_number : MI := (yX9_number, cX9_number, 3, (some .int), 6)
def mX9_isSaid : MI := (yX9_isSaid, cX9_isSaid, 4, (some .boolean), 7)
def mX9_holds : MI := (yX9_holds, cX9_holds, 6, (some .boolean), 1)
def mX9_readings : MI := (yX9_readings, cX9_readings, 3, (some .int), 2)
def mX9_takes : MI := (yX9_takes, cX9_takes, 4, (some .boolean), 9)
def mX9_takesPicked : MI := (yX9_takesPicked, cX9_takesPicked, 3, (some .boolean), 8)
def mX9_finds : MI := (yX9_finds, cX9_finds, 3, none, 10)
def mX9_isAsBest : MI := (yX9_isAsBest, cX9_isAsBest, 3, (some .boolean), 1)
def mX9_isCounted : MI := (yX9_isCounted, cX9_isCounted, 2, (some .boolean), 10)
def mX9_counts : MI := (yX9_counts, cX9_counts, 5, none, 11)
def mX9_look : MI := (yX9_look, cX9_look, 7, (some .int), 1)
def mX9_tellsSame : MI := (yX9_tellsSame, cX9_tellsSame, 8, (some .boolean), 10)
def mX9_partOf : MI := (yX9_partOf, cX9_partOf, 9, (some .long), 10)
def mX9_questions : MI := (yX9_questions, cX9_questions, 11, (some .int), 12)
def mX9_spoilt : MI := (yX9_spoilt, cX9_spoilt, 6, (some .int), 11)
def mX9_slot : MI := (yX9_slot, cX9_slot, 4, (some .int), 3)
def mX9_count : MI := (yX9_count, cX9_count, 2, (some .int), 13)
def mX9_type : MI := (yX9_type, cX9_type, 2, (some .int), 2)
def mX9_here : MI := (yX9_here, cX9_here, 1, (some .int), 1)
def mX9_has : MI := (yX9_has, cX9_has, 2, (some .boolean), 2)
def mX9_letterWord : MI := (yX9_letterWord, cX9_letterWord, 1, (some .int), 1)
def mX9_wordRead : MI := (yX9_wordRead, cX9_wordRead, 4, (some .int), 2)
def mX9_reads : MI := (yX9_reads, cX9_reads, 9, (some .boolean), 3)
def mX9_fault : MI := (yX9_fault, cX9_fault, 3, (some .int), 2)
def mX9_words : MI := (yX9_words, cX9_words, 5, (some .int), 4)
def mX9_clears : MI := (yX9_clears, cX9_clears, 2, none, 1)
def mX9_hears : MI := (yX9_hears, cX9_hears, 4, none, 2)
def mX9_says : MI := (yX9_says, cX9_says, 2, none, 1)
def mX9_saysSmall : MI := (yX9_saysSmall, cX9_saysSmall, 4, none, 2)
def mX9_say : MI := (yX9_say, cX9_say, 3, (some .int), 3)
def mX9_notes : MI := (yX9_notes, cX9_notes, 2, none, 1)
def mX9_isWord : MI := (yX9_isWord, cX9_isWord, 1, (some .boolean), 2)
def mX9_hear : MI := (yX9_hear, cX9_hear, 3, (some .int), 3)
def mX9_comes : MI := (yX9_comes, cX9_comes, 5, none, 2)
def mX9_also : MI := (yX9_also, cX9_also, 4, (some .int), 3)
def mX9_lose : MI := (yX9_lose, cX9_lose, 3, (some .int), 3)
def mX9_settle : MI := (yX9_settle, cX9_settle, 7, (some .int), 3)
def mX9_check : MI := (yX9_check, cX9_check, 3, (some .int), 2)
def mX9_slack : MI := (yX9_slack, cX9_slack, 3, (some .int), 2)
def mX9_storm : MI := (yX9_storm, cX9_storm, 7, (some .int), 3)
def mX9_undo : MI := (yX9_undo, cX9_undo, 2, (some .int), 1)
def mX9_seed : MI := (yX9_seed, cX9_seed, 3, (some .int), 1)
def mX9_best : MI := (yX9_best, cX9_best, 2, (some .int), 11)
def mX9_taken : MI := (yX9_taken, cX9_taken, 2, (some .int), 11)
def mX9_open : MI := (yX9_open, cX9_open, 5, (some .long), 12)
def mX9_counted : MI := (yX9_counted, cX9_counted, 6, (some .int), 11)
def mX9_likely : MI := (yX9_likely, cX9_likely, 14, (some .long), 10)
def mX9_image : MI := (yX9_image, cX9_image, 2, (some .int), 1)
def mX9_restore : MI := (yX9_restore, cX9_restore, 2, (some .int), 1)
def mX9_isSheet : MI := (yX9_isSheet, cX9_isSheet, 1, (some .boolean), 2)
def mX9_cut : MI := (yX9_cut, cX9_cut, 3, (some .long), 1)
def mX9_sheet : MI := (yX9_sheet, cX9_sheet, 5, (some .int), 3)
def mX9_drop : MI := (yX9_drop, cX9_drop, 2, (some .int), 3)
def mX9_why : MI := (yX9_why, cX9_why, 5, (some .int), 1)
def mX9_item : MI := (yX9_item, cX9_item, 7, (some .int), 3)
def mX9_copy : MI := (yX9_copy, cX9_copy, 7, (some .int), 3)
def mX9_meant : MI := (yX9_meant, cX9_meant, 11, (some .int), 11)
def mX9_film : MI := (yX9_film, cX9_film, 6, (some .int), 11)
def mJ13_bitCount_95d88 : MI := (yJ13_bitCount_95d88, cJ13_bitCount_95d88, 2, (some .int), 1)
def mJ9_max_7cf53 : MI := (yJ9_max_7cf53, cJ9_max_7cf53, 2, (some .int), 1)
end
section
/-! ===== the world: 134 cells of a fixed shape; what they hold is a function of cell and place ===== -/
def lw_g : List Cond := lw_tbl.filter goodWord
theorem lw_gin {w : Cond} (k : Nat) (h : lw_tbl[k]? = some w) (hg : goodWord w = true) : w ∈ lw_g := List.mem_filter.mpr ⟨List.mem_of_getElem? h, hg⟩
theorem in_X1 : ∀ w ∈ u_ws RX1 TX1 8, w ∈ lw_g := fun w h => List.mem_filter.mpr ⟨(by decide +kernel : ∀ w ∈ u_ws RX1 TX1 8, w ∈ lw_tbl) w h, (by decide +kernel : ∀ w ∈ u_ws RX1 TX1 8, goodWord w = true) w h⟩
theorem in_X2 : ∀ w ∈ u_ws RX2 TX2 7, w ∈ lw_g := fun w h => List.mem_filter.mpr ⟨(by decide +kernel : ∀ w ∈ u_ws RX2 TX2 7, w ∈ lw_tbl) w h, (by decide +kernel : ∀ w ∈ u_ws RX2 TX2 7, goodWord w = true) w h⟩
theorem in_X3 : ∀ w ∈ u_ws RX3 TX3 3, w ∈ lw_g := fun w h => List.mem_filter.mpr ⟨(by decide +kernel : ∀ w ∈ u_ws RX3 TX3 3, w ∈ lw_tbl) w h, (by decide +kernel : ∀ w ∈ u_ws RX3 TX3 3, goodWord w = true) w h⟩
theorem in_X4 : ∀ w ∈ u_ws RX4 TX4 3, w ∈ lw_g := fun w h => List.mem_filter.mpr ⟨(by decide +kernel : ∀ w ∈ u_ws RX4 TX4 3, w ∈ lw_tbl) w h, (by decide +kernel : ∀ w ∈ u_ws RX4 TX4 3, goodWord w = true) w h⟩
theorem in_X5 : ∀ w ∈ u_ws RX5 TX5 3, w ∈ lw_g := fun w h => List.mem_filter.mpr ⟨(by decide +kernel : ∀ w ∈ u_ws RX5 TX5 3, w ∈ lw_tbl) w h, (by decide +kernel : ∀ w ∈ u_ws RX5 TX5 3, goodWord w = true) w h⟩
theorem in_X6 : ∀ w ∈ u_ws RX6 TX6 17, w ∈ lw_g := fun w h => List.mem_filter.mpr ⟨(by decide +kernel : ∀ w ∈ u_ws RX6 TX6 17, w ∈ lw_tbl) w h, (by decide +kernel : ∀ w ∈ u_ws RX6 TX6 17, goodWord w = true) w h⟩
theorem in_X7 : ∀ w ∈ u_ws RX7 TX7 13, w ∈ lw_g := fun w h => List.mem_filter.mpr ⟨(by decide +kernel : ∀ w ∈ u_ws RX7 TX7 13, w ∈ lw_tbl) w h, (by decide +kernel : ∀ w ∈ u_ws RX7 TX7 13, goodWord w = true) w h⟩
theorem in_X8 : ∀ w ∈ u_ws RX8 TX8 9, w ∈ lw_g := fun w h => List.mem_filter.mpr ⟨(by decide +kernel : ∀ w ∈ u_ws RX8 TX8 9, w ∈ lw_tbl) w h, (by decide +kernel : ∀ w ∈ u_ws RX8 TX8 9, goodWord w = true) w h⟩
theorem in_X9 : ∀ w ∈ u_ws RX9 TX9 37, w ∈ lw_g := fun w h => List.mem_filter.mpr ⟨(by decide +kernel : ∀ w ∈ u_ws RX9 TX9 37, w ∈ lw_tbl) w h, (by decide +kernel : ∀ w ∈ u_ws RX9 TX9 37, goodWord w = true) w h⟩
abbrev Sg : Type := Nat → Int → Int
abbrev G : Type := Launch × va_G × (Nat → Nat) × (Nat → ClassId)
abbrev vI (z : Int) : Value := .int (Int32.ofInt z)
abbrev vL (z : Int) : Value := .long (Int64.ofInt z)
def up (σ : Sg) (c : Nat) (k v : Int) : Sg := fun c' k' => if c' = c then (if k' = k then v else σ c' k') else σ c' k'
theorem up_ne {σ : Sg} {c c' : Nat} {k v k' : Int} (h : c' ≠ c) : up σ c k v c' k' = σ c' k' := by simp [up, h]
theorem up_nk {σ : Sg} {c c' : Nat} {k v k' : Int} (h : k' ≠ k) : up σ c k v c' k' = σ c' k' := by simp [up, h]
theorem up_eq {σ : Sg} {c : Nat} {k v : Int} : up σ c k v c k = v := by simp [up]
abbrev Sh : Type := Nat × Nat × List Nat
def shL : List Sh := [(0, 7, [3, 7, 15, 11, 49, 83, 85, 106, 0]), (0, 1, [4, 5, 6, 0, 0, 0, 0]), (1, 8, []), (1, 32, []), (1, 32, []), (0, 1, [8, 9, 10, 0, 0, 0, 0]), (1, 8, []), (1, 32, []), (1, 32, []), (0, 1, [12, 13, 14, 0, 0, 0, 0]), (1, 8, []), (1, 32, []), (1, 32, []), (0, 2, [16, 0, 0]), (4, 0, [15, 19, 23, 27, 31, 35, 39, 43]), (0, 1, [18, 19, 20, 0, 0, 0, 0]), (1, 8, []), (1, 32, []), (1, 32, []), (0, 1, [22, 23, 24, 0, 0, 0, 0]), (1, 8, []), (1, 32, []), (1, 32, []), (0, 1, [26, 27, 28, 0, 0, 0, 0]), (1, 8, []), (1, 32, []), (1, 32, []), (0, 1, [30, 31, 32, 0, 0, 0, 0]), (1, 8, []), (1, 32, []), (1, 32, []), (0, 1, [34, 35, 36, 0, 0, 0, 0]), (1, 8, []), (1, 32, []), (1, 32, []), (0, 1, [38, 39, 40, 0, 0, 0, 0]), (1, 8, []), (1, 32, []), (1, 32, []), (0, 1, [42, 43, 44, 0, 0, 0, 0]), (1, 8, []), (1, 32, []), (1, 32, []), (0, 1, [46, 47, 48, 0, 0, 0, 0]), (1, 8, []), (1, 32, []), (1, 32, []), (0, 2, [50, 0, 0]), (4, 0, [49, 53, 57, 61, 65, 69, 73, 77]), (0, 1, [52, 53, 54, 0, 0, 0, 0]), (1, 8, []), (1, 32, []), (1, 32, []), (0, 1, [56, 57, 58, 0, 0, 0, 0]), (1, 8, []), (1, 32, []), (1, 32, []), (0, 1, [60, 61, 62, 0, 0, 0, 0]), (1, 8, []), (1, 32, []), (1, 32, []), (0, 1, [64, 65, 66, 0, 0, 0, 0]), (1, 8, []), (1, 32, []), (1, 32, []), (0, 1, [68, 69, 70, 0, 0, 0, 0]), (1, 8, []), (1, 32, []), (1, 32, []), (0, 1, [72, 73, 74, 0, 0, 0, 0]), (1, 8, []), (1, 32, []), (1, 32, []), (0, 1, [76, 77, 78, 0, 0, 0, 0]), (1, 8, []), (1, 32, []), (1, 32, []), (0, 1, [80, 81, 82, 0, 0, 0, 0]), (1, 8, []), (1, 32, []), (1, 32, []), (0, 3, [84, 0, 0]), (2, 120, []), (0, 5, [3, 90, 99, 0, 0, 0, 0, 0, 0, 86, 87, 88, 89, 0, 0, 1, 1]), (1, 4, []), (1, 8, []), (1, 8, []), (1, 5, []), (0, 6, [3, 91, 92, 93, 94, 95, 96, 97, 0, 98, 0, 0, 1]), (1, 9, []), (1, 9, []), (1, 9, []), (1, 9, []), (1, 9, []), (1, 9, []), (3, 9, []), (1, 4, []), (0, 0, [0, 0, 100, 101, 102, 103, 104, 105]), (1, 32, []), (1, 60, []), (1, 60, []), (1, 240, []), (3, 32, []), (1, 32, []), (4, 1, [105, 107, 109, 111]), (0, 4, [108, 0, 0]), (3, 24, []), (0, 4, [110, 0, 0]), (3, 24, []), (0, 4, [112, 0, 0]), (3, 24, []), (0, 4, [114, 0, 0]), (3, 24, []), (0, 8, [116, 117, 118, 0, 0, 119, 0, 0, 0, 0, 0, 0, 120, 0, 0, 0, 121, 122, 123, 124, 125, 0, 126, 0, 0, 127, 128, 0, 129, 0, 130, 131, 0, 132, 133, 134, 135]), (1, 76, []), (1, 8, []), (1, 9, []), (1, 8, []), (1, 8, []), (1, 256, []), (1, 60, []), (3, 128, []), (1, 128, []), (1, 8, []), (1, 120, []), (1, 72, []), (1, 10, []), (1, 608, []), (1, 76, []), (1, 608, []), (1, 4, []), (1, 4, []), (3, 96, []), (3, 24, [])]
def sh (c : Nat) : Sh := shL.getD c (9, 0, [])
/-- a place that holds a long -/
def lk (c : Nat) (k : Int) : Bool := match sh c with
  | (3, _, _) => true
  | (0, _, fl) => (fl[k.toNat]? == some 1) && decide (0 ≤ k)
  | _ => false
def Rn (σ : Sg) : Prop := ∀ (c : Nat) (k : Int), (lk c k = false → -2147483648 ≤ σ c k ∧ σ c k ≤ 2147483647) ∧ (-9223372036854775808 ≤ σ c k ∧ σ c k ≤ 9223372036854775807)
theorem Rn_up {σ : Sg} (h : Rn σ) {c : Nat} {k v : Int} (hv : (lk c k = false → -2147483648 ≤ v ∧ v ≤ 2147483647) ∧ (-9223372036854775808 ≤ v ∧ v ≤ 9223372036854775807)) : Rn (up σ c k v) := by
  intro c' k'
  unfold up
  by_cases h1 : c' = c
  · by_cases h2 : k' = k
    · subst h1; subst h2; simp only [if_pos]; exact hv
    · simp only [h1, h2, if_pos, if_false]; exact h c k'
  · simp only [h1, if_false]; exact h c' k'
def wv (ad : Nat → Nat) (r : Int → Int) (k : Nat) (code : Nat) : Value := match code with
  | 0 => vI (r k)
  | 1 => vL (r k)
  | j + 2 => .ref (ad j)
def weR (g : G) (c : Nat) (r : Int → Int) : va_E := match sh c with
  | (0, ci, fl) => .inr (ci, fl.mapIdx (fun k x => wv g.2.2.1 r k x))
  | (1, n, _) => .inl (g.2.2.2 0, n, .inl (fun k => Int32.ofInt (r k)))
  | (2, n, _) => .inl (g.2.2.2 1, n, .inl (fun k => Int32.ofInt (r k)))
  | (3, n, _) => .inl (g.2.2.2 2, n, .inr (.inl (fun k => Int64.ofInt (r k))))
  | (4, t, fl) => .inl (g.2.2.2 (3 + t), fl.length, .inr (.inr (.inr (.inr (fun k => fl[k]?.map g.2.2.1)))))
  | _ => .inr (0, [])
def ws (g : G) (σ : Sg) : va_W := (List.range 134).map (fun c => (g.2.2.1 c, weR g c (σ c)))
theorem ws_at (g : G) (σ : Sg) {c : Nat} (h : c < 134) : (ws g σ)[c]? = some (g.2.2.1 c, weR g c (σ c)) := by
  simp [ws, h]
theorem ws_set (g : G) (σ σ' : Sg) {c : Nat} (h : c < 134) (ho : ∀ c', c' ≠ c → σ' c' = σ c') : (ws g σ).set c (g.2.2.1 c, weR g c (σ' c)) = ws g σ' := by
  apply List.ext_getElem?
  intro i
  by_cases hi : i = c
  · subst hi
    rw [ws_at g σ' h, List.getElem?_set_self (by simp [ws]; exact h)]
  · rw [List.getElem?_set_ne (fun q => hi q.symm)]
    simp only [ws, List.getElem?_map]
    by_cases hr : i < 134
    · simp [hr, ho i hi]
    · simp [hr]
def Dj (g : G) : Prop := ∀ i j : Nat, i < 134 → j < 134 → g.2.2.1 i = g.2.2.1 j → i = j
theorem Dj.D {g : G} (h : Dj g) {A : Nat → Prop} (hA : ∀ c, c < 134 → A (g.2.2.1 c)) (σ : Sg) : va_D A (ws g σ) := by
  have key : ∀ (i : Nat) (p : Nat × va_E), (ws g σ)[i]? = some p → i < 134 ∧ p.1 = g.2.2.1 i := by
    intro i p hp
    have hl : i < (ws g σ).length := (List.getElem?_eq_some_iff.mp hp).1
    have hi : i < 134 := by simpa [ws] using hl
    rw [ws_at g σ hi] at hp
    exact ⟨hi, by rw [← Option.some.inj hp]⟩
  refine ⟨fun i j p q hp hq hpq => ?_, fun k q hq => ?_⟩
  · obtain ⟨h1, h2⟩ := key i p hp
    obtain ⟨h3, h4⟩ := key j q hq
    exact h i j h1 h3 (by rw [← h2, ← h4, hpq])
  · obtain ⟨h1, h2⟩ := key k q hq
    rw [h2]; exact hA k h1
def gty (g : G) : List (ClassId × FieldType) := [(g.2.2.2 0, .int), (g.2.2.2 1, .char), (g.2.2.2 2, .long), (g.2.2.2 3, .object RX2), (g.2.2.2 4, .object RX5)]
def Aa (g : G) (sz : Nat) : Nat → Prop := fun q => (∃ c, c < 134 ∧ q = g.2.2.1 c) ∨ sz ≤ q
/-! ===== the context of a walk ===== -/
abbrev Cx : Type := Program × Env × Room × State × MethodId × Array Value × List Frame × Method × Code × Nat × Nat × (State → Prop) × (Nat → Prop)
abbrev xp (x : Cx) : Program := x.1
abbrev xe (x : Cx) : Env := x.2.1
abbrev xR (x : Cx) : Room := x.2.2.1
abbrev xs (x : Cx) : State := x.2.2.2.1
abbrev xm (x : Cx) : MethodId := x.2.2.2.2.1
abbrev xa (x : Cx) : Array Value := x.2.2.2.2.2.1
abbrev xb (x : Cx) : List Frame := x.2.2.2.2.2.2.1
abbrev xt (x : Cx) : Method := x.2.2.2.2.2.2.2.1
abbrev xc (x : Cx) : Code := x.2.2.2.2.2.2.2.2.1
abbrev xk (x : Cx) : Nat := x.2.2.2.2.2.2.2.2.2.1
abbrev xn (x : Cx) : Nat := x.2.2.2.2.2.2.2.2.2.2.1
abbrev xQ (x : Cx) : State → Prop := x.2.2.2.2.2.2.2.2.2.2.2.1
abbrev xA (x : Cx) : Nat → Prop := x.2.2.2.2.2.2.2.2.2.2.2.2
def Ok (g : G) (x : Cx) (own : String) (cc : ByteArray) (nL d : Nat) : Prop :=
  (xp x).tables.exec = Jvm.exec ∧ (xc x).code = cc ∧ (xc x).maxLocals = nL ∧ (xs x).vm.findClass own = some (xm x).cls ∧ (∀ w ∈ lw_g, w.before (xa x) (xs x) = true) ∧ va_K g.2.1 vwCl (gty g) (xs x) ∧ Dj g ∧ (∀ c, c < 134 → xA x (g.2.2.1 c)) ∧ (∀ q, (xs x).heap.size ≤ q → xA x q) ∧ d ≤ (xR x).frames ∧ 40 * d ≤ (xR x).locals ∧ xk x ≤ (xR x).cells ∧ xn x ≤ (xR x).slots
def Wx (g : G) (x : Cx) (H : Heap) (locs : List Loc) (f : JFrame) : Prop := W (xp x) g.1 (xe x) (xR x) (xs x) (xm x) (xa x) (xb x) (xt x) (xc x) H locs (xk x) (xn x) (xQ x) f
def Z (g : G) (x : Cx) (nL pc : Nat) (L : List (Nat × Value)) (S : List Value) (σ : Sg) : Prop :=
  ∀ (H : Heap) (locs : List Loc) (ls : Array Slot), Rn σ → va_P g.2.1 vwCl (ws g σ) H → va_S (xA x) (xs x).heap H locs → lv_has ls nL L → Wx g x H locs (F0 (xm x) pc ls S)
section ZR
variable {g : G} {x : Cx} {own : String} {cc : ByteArray} {nL dp pc : Nat} {L L' : List (Nat × Value)} {S : List Value} {σ : Sg}
theorem z_iconst (h : Ok g x own cc nL dp) {n : Int} (d : decode cc pc = .ok (.iconst n, 1)) (k : Z g x nL (pc + 1) L (vI n :: S) σ) : Z g x nL pc L S σ :=
  fun H locs ls hr hP hS hl => lv_iconst h.1 h.2.1 d rfl (k H locs ls hr hP hS hl)
theorem z_bipush (h : Ok g x own cc nL dp) {n : Int} (d : decode cc pc = .ok (.bipush n, 2)) (hv : (Int8.ofInt n).toInt32 = Int32.ofInt n) (k : Z g x nL (pc + 2) L (vI n :: S) σ) : Z g x nL pc L S σ :=
  fun H locs ls hr hP hS hl => lv_bipush h.1 h.2.1 d hv (k H locs ls hr hP hS hl)
theorem z_sipush (h : Ok g x own cc nL dp) {n : Int} (d : decode cc pc = .ok (.sipush n, 3)) (hv : (Int16.ofInt n).toInt32 = Int32.ofInt n) (k : Z g x nL (pc + 3) L (vI n :: S) σ) : Z g x nL pc L S σ :=
  fun H locs ls hr hP hS hl => lv_sipush h.1 h.2.1 d hv (k H locs ls hr hP hS hl)
theorem z_lconst (h : Ok g x own cc nL dp) {n : Fin 2} (z : Int) (d : decode cc pc = .ok (.lconst n, 1)) (hz : Int64.ofNat (n : Nat) = Int64.ofInt z) (k : Z g x nL (pc + 1) L (vL z :: S) σ) : Z g x nL pc L S σ :=
  fun H locs ls hr hP hS hl => lv_lconst h.1 h.2.1 d hz (k H locs ls hr hP hS hl)
theorem z_ldc (h : Ok g x own cc nL dp) {z : Int} {ix : Nat} (hc : Cond.constant own ix (Int32.ofInt z) ∈ lw_g) (d : decode cc pc = .ok (.ldc ix, 2)) (k : Z g x nL (pc + 2) L (vI z :: S) σ) : Z g x nL pc L S σ :=
  fun H locs ls hr hP hS hl => lv_ldc h.1 h.2.1 h.2.2.2.1 (h.2.2.2.2.1 _ hc) d (k H locs ls hr hP hS hl)
theorem z_ldcw (h : Ok g x own cc nL dp) {z : Int} {ix : Nat} (hc : Cond.constant own ix (Int32.ofInt z) ∈ lw_g) (d : decode cc pc = .ok (.ldc_w ix, 3)) (k : Z g x nL (pc + 3) L (vI z :: S) σ) : Z g x nL pc L S σ :=
  fun H locs ls hr hP hS hl => lv_ldcw h.1 h.2.1 h.2.2.2.1 (h.2.2.2.2.1 _ hc) d (k H locs ls hr hP hS hl)
theorem z_ldc2 (h : Ok g x own cc nL dp) {z : Int} {ix : Nat} (hc : Cond.constantLong own ix (Int64.ofInt z) ∈ lw_g) (d : decode cc pc = .ok (.ldc2_w ix, 3)) (k : Z g x nL (pc + 3) L (vL z :: S) σ) : Z g x nL pc L S σ :=
  fun H locs ls hr hP hS hl => lv_ldc2 h.1 h.2.1 h.2.2.2.1 (h.2.2.2.2.1 _ hc) d (k H locs ls hr hP hS hl)
theorem z_iload_n (h : Ok g x own cc nL dp) {j : Fin 4} {z : Int} (q : Nat) (d : decode cc pc = .ok (.iload_n j, 1)) (hq : L[q]? = some ((j : Nat), vI z)) (k : Z g x nL (pc + 1) L (vI z :: S) σ) : Z g x nL pc L S σ :=
  fun H locs ls hr hP hS hl => lv_iload_n h.1 h.2.1 d rfl (lv_at hl q hq) (k H locs ls hr hP hS hl)
theorem z_iload (h : Ok g x own cc nL dp) {j : Nat} {z : Int} (q : Nat) (d : decode cc pc = .ok (.iload j, 2)) (hq : L[q]? = some (j, vI z)) (k : Z g x nL (pc + 2) L (vI z :: S) σ) : Z g x nL pc L S σ :=
  fun H locs ls hr hP hS hl => lv_iload h.1 h.2.1 d (lv_at hl q hq) (k H locs ls hr hP hS hl)
theorem z_lload_n (h : Ok g x own cc nL dp) {j : Fin 4} {z : Int} (q : Nat) (d : decode cc pc = .ok (.lload_n j, 1)) (hq : L[q]? = some ((j : Nat), vL z)) (k : Z g x nL (pc + 1) L (vL z :: S) σ) : Z g x nL pc L S σ :=
  fun H locs ls hr hP hS hl => lv_lload_n h.1 h.2.1 d rfl (lv_at hl q hq) (k H locs ls hr hP hS hl)
theorem z_lload (h : Ok g x own cc nL dp) {j : Nat} {z : Int} (q : Nat) (d : decode cc pc = .ok (.lload j, 2)) (hq : L[q]? = some (j, vL z)) (k : Z g x nL (pc + 2) L (vL z :: S) σ) : Z g x nL pc L S σ :=
  fun H locs ls hr hP hS hl => lv_lload h.1 h.2.1 d (lv_at hl q hq) (k H locs ls hr hP hS hl)
theorem z_aload_n (h : Ok g x own cc nL dp) {j : Fin 4} {z : Nat} (q : Nat) (d : decode cc pc = .ok (.aload_n j, 1)) (hq : L[q]? = some ((j : Nat), .ref z)) (k : Z g x nL (pc + 1) L (.ref z :: S) σ) : Z g x nL pc L S σ :=
  fun H locs ls hr hP hS hl => lv_aload_n h.1 h.2.1 d rfl (lv_at hl q hq) (k H locs ls hr hP hS hl)
theorem z_aload (h : Ok g x own cc nL dp) {j : Nat} {z : Nat} (q : Nat) (d : decode cc pc = .ok (.aload j, 2)) (hq : L[q]? = some (j, .ref z)) (k : Z g x nL (pc + 2) L (.ref z :: S) σ) : Z g x nL pc L S σ :=
  fun H locs ls hr hP hS hl => lv_aload h.1 h.2.1 d (lv_at hl q hq) (k H locs ls hr hP hS hl)
theorem z_istore_n (h : Ok g x own cc nL dp) {j : Fin 4} {z : Int} (d : decode cc pc = .ok (.istore_n j, 1)) (hn : (j : Nat) < nL) (hl' : ((j : Nat), vI z) :: L.filter (fun q => !(q.1 == (j : Nat)) && !(q.1 + 1 == (j : Nat) && q.2.category == 2)) = L') (k : Z g x nL (pc + 1) L' S σ) : Z g x nL pc L (vI z :: S) σ :=
  fun H locs ls hr hP hS hl => lv_istore_n h.1 h.2.1 d rfl hl hn hl' (fun ls2 hl2 => k H locs ls2 hr hP hS hl2)
theorem z_istore (h : Ok g x own cc nL dp) {j : Nat} {z : Int} (d : decode cc pc = .ok (.istore j, 2)) (hn : j < nL) (hl' : (j, vI z) :: L.filter (fun q => !(q.1 == j) && !(q.1 + 1 == j && q.2.category == 2)) = L') (k : Z g x nL (pc + 2) L' S σ) : Z g x nL pc L (vI z :: S) σ :=
  fun H locs ls hr hP hS hl => lv_istore h.1 h.2.1 d hl hn hl' (fun ls2 hl2 => k H locs ls2 hr hP hS hl2)
theorem z_astore_n (h : Ok g x own cc nL dp) {j : Fin 4} {z : Nat} (d : decode cc pc = .ok (.astore_n j, 1)) (hn : (j : Nat) < nL) (hl' : ((j : Nat), Value.ref z) :: L.filter (fun q => !(q.1 == (j : Nat)) && !(q.1 + 1 == (j : Nat) && q.2.category == 2)) = L') (k : Z g x nL (pc + 1) L' S σ) : Z g x nL pc L (.ref z :: S) σ :=
  fun H locs ls hr hP hS hl => lv_astore_n h.1 h.2.1 d rfl hl hn hl' (fun ls2 hl2 => k H locs ls2 hr hP hS hl2)
theorem z_astore (h : Ok g x own cc nL dp) {j : Nat} {z : Nat} (d : decode cc pc = .ok (.astore j, 2)) (hn : j < nL) (hl' : (j, Value.ref z) :: L.filter (fun q => !(q.1 == j) && !(q.1 + 1 == j && q.2.category == 2)) = L') (k : Z g x nL (pc + 2) L' S σ) : Z g x nL pc L (.ref z :: S) σ :=
  fun H locs ls hr hP hS hl => lv_astore h.1 h.2.1 d hl hn hl' (fun ls2 hl2 => k H locs ls2 hr hP hS hl2)
theorem z_lstore_n (h : Ok g x own cc nL dp) {j : Fin 4} {z : Int} (d : decode cc pc = .ok (.lstore_n j, 1)) (hn : (j : Nat) + 1 < nL) (hl' : ((j : Nat), vL z) :: L.filter (fun q => !(q.1 == (j : Nat)) && (!(q.1 == (j : Nat) + 1) && !(q.1 + 1 == (j : Nat) && q.2.category == 2))) = L') (k : Z g x nL (pc + 1) L' S σ) : Z g x nL pc L (vL z :: S) σ :=
  fun H locs ls hr hP hS hl => lv_lstore_n h.1 h.2.1 d rfl hl hn hl' (fun ls2 hl2 => k H locs ls2 hr hP hS hl2)
theorem z_lstore (h : Ok g x own cc nL dp) {j : Nat} {z : Int} (d : decode cc pc = .ok (.lstore j, 2)) (hn : j + 1 < nL) (hl' : (j, vL z) :: L.filter (fun q => !(q.1 == j) && (!(q.1 == j + 1) && !(q.1 + 1 == j && q.2.category == 2))) = L') (k : Z g x nL (pc + 2) L' S σ) : Z g x nL pc L (vL z :: S) σ :=
  fun H locs ls hr hP hS hl => lv_lstore h.1 h.2.1 d hl hn hl' (fun ls2 hl2 => k H locs ls2 hr hP hS hl2)
theorem z_iinc (h : Ok g x own cc nL dp) {j : Nat} {n z : Int} (q : Nat) (d : decode cc pc = .ok (.iinc j n, 3)) (hq : L[q]? = some (j, vI z)) (hn : j < nL) (hl' : (j, vI (z + n)) :: L.filter (fun q => !(q.1 == j) && !(q.1 + 1 == j && q.2.category == 2)) = L') (k : Z g x nL (pc + 3) L' S σ) : Z g x nL pc L S σ :=
  fun H locs ls hr hP hS hl => lv_iinc h.1 h.2.1 d hl hq (v := Int32.ofInt (z + n)) (by rw [Int32.ofInt_add]) hn hl' (fun ls2 hl2 => k H locs ls2 hr hP hS hl2)
theorem z_pick (ks : List Nat) (hk : lv_pick L ks = L') (k : Z g x nL pc L' S σ) : Z g x nL pc L S σ :=
  fun H locs ls hr hP hS hl => k H locs ls hr hP hS (lv_sub hl ks hk)
theorem z_iadd (h : Ok g x own cc nL dp) {a b : Int} (d : decode cc pc = .ok (.iadd, 1)) (k : Z g x nL (pc + 1) L (vI (a + b) :: S) σ) : Z g x nL pc L (vI b :: vI a :: S) σ :=
  fun H locs ls hr hP hS hl => lv_iadd h.1 h.2.1 d (by rw [← Int32.ofInt_add]; exact k H locs ls hr hP hS hl)
theorem z_isub (h : Ok g x own cc nL dp) {a b : Int} (d : decode cc pc = .ok (.isub, 1)) (k : Z g x nL (pc + 1) L (vI (a - b) :: S) σ) : Z g x nL pc L (vI b :: vI a :: S) σ :=
  fun H locs ls hr hP hS hl => lv_isub h.1 h.2.1 d (by rw [← Int32.ofInt_sub]; exact k H locs ls hr hP hS hl)
theorem z_imul (h : Ok g x own cc nL dp) {a b : Int} (d : decode cc pc = .ok (.imul, 1)) (k : Z g x nL (pc + 1) L (vI (a * b) :: S) σ) : Z g x nL pc L (vI b :: vI a :: S) σ :=
  fun H locs ls hr hP hS hl => lv_imul h.1 h.2.1 d (by rw [← Int32.ofInt_mul]; exact k H locs ls hr hP hS hl)
theorem z_ladd (h : Ok g x own cc nL dp) {a b : Int} (d : decode cc pc = .ok (.ladd, 1)) (k : Z g x nL (pc + 1) L (vL (a + b) :: S) σ) : Z g x nL pc L (vL b :: vL a :: S) σ :=
  fun H locs ls hr hP hS hl => lv_ladd h.1 h.2.1 d (by rw [← Int64.ofInt_add]; exact k H locs ls hr hP hS hl)
theorem z_lsub (h : Ok g x own cc nL dp) {a b : Int} (d : decode cc pc = .ok (.lsub, 1)) (k : Z g x nL (pc + 1) L (vL (a - b) :: S) σ) : Z g x nL pc L (vL b :: vL a :: S) σ :=
  fun H locs ls hr hP hS hl => lv_lsub h.1 h.2.1 d (by rw [← Int64.ofInt_sub]; exact k H locs ls hr hP hS hl)
theorem z_lmul (h : Ok g x own cc nL dp) {a b : Int} (d : decode cc pc = .ok (.lmul, 1)) (k : Z g x nL (pc + 1) L (vL (a * b) :: S) σ) : Z g x nL pc L (vL b :: vL a :: S) σ :=
  fun H locs ls hr hP hS hl => lv_lmul h.1 h.2.1 d (by rw [← Int64.ofInt_mul]; exact k H locs ls hr hP hS hl)
theorem iI_toInt {a : Int} (h : -2147483648 ≤ a ∧ a ≤ 2147483647) : (Int32.ofInt a).toInt = a := Int32.toInt_ofInt_of_le (by have := h.1; omega) (by have := h.2; omega)
theorem iL_toInt {a : Int} (h : -9223372036854775808 ≤ a ∧ a ≤ 9223372036854775807) : (Int64.ofInt a).toInt = a := Int64.toInt_ofInt_of_le (by have := h.1; omega) (by have := h.2; omega)
theorem iI_lt {a b : Int} (ha : -2147483648 ≤ a ∧ a ≤ 2147483647) (hb : -2147483648 ≤ b ∧ b ≤ 2147483647) : Int32.ofInt a < Int32.ofInt b ↔ a < b := by
  rw [Int32.lt_iff_toInt_lt, iI_toInt ha, iI_toInt hb]
theorem iI_le {a b : Int} (ha : -2147483648 ≤ a ∧ a ≤ 2147483647) (hb : -2147483648 ≤ b ∧ b ≤ 2147483647) : Int32.ofInt a ≤ Int32.ofInt b ↔ a ≤ b := by
  rw [Int32.le_iff_toInt_le, iI_toInt ha, iI_toInt hb]
theorem iI_eq {a b : Int} (ha : -2147483648 ≤ a ∧ a ≤ 2147483647) (hb : -2147483648 ≤ b ∧ b ≤ 2147483647) : Int32.ofInt a = Int32.ofInt b ↔ a = b := by
  rw [← Int32.toInt_inj, iI_toInt ha, iI_toInt hb]
theorem iL_lt {a b : Int} (ha : -9223372036854775808 ≤ a ∧ a ≤ 9223372036854775807) (hb : -9223372036854775808 ≤ b ∧ b ≤ 9223372036854775807) : Int64.ofInt a < Int64.ofInt b ↔ a < b := by
  rw [Int64.lt_iff_toInt_lt, iL_toInt ha, iL_toInt hb]
theorem iL_eq {a b : Int} (ha : -9223372036854775808 ≤ a ∧ a ≤ 9223372036854775807) (hb : -9223372036854775808 ≤ b ∧ b ≤ 9223372036854775807) : Int64.ofInt a = Int64.ofInt b ↔ a = b := by
  rw [← Int64.toInt_inj, iL_toInt ha, iL_toInt hb]
end ZR
end
section
section ZS
variable {g : G} {x : Cx} {own : String} {cc : ByteArray} {nL dp pc : Nat} {L L' : List (Nat × Value)} {S : List Value} {σ : Sg}
theorem z_goto (h : Ok g x own cc nL dp) {off : Int} (tgt : Nat) (d : decode cc pc = .ok (.goto off, 3)) (ht : (pc : Int) + off = (tgt : Int)) (k : Z g x nL tgt L S σ) : Z g x nL pc L S σ :=
  fun H locs ls hr hP hS hl => lv_goto h.1 h.2.1 d ht (k H locs ls hr hP hS hl)
theorem z_pop (h : Ok g x own cc nL dp) {v : Value} (d : decode cc pc = .ok (.pop, 1)) (hv : v.category = 1) (k : Z g x nL (pc + 1) L S σ) : Z g x nL pc L (v :: S) σ :=
  fun H locs ls hr hP hS hl => lv_pop h.1 h.2.1 d hv (k H locs ls hr hP hS hl)
theorem z_dup (h : Ok g x own cc nL dp) {v : Value} (d : decode cc pc = .ok (.dup, 1)) (hv : v.category = 1) (k : Z g x nL (pc + 1) L (v :: v :: S) σ) : Z g x nL pc L (v :: S) σ :=
  fun H locs ls hr hP hS hl => lv_dup h.1 h.2.1 d hv (k H locs ls hr hP hS hl)
theorem z_dup2 (h : Ok g x own cc nL dp) {v w : Value} (d : decode cc pc = .ok (.dup2, 1)) (hv : v.category = 1) (hw : w.category = 1) (k : Z g x nL (pc + 1) L (v :: w :: v :: w :: S) σ) : Z g x nL pc L (v :: w :: S) σ :=
  fun H locs ls hr hP hS hl => lv_dup2_11 h.1 h.2.1 d hv hw (k H locs ls hr hP hS hl)
theorem z_icmp_lt (h : Ok g x own cc nL dp) {a b off : Int} (tgt : Nat) (d : decode cc pc = .ok (.if_icmp .lt off, 3)) (ht : (pc : Int) + off = (tgt : Int)) (ra : -2147483648 ≤ a ∧ a ≤ 2147483647) (rb : -2147483648 ≤ b ∧ b ≤ 2147483647) (kt : a < b → Z g x nL tgt L S σ) (kf : b ≤ a → Z g x nL (pc + 3) L S σ) : Z g x nL pc L (vI b :: vI a :: S) σ :=
  fun H locs ls hr hP hS hl => lv_icmp_lt h.1 h.2.1 d ht (fun q => kt ((iI_lt ra rb).mp q) H locs ls hr hP hS hl) (fun q => kf (Int.not_lt.mp fun z => q ((iI_lt ra rb).mpr z)) H locs ls hr hP hS hl)
theorem z_icmp_ge (h : Ok g x own cc nL dp) {a b off : Int} (tgt : Nat) (d : decode cc pc = .ok (.if_icmp .ge off, 3)) (ht : (pc : Int) + off = (tgt : Int)) (ra : -2147483648 ≤ a ∧ a ≤ 2147483647) (rb : -2147483648 ≤ b ∧ b ≤ 2147483647) (kt : b ≤ a → Z g x nL tgt L S σ) (kf : a < b → Z g x nL (pc + 3) L S σ) : Z g x nL pc L (vI b :: vI a :: S) σ :=
  fun H locs ls hr hP hS hl => lv_icmp_ge h.1 h.2.1 d ht (fun q => kt ((iI_le rb ra).mp q) H locs ls hr hP hS hl) (fun q => kf (Int.not_le.mp fun z => q ((iI_le rb ra).mpr z)) H locs ls hr hP hS hl)
theorem z_icmp_gt (h : Ok g x own cc nL dp) {a b off : Int} (tgt : Nat) (d : decode cc pc = .ok (.if_icmp .gt off, 3)) (ht : (pc : Int) + off = (tgt : Int)) (ra : -2147483648 ≤ a ∧ a ≤ 2147483647) (rb : -2147483648 ≤ b ∧ b ≤ 2147483647) (kt : b < a → Z g x nL tgt L S σ) (kf : a ≤ b → Z g x nL (pc + 3) L S σ) : Z g x nL pc L (vI b :: vI a :: S) σ :=
  fun H locs ls hr hP hS hl => lv_icmp_gt h.1 h.2.1 d ht (fun q => kt ((iI_lt rb ra).mp q) H locs ls hr hP hS hl) (fun q => kf (Int.not_lt.mp fun z => q ((iI_lt rb ra).mpr z)) H locs ls hr hP hS hl)
theorem z_icmp_le (h : Ok g x own cc nL dp) {a b off : Int} (tgt : Nat) (d : decode cc pc = .ok (.if_icmp .le off, 3)) (ht : (pc : Int) + off = (tgt : Int)) (ra : -2147483648 ≤ a ∧ a ≤ 2147483647) (rb : -2147483648 ≤ b ∧ b ≤ 2147483647) (kt : a ≤ b → Z g x nL tgt L S σ) (kf : b < a → Z g x nL (pc + 3) L S σ) : Z g x nL pc L (vI b :: vI a :: S) σ :=
  fun H locs ls hr hP hS hl => lv_icmp_le h.1 h.2.1 d ht (fun q => kt ((iI_le ra rb).mp q) H locs ls hr hP hS hl) (fun q => kf (Int.not_le.mp fun z => q ((iI_le ra rb).mpr z)) H locs ls hr hP hS hl)
theorem z_icmp_eq (h : Ok g x own cc nL dp) {a b off : Int} (tgt : Nat) (d : decode cc pc = .ok (.if_icmp .eq off, 3)) (ht : (pc : Int) + off = (tgt : Int)) (ra : -2147483648 ≤ a ∧ a ≤ 2147483647) (rb : -2147483648 ≤ b ∧ b ≤ 2147483647) (kt : a = b → Z g x nL tgt L S σ) (kf : a ≠ b → Z g x nL (pc + 3) L S σ) : Z g x nL pc L (vI b :: vI a :: S) σ :=
  fun H locs ls hr hP hS hl => lv_icmp_eq h.1 h.2.1 d ht (fun q => kt ((iI_eq ra rb).mp q) H locs ls hr hP hS hl) (fun q => kf (fun z => q ((iI_eq ra rb).mpr z)) H locs ls hr hP hS hl)
theorem z_icmp_ne (h : Ok g x own cc nL dp) {a b off : Int} (tgt : Nat) (d : decode cc pc = .ok (.if_icmp .ne off, 3)) (ht : (pc : Int) + off = (tgt : Int)) (ra : -2147483648 ≤ a ∧ a ≤ 2147483647) (rb : -2147483648 ≤ b ∧ b ≤ 2147483647) (kt : a ≠ b → Z g x nL tgt L S σ) (kf : a = b → Z g x nL (pc + 3) L S σ) : Z g x nL pc L (vI b :: vI a :: S) σ :=
  fun H locs ls hr hP hS hl => lv_icmp_ne h.1 h.2.1 d ht (fun q => kt (fun z => q ((iI_eq ra rb).mpr z)) H locs ls hr hP hS hl) (fun q => kf ((iI_eq ra rb).mp q) H locs ls hr hP hS hl)
theorem iI_0 : Int32.ofInt 0 = 0 := by decide
theorem r0 : (-2147483648 : Int) ≤ 0 ∧ (0 : Int) ≤ 2147483647 := by decide
theorem iI_lt0 {a : Int} (ra : -2147483648 ≤ a ∧ a ≤ 2147483647) : Int32.ofInt a < 0 ↔ a < 0 := by rw [← iI_0]; exact iI_lt ra r0
theorem iI_gt0 {a : Int} (ra : -2147483648 ≤ a ∧ a ≤ 2147483647) : 0 < Int32.ofInt a ↔ 0 < a := by rw [← iI_0]; exact iI_lt r0 ra
theorem iI_le0 {a : Int} (ra : -2147483648 ≤ a ∧ a ≤ 2147483647) : Int32.ofInt a ≤ 0 ↔ a ≤ 0 := by rw [← iI_0]; exact iI_le ra r0
theorem iI_ge0 {a : Int} (ra : -2147483648 ≤ a ∧ a ≤ 2147483647) : 0 ≤ Int32.ofInt a ↔ 0 ≤ a := by rw [← iI_0]; exact iI_le r0 ra
theorem iI_eq0 {a : Int} (ra : -2147483648 ≤ a ∧ a ≤ 2147483647) : Int32.ofInt a = 0 ↔ a = 0 := by rw [← iI_0]; exact iI_eq ra r0
theorem z_if_eq (h : Ok g x own cc nL dp) {a off : Int} (tgt : Nat) (d : decode cc pc = .ok (.ifCond .eq off, 3)) (ht : (pc : Int) + off = (tgt : Int)) (ra : -2147483648 ≤ a ∧ a ≤ 2147483647) (kt : a = 0 → Z g x nL tgt L S σ) (kf : a ≠ 0 → Z g x nL (pc + 3) L S σ) : Z g x nL pc L (vI a :: S) σ :=
  fun H locs ls hr hP hS hl => lv_if_eq h.1 h.2.1 d ht (fun q => kt ((iI_eq0 ra).mp q) H locs ls hr hP hS hl) (fun q => kf (fun z => q ((iI_eq0 ra).mpr z)) H locs ls hr hP hS hl)
theorem z_if_ne (h : Ok g x own cc nL dp) {a off : Int} (tgt : Nat) (d : decode cc pc = .ok (.ifCond .ne off, 3)) (ht : (pc : Int) + off = (tgt : Int)) (ra : -2147483648 ≤ a ∧ a ≤ 2147483647) (kt : a ≠ 0 → Z g x nL tgt L S σ) (kf : a = 0 → Z g x nL (pc + 3) L S σ) : Z g x nL pc L (vI a :: S) σ :=
  fun H locs ls hr hP hS hl => lv_if_ne h.1 h.2.1 d ht (fun q => kt (fun z => q ((iI_eq0 ra).mpr z)) H locs ls hr hP hS hl) (fun q => kf ((iI_eq0 ra).mp q) H locs ls hr hP hS hl)
theorem z_if_lt (h : Ok g x own cc nL dp) {a off : Int} (tgt : Nat) (d : decode cc pc = .ok (.ifCond .lt off, 3)) (ht : (pc : Int) + off = (tgt : Int)) (ra : -2147483648 ≤ a ∧ a ≤ 2147483647) (kt : a < 0 → Z g x nL tgt L S σ) (kf : 0 ≤ a → Z g x nL (pc + 3) L S σ) : Z g x nL pc L (vI a :: S) σ :=
  fun H locs ls hr hP hS hl => lv_if_lt h.1 h.2.1 d ht (fun q => kt ((iI_lt0 ra).mp q) H locs ls hr hP hS hl) (fun q => kf (Int.not_lt.mp fun z => q ((iI_lt0 ra).mpr z)) H locs ls hr hP hS hl)
theorem z_if_ge (h : Ok g x own cc nL dp) {a off : Int} (tgt : Nat) (d : decode cc pc = .ok (.ifCond .ge off, 3)) (ht : (pc : Int) + off = (tgt : Int)) (ra : -2147483648 ≤ a ∧ a ≤ 2147483647) (kt : 0 ≤ a → Z g x nL tgt L S σ) (kf : a < 0 → Z g x nL (pc + 3) L S σ) : Z g x nL pc L (vI a :: S) σ :=
  fun H locs ls hr hP hS hl => lv_if_ge h.1 h.2.1 d ht (fun q => kt ((iI_ge0 ra).mp q) H locs ls hr hP hS hl) (fun q => kf (Int.not_le.mp fun z => q ((iI_ge0 ra).mpr z)) H locs ls hr hP hS hl)
theorem z_if_gt (h : Ok g x own cc nL dp) {a off : Int} (tgt : Nat) (d : decode cc pc = .ok (.ifCond .gt off, 3)) (ht : (pc : Int) + off = (tgt : Int)) (ra : -2147483648 ≤ a ∧ a ≤ 2147483647) (kt : 0 < a → Z g x nL tgt L S σ) (kf : a ≤ 0 → Z g x nL (pc + 3) L S σ) : Z g x nL pc L (vI a :: S) σ :=
  fun H locs ls hr hP hS hl => lv_if_gt h.1 h.2.1 d ht (fun q => kt ((iI_gt0 ra).mp q) H locs ls hr hP hS hl) (fun q => kf (Int.not_lt.mp fun z => q ((iI_gt0 ra).mpr z)) H locs ls hr hP hS hl)
theorem z_if_le (h : Ok g x own cc nL dp) {a off : Int} (tgt : Nat) (d : decode cc pc = .ok (.ifCond .le off, 3)) (ht : (pc : Int) + off = (tgt : Int)) (ra : -2147483648 ≤ a ∧ a ≤ 2147483647) (kt : a ≤ 0 → Z g x nL tgt L S σ) (kf : 0 < a → Z g x nL (pc + 3) L S σ) : Z g x nL pc L (vI a :: S) σ :=
  fun H locs ls hr hP hS hl => lv_if_le h.1 h.2.1 d ht (fun q => kt ((iI_le0 ra).mp q) H locs ls hr hP hS hl) (fun q => kf (Int.not_le.mp fun z => q ((iI_le0 ra).mpr z)) H locs ls hr hP hS hl)
/-- two longs compared: 1, 0, -1 -/
def lcm (a b : Int) : Int := if b < a then 1 else if a = b then 0 else -1
theorem z_lcmp (h : Ok g x own cc nL dp) {a b : Int} (d : decode cc pc = .ok (.lcmp, 1)) (ra : -9223372036854775808 ≤ a ∧ a ≤ 9223372036854775807) (rb : -9223372036854775808 ≤ b ∧ b ≤ 9223372036854775807) (k1 : b < a → Z g x nL (pc + 1) L (vI 1 :: S) σ) (k2 : a = b → Z g x nL (pc + 1) L (vI 0 :: S) σ) (k3 : a < b → Z g x nL (pc + 1) L (vI (-1) :: S) σ) : Z g x nL pc L (vL b :: vL a :: S) σ := by
  intro H locs ls hr hP hS hl
  refine W.lcmp h.1 h.2.1 d ?_
  unfold lg_cmp
  by_cases h1 : b < a
  · rw [if_pos ((iL_lt rb ra).mpr h1)]; exact k1 h1 H locs ls hr hP hS hl
  · rw [if_neg (fun q => h1 ((iL_lt rb ra).mp q))]
    by_cases h2 : a = b
    · rw [if_pos ((iL_eq ra rb).mpr h2)]; exact k2 h2 H locs ls hr hP hS hl
    · rw [if_neg (fun q => h2 ((iL_eq ra rb).mp q))]; exact k3 (by omega) H locs ls hr hP hS hl
theorem iI_div {a b : Int} (ha : 0 ≤ a) (ra : a ≤ 2147483647) (hb : 0 < b) (rb : b ≤ 2147483647) : Int32.ofInt a / Int32.ofInt b = Int32.ofInt (a / b) := by
  have hq : 0 ≤ a / b := Int.ediv_nonneg ha (Int.le_of_lt hb)
  have hq2 : a / b ≤ a := Int.ediv_le_self b ha
  rw [← Int32.toInt_inj, iI_toInt ⟨by omega, by omega⟩, Int32.toInt_div_of_ne_right, iI_toInt ⟨by omega, by omega⟩, iI_toInt ⟨by omega, by omega⟩, Int.tdiv_eq_ediv_of_nonneg ha]
  intro q
  have := congrArg Int32.toInt q
  rw [iI_toInt ⟨by omega, by omega⟩] at this
  have e : (-1 : Int32).toInt = -1 := by decide
  rw [e] at this
  omega
theorem iL_div {a b : Int} (ha : 0 ≤ a) (ra : a ≤ 9223372036854775807) (hb : 0 < b) (rb : b ≤ 9223372036854775807) : Int64.ofInt a / Int64.ofInt b = Int64.ofInt (a / b) := by
  have hq : 0 ≤ a / b := Int.ediv_nonneg ha (Int.le_of_lt hb)
  have hq2 : a / b ≤ a := Int.ediv_le_self b ha
  rw [← Int64.toInt_inj, iL_toInt ⟨by omega, by omega⟩, Int64.toInt_div_of_ne_right, iL_toInt ⟨by omega, by omega⟩, iL_toInt ⟨by omega, by omega⟩, Int.tdiv_eq_ediv_of_nonneg ha]
  intro q
  have := congrArg Int64.toInt q
  rw [iL_toInt ⟨by omega, by omega⟩] at this
  have e : (-1 : Int64).toInt = -1 := by decide
  rw [e] at this
  omega
theorem z_idiv (h : Ok g x own cc nL dp) {a b : Int} (d : decode cc pc = .ok (.idiv, 1)) (ha : 0 ≤ a ∧ a ≤ 2147483647) (hb : 0 < b ∧ b ≤ 2147483647) (k : Z g x nL (pc + 1) L (vI (a / b) :: S) σ) : Z g x nL pc L (vI b :: vI a :: S) σ :=
  fun H locs ls hr hP hS hl => lv_idiv h.1 h.2.1 d (fun q => by have := (iI_eq0 ⟨by omega, hb.2⟩).mp q; omega) (by rw [iI_div ha.1 ha.2 hb.1 hb.2]; exact k H locs ls hr hP hS hl)
theorem z_irem (h : Ok g x own cc nL dp) {a b : Int} (d : decode cc pc = .ok (.irem, 1)) (ha : 0 ≤ a ∧ a ≤ 2147483647) (hb : 0 < b ∧ b ≤ 2147483647) (k : Z g x nL (pc + 1) L (vI (a % b) :: S) σ) : Z g x nL pc L (vI b :: vI a :: S) σ :=
  fun H locs ls hr hP hS hl => lv_irem h.1 h.2.1 d (fun q => by have := (iI_eq0 ⟨by omega, hb.2⟩).mp q; omega) (by
    rw [iI_div ha.1 ha.2 hb.1 hb.2, ← Int32.ofInt_mul, ← Int32.ofInt_sub, show a - a / b * b = a % b by rw [Int.emod_def, Int.mul_comm]]; exact k H locs ls hr hP hS hl)
theorem iL_0 : Int64.ofInt 0 = 0 := by decide
theorem z_ldiv (h : Ok g x own cc nL dp) {a b : Int} (d : decode cc pc = .ok (.ldiv, 1)) (ha : 0 ≤ a ∧ a ≤ 9223372036854775807) (hb : 0 < b ∧ b ≤ 9223372036854775807) (k : Z g x nL (pc + 1) L (vL (a / b) :: S) σ) : Z g x nL pc L (vL b :: vL a :: S) σ :=
  fun H locs ls hr hP hS hl => lv_ldiv h.1 h.2.1 d (fun q => by rw [← iL_0] at q; have := (iL_eq ⟨by omega, hb.2⟩ (by decide)).mp q; omega) (by rw [iL_div ha.1 ha.2 hb.1 hb.2]; exact k H locs ls hr hP hS hl)
theorem z_lrem (h : Ok g x own cc nL dp) {a b : Int} (d : decode cc pc = .ok (.lrem, 1)) (ha : 0 ≤ a ∧ a ≤ 9223372036854775807) (hb : 0 < b ∧ b ≤ 9223372036854775807) (k : Z g x nL (pc + 1) L (vL (a % b) :: S) σ) : Z g x nL pc L (vL b :: vL a :: S) σ :=
  fun H locs ls hr hP hS hl => lv_lrem h.1 h.2.1 d (fun q => by rw [← iL_0] at q; have := (iL_eq ⟨by omega, hb.2⟩ (by decide)).mp q; omega) (by
    rw [iL_div ha.1 ha.2 hb.1 hb.2, ← Int64.ofInt_mul, ← Int64.ofInt_sub, show a - a / b * b = a % b by rw [Int.emod_def, Int.mul_comm]]; exact k H locs ls hr hP hS hl)
theorem z_i2l (h : Ok g x own cc nL dp) {a : Int} (d : decode cc pc = .ok (.i2l, 1)) (ra : -2147483648 ≤ a ∧ a ≤ 2147483647) (k : Z g x nL (pc + 1) L (vL a :: S) σ) : Z g x nL pc L (vI a :: S) σ :=
  fun H locs ls hr hP hS hl => lv_i2l h.1 h.2.1 d (by rw [← Int64.toInt_inj, Int32.toInt_toInt64, iI_toInt ra, iL_toInt ⟨by omega, by omega⟩]) (k H locs ls hr hP hS hl)
theorem z_l2i (h : Ok g x own cc nL dp) {a : Int} (d : decode cc pc = .ok (.l2i, 1)) (k : Z g x nL (pc + 1) L (vI a :: S) σ) : Z g x nL pc L (vL a :: S) σ :=
  fun H locs ls hr hP hS hl => lv_l2i h.1 h.2.1 d (by rw [Int64.toInt32_ofInt]) (k H locs ls hr hP hS hl)
theorem z_i2b (h : Ok g x own cc nL dp) {a : Int} (r : Int) (d : decode cc pc = .ok (.i2b, 1)) (hv : (Int32.ofInt a).toInt8.toInt32 = Int32.ofInt r) (k : Z g x nL (pc + 1) L (vI r :: S) σ) : Z g x nL pc L (vI a :: S) σ :=
  fun H locs ls hr hP hS hl => lv_i2b h.1 h.2.1 d hv (k H locs ls hr hP hS hl)
theorem z_i2s (h : Ok g x own cc nL dp) {a : Int} (r : Int) (d : decode cc pc = .ok (.i2s, 1)) (hv : (Int32.ofInt a).toInt16.toInt32 = Int32.ofInt r) (k : Z g x nL (pc + 1) L (vI r :: S) σ) : Z g x nL pc L (vI a :: S) σ :=
  fun H locs ls hr hP hS hl => lv_i2s h.1 h.2.1 d hv (k H locs ls hr hP hS hl)
theorem z_iand (h : Ok g x own cc nL dp) {a b : Int} (r : Int) (d : decode cc pc = .ok (.iand, 1)) (hv : Int32.ofInt a &&& Int32.ofInt b = Int32.ofInt r) (k : Z g x nL (pc + 1) L (vI r :: S) σ) : Z g x nL pc L (vI b :: vI a :: S) σ :=
  fun H locs ls hr hP hS hl => lv_iand h.1 h.2.1 d (by rw [hv]; exact k H locs ls hr hP hS hl)
theorem z_ior (h : Ok g x own cc nL dp) {a b : Int} (r : Int) (d : decode cc pc = .ok (.ior, 1)) (hv : Int32.ofInt a ||| Int32.ofInt b = Int32.ofInt r) (k : Z g x nL (pc + 1) L (vI r :: S) σ) : Z g x nL pc L (vI b :: vI a :: S) σ :=
  fun H locs ls hr hP hS hl => lv_ior h.1 h.2.1 d (by rw [hv]; exact k H locs ls hr hP hS hl)
theorem z_ixor (h : Ok g x own cc nL dp) {a b : Int} (r : Int) (d : decode cc pc = .ok (.ixor, 1)) (hv : Int32.ofInt a ^^^ Int32.ofInt b = Int32.ofInt r) (k : Z g x nL (pc + 1) L (vI r :: S) σ) : Z g x nL pc L (vI b :: vI a :: S) σ :=
  fun H locs ls hr hP hS hl => lv_ixor h.1 h.2.1 d (by rw [hv]; exact k H locs ls hr hP hS hl)
theorem z_ishl (h : Ok g x own cc nL dp) {a b : Int} (r : Int) (d : decode cc pc = .ok (.ishl, 1)) (hv : Int32.ofInt a <<< (Int32.ofInt b &&& 31) = Int32.ofInt r) (k : Z g x nL (pc + 1) L (vI r :: S) σ) : Z g x nL pc L (vI b :: vI a :: S) σ :=
  fun H locs ls hr hP hS hl => lv_ishl h.1 h.2.1 d (by rw [hv]; exact k H locs ls hr hP hS hl)
theorem z_land (h : Ok g x own cc nL dp) {a b : Int} (r : Int) (d : decode cc pc = .ok (.land, 1)) (hv : Int64.ofInt a &&& Int64.ofInt b = Int64.ofInt r) (k : Z g x nL (pc + 1) L (vL r :: S) σ) : Z g x nL pc L (vL b :: vL a :: S) σ :=
  fun H locs ls hr hP hS hl => lv_land h.1 h.2.1 d (by rw [hv]; exact k H locs ls hr hP hS hl)
theorem z_lor (h : Ok g x own cc nL dp) {a b : Int} (r : Int) (d : decode cc pc = .ok (.lor, 1)) (hv : Int64.ofInt a ||| Int64.ofInt b = Int64.ofInt r) (k : Z g x nL (pc + 1) L (vL r :: S) σ) : Z g x nL pc L (vL b :: vL a :: S) σ :=
  fun H locs ls hr hP hS hl => lv_lor h.1 h.2.1 d (by rw [hv]; exact k H locs ls hr hP hS hl)
theorem z_lxor (h : Ok g x own cc nL dp) {a b : Int} (r : Int) (d : decode cc pc = .ok (.lxor, 1)) (hv : Int64.ofInt a ^^^ Int64.ofInt b = Int64.ofInt r) (k : Z g x nL (pc + 1) L (vL r :: S) σ) : Z g x nL pc L (vL b :: vL a :: S) σ :=
  fun H locs ls hr hP hS hl => lv_lxor h.1 h.2.1 d (by rw [hv]; exact k H locs ls hr hP hS hl)
theorem z_lshl (h : Ok g x own cc nL dp) {a b : Int} (r : Int) (d : decode cc pc = .ok (.lshl, 1)) (hv : Int64.ofInt a <<< ((Int32.ofInt b).toInt64 &&& 63) = Int64.ofInt r) (k : Z g x nL (pc + 1) L (vL r :: S) σ) : Z g x nL pc L (vI b :: vL a :: S) σ :=
  fun H locs ls hr hP hS hl => lv_lshl h.1 h.2.1 d hv (k H locs ls hr hP hS hl)
theorem z_lshr (h : Ok g x own cc nL dp) {a b : Int} (r : Int) (d : decode cc pc = .ok (.lshr, 1)) (hv : Int64.ofInt a >>> ((Int32.ofInt b).toInt64 &&& 63) = Int64.ofInt r) (k : Z g x nL (pc + 1) L (vL r :: S) σ) : Z g x nL pc L (vI b :: vL a :: S) σ :=
  fun H locs ls hr hP hS hl => lv_lshr h.1 h.2.1 d hv (k H locs ls hr hP hS hl)
theorem z_lushr (h : Ok g x own cc nL dp) {a b : Int} (r : Int) (d : decode cc pc = .ok (.lushr, 1)) (hv : ((Int64.ofInt a).toUInt64 >>> ((Int32.ofInt b).toInt64.toUInt64 &&& Int64.toUInt64 63)).toInt64 = Int64.ofInt r) (k : Z g x nL (pc + 1) L (vL r :: S) σ) : Z g x nL pc L (vI b :: vL a :: S) σ :=
  fun H locs ls hr hP hS hl => lv_lushr h.1 h.2.1 d hv (k H locs ls hr hP hS hl)
theorem z_i2c (h : Ok g x own cc nL dp) {a : Int} (d : decode cc pc = .ok (.i2c, 1)) (ra : 0 ≤ a ∧ a < 65536) (k : Z g x nL (pc + 1) L (vI a :: S) σ) : Z g x nL pc L (vI a :: S) σ := by
  intro H locs ls hr hP hS hl
  refine lv_i2c h.1 h.2.1 d (v := Int32.ofInt a) ?_ (k H locs ls hr hP hS hl)
  obtain ⟨n, rfl⟩ : ∃ n : Nat, a = n := ⟨a.toNat, by omega⟩
  have := pk_char (nI n)
  rw [show Int32.ofInt (n : Int) = nI n from rfl, this, pk_tn (by omega), Nat.mod_eq_of_lt (by omega)]
theorem z_tswOut (h : Ok g x own cc nL dp) {a dflt lo hi : Int} {offs : Array Int} {len : Nat} (tgt : Nat) (d : decode cc pc = .ok (.tableswitch dflt lo hi offs, len)) (ra : -2147483648 ≤ a ∧ a ≤ 2147483647) (ho : a < lo ∨ hi < a) (ht : (pc : Int) + dflt = (tgt : Int)) (k : Z g x nL tgt L S σ) : Z g x nL pc L (vI a :: S) σ :=
  fun H locs ls hr hP hS hl => lv_tableOut h.1 h.2.1 d (by rw [iI_toInt ra]; exact ho) ht (k H locs ls hr hP hS hl)
theorem z_tswIn (h : Ok g x own cc nL dp) {a dflt lo hi off : Int} {offs : Array Int} {len : Nat} (tgt : Nat) (d : decode cc pc = .ok (.tableswitch dflt lo hi offs, len)) (ra : -2147483648 ≤ a ∧ a ≤ 2147483647) (h1 : lo ≤ a) (h2 : a ≤ hi) (ho : offs[(a - lo).toNat]? = some off) (ht : (pc : Int) + off = (tgt : Int)) (k : Z g x nL tgt L S σ) : Z g x nL pc L (vI a :: S) σ :=
  fun H locs ls hr hP hS hl => lv_tableIn h.1 h.2.1 d (by rw [iI_toInt ra]; omega) (by rw [iI_toInt ra]; omega) (by rw [iI_toInt ra]; exact ho) ht (k H locs ls hr hP hS hl)
theorem z_lsw (h : Ok g x own cc nL dp) {a dflt off : Int} {ps : Array (Int × Int)} {len : Nat} (tgt : Nat) (d : decode cc pc = .ok (.lookupswitch dflt ps, len)) (hp : (ps.toList.zip (ps.toList.drop 1)).all (fun (a, next) => a.1 < next.1) = true) (ra : -2147483648 ≤ a ∧ a ≤ 2147483647) (ho : Op.lookupswitch.offset ps.toList dflt a = off) (ht : (pc : Int) + off = (tgt : Int)) (k : Z g x nL tgt L S σ) : Z g x nL pc L (vI a :: S) σ :=
  fun H locs ls hr hP hS hl => lv_lookup h.1 h.2.1 d hp (by rw [iI_toInt ra]; exact ho) ht (k H locs ls hr hP hS hl)
end ZS
end
section
/-! ===== fields, arrays ===== -/
/-- getfield index in class own reads field k of class ci -/
def FL (own : String) (ix ci k : Nat) : Prop := ∃ (C : String) (T : u_T) (N : Nat), vwCl[ci]? = some (C, T, N) ∧ k < N ∧ (∀ w ∈ u_ws C T N, w ∈ lw_g) ∧ Cond.fieldLink own ix (T k).1 (T k).2.1 (T k).2.2.1 ∈ lw_g
/-- putfield index in class own writes field k of class ci, of type ty -/
def FP (own : String) (ix ci k : Nat) (ty : FieldType) : Prop := ∃ (C : String) (T : u_T) (N : Nat) (ty0 : Nat → FieldType), vwCl[ci]? = some (C, T, N) ∧ k < N ∧ (∀ w ∈ u_ws C T N, w ∈ lw_g) ∧ Cond.fieldLink own ix (T k).1 (T k).2.1 (T k).2.2.1 ∈ lw_g ∧ (∀ k, k < N → parseFieldDescriptor (T k).2.2.1 = some (ty0 k)) ∧ (∀ a, a < N → ∀ b, b < N → a ≠ b → (T a).2.1 ≠ (T b).2.1) ∧ (T k).2.2.2 = false ∧ ty0 k = ty
theorem lk_0 {c ci k : Nat} {fl : List Nat} (hs : sh c = (0, ci, fl)) (hf : fl[k]? = some 0) : lk c k = false := by
  unfold lk; rw [hs]; simp [hf]
theorem lk_1 {c n : Nat} {l : List Nat} (k : Int) (hs : sh c = (1, n, l)) : lk c k = false := by
  unfold lk; rw [hs]; rfl
theorem lk_2 {c n : Nat} {l : List Nat} (k : Int) (hs : sh c = (2, n, l)) : lk c k = false := by
  unfold lk; rw [hs]; rfl
theorem we_0 {g : G} {c ci : Nat} {fl : List Nat} {r : Int → Int} (hs : sh c = (0, ci, fl)) : weR g c r = .inr (ci, fl.mapIdx (fun k x => wv g.2.2.1 r k x)) := by unfold weR; rw [hs]; rfl
theorem we_1 {g : G} {c n : Nat} {fl : List Nat} {r : Int → Int} (hs : sh c = (1, n, fl)) : weR g c r = .inl (g.2.2.2 0, n, .inl (fun k => Int32.ofInt (r k))) := by unfold weR; rw [hs]; rfl
theorem we_2 {g : G} {c n : Nat} {fl : List Nat} {r : Int → Int} (hs : sh c = (2, n, fl)) : weR g c r = .inl (g.2.2.2 1, n, .inl (fun k => Int32.ofInt (r k))) := by unfold weR; rw [hs]; rfl
theorem we_3 {g : G} {c n : Nat} {fl : List Nat} {r : Int → Int} (hs : sh c = (3, n, fl)) : weR g c r = .inl (g.2.2.2 2, n, .inr (.inl (fun k => Int64.ofInt (r k)))) := by unfold weR; rw [hs]; rfl
theorem we_4 {g : G} {c t : Nat} {fl : List Nat} {r : Int → Int} (hs : sh c = (4, t, fl)) : weR g c r = .inl (g.2.2.2 (3 + t), fl.length, .inr (.inr (.inr (.inr (fun k => fl[k]?.map g.2.2.1))))) := by unfold weR; rw [hs]; rfl
theorem sh_lt {c t n : Nat} {l : List Nat} (hs : sh c = (t, n, l)) (ht : t < 9) : c < 134 := by
  apply Nat.lt_of_not_le
  intro h
  have h2 : shL.length ≤ c := Nat.le_trans (show shL.length ≤ 134 by decide +kernel) h
  unfold sh at hs
  rw [List.getD_eq_getElem?_getD, List.getElem?_eq_none h2] at hs
  simp at hs
  omega
theorem up_row {σ : Sg} {c : Nat} {k v : Int} : up σ c k v c = fun k' => if k' = k then v else σ c k' := by
  funext k'; simp [up]
theorem up_row_ne {σ : Sg} {c c' : Nat} {k v : Int} (h : c' ≠ c) : up σ c k v c' = σ c' := by
  funext k'; simp [up, h]
theorem in_ok {i : Int} {n : Nat} (h : 0 ≤ i ∧ i < n) (hn : n < 2147483648) : vp_in (Int32.ofInt i) n ∧ (Int32.ofInt i).toNatClampNeg = i.toNat := by
  have ht := iI_toInt (a := i) ⟨by omega, by omega⟩
  have hc : (Int32.ofInt i).toNatClampNeg = i.toNat := by rw [← Int32.toNat_toInt, ht]
  refine ⟨vp_in_iff.mpr ⟨by rw [ht]; exact h.1, by rw [ht]; exact h.2⟩, hc⟩
section ZF
variable {g : G} {x : Cx} {own : String} {cc : ByteArray} {nL dp pc : Nat} {L L' : List (Nat × Value)} {S : List Value} {σ : Sg}
theorem z_getI (h : Ok g x own cc nL dp) {ix ci k c : Nat} {fl : List Nat} (ki : Int) (F : FL own ix ci k) (hs : sh c = (0, ci, fl)) (hf : fl[k]? = some 0) (hk : ((k : Nat) : Int) = ki) (d : decode cc pc = .ok (.getfield ix, 3)) (kk : -2147483648 ≤ σ c ki ∧ σ c ki ≤ 2147483647 → Z g x nL (pc + 3) L (vI (σ c ki) :: S) σ) : Z g x nL pc L (.ref (g.2.2.1 c) :: S) σ := by
  intro H locs ls hr hP hS hl
  subst hk
  obtain ⟨C, T, N, h1, h2, h3, h4⟩ := F
  exact va_get h.1 h.2.1 h.2.2.2.2.1 h3 h.2.2.2.1 h.2.2.2.2.2.1 hP c (ws_at g σ (sh_lt hs (by decide)) |>.trans (by rw [we_0 hs])) h1 k h2 (h.2.2.2.2.1 _ h4) (fun _ q => q) (v := vI (σ c k)) (by rw [List.getElem?_mapIdx, hf]; rfl) d (kk ((hr c k).1 (lk_0 hs hf)) H locs ls hr hP hS hl)
theorem z_getL (h : Ok g x own cc nL dp) {ix ci k c : Nat} {fl : List Nat} (ki : Int) (F : FL own ix ci k) (hs : sh c = (0, ci, fl)) (hf : fl[k]? = some 1) (hk : ((k : Nat) : Int) = ki) (d : decode cc pc = .ok (.getfield ix, 3)) (kk : -9223372036854775808 ≤ σ c ki ∧ σ c ki ≤ 9223372036854775807 → Z g x nL (pc + 3) L (vL (σ c ki) :: S) σ) : Z g x nL pc L (.ref (g.2.2.1 c) :: S) σ := by
  intro H locs ls hr hP hS hl
  subst hk
  obtain ⟨C, T, N, h1, h2, h3, h4⟩ := F
  exact va_get h.1 h.2.1 h.2.2.2.2.1 h3 h.2.2.2.1 h.2.2.2.2.2.1 hP c (ws_at g σ (sh_lt hs (by decide)) |>.trans (by rw [we_0 hs])) h1 k h2 (h.2.2.2.2.1 _ h4) (fun _ q => q) (v := vL (σ c k)) (by rw [List.getElem?_mapIdx, hf]; rfl) d (kk (hr c k).2 H locs ls hr hP hS hl)
theorem z_getR (h : Ok g x own cc nL dp) {ix ci k c : Nat} {fl : List Nat} (j : Nat) (F : FL own ix ci k) (hs : sh c = (0, ci, fl)) (hf : fl[k]? = some (j + 2)) (d : decode cc pc = .ok (.getfield ix, 3)) (kk : Z g x nL (pc + 3) L (.ref (g.2.2.1 j) :: S) σ) : Z g x nL pc L (.ref (g.2.2.1 c) :: S) σ := by
  intro H locs ls hr hP hS hl
  obtain ⟨C, T, N, h1, h2, h3, h4⟩ := F
  exact va_get h.1 h.2.1 h.2.2.2.2.1 h3 h.2.2.2.1 h.2.2.2.2.2.1 hP c (ws_at g σ (sh_lt hs (by decide)) |>.trans (by rw [we_0 hs])) h1 k h2 (h.2.2.2.2.1 _ h4) (fun _ q => q) (v := .ref (g.2.2.1 j)) (by rw [List.getElem?_mapIdx, hf]; rfl) d (kk H locs ls hr hP hS hl)
theorem z_putI (h : Ok g x own cc nL dp) {ix ci k c : Nat} {fl : List Nat} {z : Int} {ty : FieldType} (ki : Int) (F : FP own ix ci k ty) (hs : sh c = (0, ci, fl)) (hf : fl[k]? = some 0) (hk : ((k : Nat) : Int) = ki) (rz : -2147483648 ≤ z ∧ z ≤ 2147483647) (hn : narrow ty (vI z) = vI z) (hfit : fits ty (vI z) = true) (d : decode cc pc = .ok (.putfield ix, 3)) (kk : Z g x nL (pc + 3) L S (up σ c ki z)) : Z g x nL pc L (vI z :: .ref (g.2.2.1 c) :: S) σ := by
  intro H locs ls hr hP hS hl
  subst hk
  obtain ⟨C, T, N, ty0, h1, h2, h3, h4, h5, h6, h7, h8⟩ := F
  have hc := sh_lt hs (by decide)
  refine va_put h.1 h.2.1 h.2.2.2.2.1 h3 ty0 h5 h6 h.2.2.2.1 h.2.2.2.2.2.1 hP (h.2.2.2.2.2.2.1.D h.2.2.2.2.2.2.2.1 σ) hS c (ws_at g σ hc |>.trans (by rw [we_0 hs])) h1 k h2 (h.2.2.2.2.1 _ h4) (fun _ q => q) h7 (ty := ty) (by rw [h5 k h2, h8]) hn hfit (by rw [List.length_mapIdx]; exact (List.getElem?_eq_some_iff.mp hf).1) d (fun H1 locs1 hP1 hD1 hS1 => ?_)
  refine kk H1 locs1 ls (Rn_up hr ⟨fun _ => rz, by omega⟩) ?_ hS1 hl
  rw [← ws_set g σ (up σ c k z) hc (fun c' hne => up_row_ne hne), we_0 hs]
  have e : (fl.mapIdx (fun k x => wv g.2.2.1 (σ c) k x)).set k (vI z) = fl.mapIdx (fun k' x => wv g.2.2.1 (up σ c k z c) k' x) := by
    apply List.ext_getElem?
    intro i
    by_cases hi : i = k
    · subst hi
      rw [List.getElem?_set_self (by rw [List.length_mapIdx]; exact (List.getElem?_eq_some_iff.mp hf).1), List.getElem?_mapIdx, hf]
      simp [wv, up_row]
    · rw [List.getElem?_set_ne (fun q => hi q.symm), List.getElem?_mapIdx, List.getElem?_mapIdx]
      have hne : ¬ ((i : Int) = (k : Int)) := by omega
      cases fl[i]? with
      | none => rfl
      | some y =>
        simp only [Option.map_some, up_row]
        unfold wv
        simp only [hne, if_false]
  rw [← e]; exact hP1
theorem z_putL (h : Ok g x own cc nL dp) {ix ci k c : Nat} {fl : List Nat} {z : Int} (ki : Int) (F : FP own ix ci k .long) (hs : sh c = (0, ci, fl)) (hf : fl[k]? = some 1) (hk : ((k : Nat) : Int) = ki) (rz : -9223372036854775808 ≤ z ∧ z ≤ 9223372036854775807) (d : decode cc pc = .ok (.putfield ix, 3)) (kk : Z g x nL (pc + 3) L S (up σ c ki z)) : Z g x nL pc L (vL z :: .ref (g.2.2.1 c) :: S) σ := by
  intro H locs ls hr hP hS hl
  subst hk
  obtain ⟨C, T, N, ty0, h1, h2, h3, h4, h5, h6, h7, h8⟩ := F
  have hc := sh_lt hs (by decide)
  refine va_put h.1 h.2.1 h.2.2.2.2.1 h3 ty0 h5 h6 h.2.2.2.1 h.2.2.2.2.2.1 hP (h.2.2.2.2.2.2.1.D h.2.2.2.2.2.2.2.1 σ) hS c (ws_at g σ hc |>.trans (by rw [we_0 hs])) h1 k h2 (h.2.2.2.2.1 _ h4) (fun _ q => q) h7 (ty := .long) (by rw [h5 k h2, h8]) rfl rfl (by rw [List.length_mapIdx]; exact (List.getElem?_eq_some_iff.mp hf).1) d (fun H1 locs1 hP1 hD1 hS1 => ?_)
  refine kk H1 locs1 ls (Rn_up hr ⟨fun q => ?_, rz⟩) ?_ hS1 hl
  · exfalso
    unfold lk at q; rw [hs] at q; simp [hf] at q
  rw [← ws_set g σ (up σ c k z) hc (fun c' hne => up_row_ne hne), we_0 hs]
  have e : (fl.mapIdx (fun k x => wv g.2.2.1 (σ c) k x)).set k (vL z) = fl.mapIdx (fun k' x => wv g.2.2.1 (up σ c k z c) k' x) := by
    apply List.ext_getElem?
    intro i
    by_cases hi : i = k
    · subst hi
      rw [List.getElem?_set_self (by rw [List.length_mapIdx]; exact (List.getElem?_eq_some_iff.mp hf).1), List.getElem?_mapIdx, hf]
      simp [wv, up_row]
    · rw [List.getElem?_set_ne (fun q => hi q.symm), List.getElem?_mapIdx, List.getElem?_mapIdx]
      have hne : ¬ ((i : Int) = (k : Int)) := by omega
      cases fl[i]? with
      | none => rfl
      | some y =>
        simp only [Option.map_some, up_row]
        unfold wv
        simp only [hne, if_false]
  rw [← e]; exact hP1
theorem z_iald (h : Ok g x own cc nL dp) {c n : Nat} {l : List Nat} {i : Int} (hs : sh c = (1, n, l)) (hi : 0 ≤ i ∧ i < n) (hn : n < 2147483648) (d : decode cc pc = .ok (.iaload, 1)) (kk : -2147483648 ≤ σ c i ∧ σ c i ≤ 2147483647 → Z g x nL (pc + 1) L (vI (σ c i) :: S) σ) : Z g x nL pc L (vI i :: .ref (g.2.2.1 c) :: S) σ := by
  intro H locs ls hr hP hS hl
  obtain ⟨h1, h2⟩ := in_ok hi hn
  refine va_iald h.1 h.2.1 h.2.2.2.2.2.1 hP c 0 (ws_at g σ (sh_lt hs (by decide)) |>.trans (by rw [we_1 hs])) rfl h1 d ?_
  rw [h2, Int.toNat_of_nonneg hi.1]
  exact kk ((hr c i).1 (lk_1 i hs)) H locs ls hr hP hS hl
theorem z_cald (h : Ok g x own cc nL dp) {c n : Nat} {l : List Nat} {i : Int} (hs : sh c = (2, n, l)) (hi : 0 ≤ i ∧ i < n) (hn : n < 2147483648) (d : decode cc pc = .ok (.caload, 1)) (kk : -2147483648 ≤ σ c i ∧ σ c i ≤ 2147483647 → Z g x nL (pc + 1) L (vI (σ c i) :: S) σ) : Z g x nL pc L (vI i :: .ref (g.2.2.1 c) :: S) σ := by
  intro H locs ls hr hP hS hl
  obtain ⟨h1, h2⟩ := in_ok hi hn
  refine va_cald h.1 h.2.1 h.2.2.2.2.2.1 hP c 1 (ws_at g σ (sh_lt hs (by decide)) |>.trans (by rw [we_2 hs])) rfl h1 d ?_
  rw [h2, Int.toNat_of_nonneg hi.1]
  exact kk ((hr c i).1 (lk_2 i hs)) H locs ls hr hP hS hl
theorem z_lald (h : Ok g x own cc nL dp) {c n : Nat} {l : List Nat} {i : Int} (hs : sh c = (3, n, l)) (hi : 0 ≤ i ∧ i < n) (hn : n < 2147483648) (d : decode cc pc = .ok (.laload, 1)) (kk : -9223372036854775808 ≤ σ c i ∧ σ c i ≤ 9223372036854775807 → Z g x nL (pc + 1) L (vL (σ c i) :: S) σ) : Z g x nL pc L (vI i :: .ref (g.2.2.1 c) :: S) σ := by
  intro H locs ls hr hP hS hl
  obtain ⟨h1, h2⟩ := in_ok hi hn
  refine va_lald h.1 h.2.1 h.2.2.2.2.2.1 hP c 2 (ws_at g σ (sh_lt hs (by decide)) |>.trans (by rw [we_3 hs])) rfl h1 d ?_
  rw [h2, Int.toNat_of_nonneg hi.1]
  exact kk (hr c i).2 H locs ls hr hP hS hl
theorem z_aald (h : Ok g x own cc nL dp) {c t : Nat} {fl : List Nat} {i : Int} (j : Nat) (hs : sh c = (4, t, fl)) (ht : t < 2) (hi : 0 ≤ i ∧ i < fl.length) (hn : fl.length < 2147483648) (hj : fl[i.toNat]? = some j) (d : decode cc pc = .ok (.aaload, 1)) (kk : Z g x nL (pc + 1) L (.ref (g.2.2.1 j) :: S) σ) : Z g x nL pc L (vI i :: .ref (g.2.2.1 c) :: S) σ := by
  intro H locs ls hr hP hS hl
  obtain ⟨h1, h2⟩ := in_ok hi hn
  have hty : ∃ C, (gty g)[3 + t]? = some (g.2.2.2 (3 + t), .object C) := by
    rcases (show t = 0 ∨ t = 1 by omega) with rfl | rfl
    · exact ⟨RX2, rfl⟩
    · exact ⟨RX5, rfl⟩
  obtain ⟨C, hty⟩ := hty
  refine va_aldq h.1 h.2.1 h.2.2.2.2.2.1 hP c (3 + t) (ws_at g σ (sh_lt hs (by decide)) |>.trans (by rw [we_4 hs])) hty h1 d ?_
  rw [h2, hj]
  exact kk H locs ls hr hP hS hl
theorem z_iast (h : Ok g x own cc nL dp) {c n : Nat} {l : List Nat} {i z : Int} (hs : sh c = (1, n, l)) (hi : 0 ≤ i ∧ i < n) (hn : n < 2147483648) (rz : -2147483648 ≤ z ∧ z ≤ 2147483647) (d : decode cc pc = .ok (.iastore, 1)) (kk : Z g x nL (pc + 1) L S (up σ c i z)) : Z g x nL pc L (vI z :: vI i :: .ref (g.2.2.1 c) :: S) σ := by
  intro H locs ls hr hP hS hl
  obtain ⟨h1, h2⟩ := in_ok hi hn
  have hc := sh_lt hs (by decide)
  refine va_iast h.1 h.2.1 h.2.2.2.2.2.1 hP (h.2.2.2.2.2.2.1.D h.2.2.2.2.2.2.2.1 σ) hS c 0 (ws_at g σ hc |>.trans (by rw [we_1 hs])) rfl h1 d (fun H1 locs1 hP1 hD1 hS1 => ?_)
  refine kk H1 locs1 ls (Rn_up hr ⟨fun _ => rz, by omega⟩) ?_ hS1 hl
  rw [← ws_set g σ (up σ c i z) hc (fun c' hne => up_row_ne hne), we_1 hs]
  rw [h2] at hP1
  have e : upd (fun k : Nat => Int32.ofInt (σ c k)) i.toNat (Int32.ofInt z) = fun k : Nat => Int32.ofInt (up σ c i z c k) := by
    funext k
    simp only [upd, up_row]
    by_cases hk : k = i.toNat
    · rw [if_pos hk, if_pos (by omega)]
    · rw [if_neg hk, if_neg (by omega)]
  rw [← e]; exact hP1
theorem z_last (h : Ok g x own cc nL dp) {c n : Nat} {l : List Nat} {i z : Int} (hs : sh c = (3, n, l)) (hi : 0 ≤ i ∧ i < n) (hn : n < 2147483648) (rz : -9223372036854775808 ≤ z ∧ z ≤ 9223372036854775807) (d : decode cc pc = .ok (.lastore, 1)) (kk : Z g x nL (pc + 1) L S (up σ c i z)) : Z g x nL pc L (vL z :: vI i :: .ref (g.2.2.1 c) :: S) σ := by
  intro H locs ls hr hP hS hl
  obtain ⟨h1, h2⟩ := in_ok hi hn
  have hc := sh_lt hs (by decide)
  refine va_last h.1 h.2.1 h.2.2.2.2.2.1 hP (h.2.2.2.2.2.2.1.D h.2.2.2.2.2.2.2.1 σ) hS c 2 (ws_at g σ hc |>.trans (by rw [we_3 hs])) rfl h1 d (fun H1 locs1 hP1 hD1 hS1 => ?_)
  refine kk H1 locs1 ls (Rn_up hr ⟨fun q => ?_, rz⟩) ?_ hS1 hl
  · exfalso; unfold lk at q; rw [hs] at q; cases q
  rw [← ws_set g σ (up σ c i z) hc (fun c' hne => up_row_ne hne), we_3 hs]
  rw [h2] at hP1
  have e : vp_updL (fun k : Nat => Int64.ofInt (σ c k)) i.toNat (Int64.ofInt z) = fun k : Nat => Int64.ofInt (up σ c i z c k) := by
    funext k
    simp only [vp_updL, up_row]
    by_cases hk : k = i.toNat
    · rw [if_pos hk, if_pos (by omega)]
    · rw [if_neg hk, if_neg (by omega)]
  rw [← e]; exact hP1
theorem z_cast (h : Ok g x own cc nL dp) {c n : Nat} {l : List Nat} {i z : Int} (hs : sh c = (2, n, l)) (hi : 0 ≤ i ∧ i < n) (hn : n < 2147483648) (rz : 0 ≤ z ∧ z < 65536) (d : decode cc pc = .ok (.castore, 1)) (kk : Z g x nL (pc + 1) L S (up σ c i z)) : Z g x nL pc L (vI z :: vI i :: .ref (g.2.2.1 c) :: S) σ := by
  intro H locs ls hr hP hS hl
  obtain ⟨h1, h2⟩ := in_ok hi hn
  have hc := sh_lt hs (by decide)
  refine va_cast h.1 h.2.1 h.2.2.2.2.2.1 hP (h.2.2.2.2.2.2.1.D h.2.2.2.2.2.2.2.1 σ) hS c 1 (ws_at g σ hc |>.trans (by rw [we_2 hs])) rfl h1 d (fun H1 locs1 hP1 hD1 hS1 => ?_)
  refine kk H1 locs1 ls (Rn_up hr ⟨fun _ => by omega, by omega⟩) ?_ hS1 hl
  rw [← ws_set g σ (up σ c i z) hc (fun c' hne => up_row_ne hne), we_2 hs]
  rw [h2] at hP1
  have hz : vp_nar .char (Int32.ofInt z) = Int32.ofInt z := by
    obtain ⟨n, rfl⟩ : ∃ n : Nat, z = n := ⟨z.toNat, by omega⟩
    have := (pk_charN (q := n) (by omega)).1
    unfold vp_nar
    rw [show Int32.ofInt (n : Int) = nI n from rfl, this]
  rw [hz] at hP1
  have e : upd (fun k : Nat => Int32.ofInt (σ c k)) i.toNat (Int32.ofInt z) = fun k : Nat => Int32.ofInt (up σ c i z c k) := by
    funext k
    simp only [upd, up_row]
    by_cases hk : k = i.toNat
    · rw [if_pos hk, if_pos (by omega)]
    · rw [if_neg hk, if_neg (by omega)]
  rw [← e]; exact hP1
theorem z_alen1 (h : Ok g x own cc nL dp) {c n : Nat} {l : List Nat} (hs : sh c = (1, n, l)) (d : decode cc pc = .ok (.arraylength, 1)) (kk : Z g x nL (pc + 1) L (vI n :: S) σ) : Z g x nL pc L (.ref (g.2.2.1 c) :: S) σ := by
  intro H locs ls hr hP hS hl
  exact va_alen h.1 h.2.1 h.2.2.2.2.2.1 hP c 0 (ws_at g σ (sh_lt hs (by decide)) |>.trans (by rw [we_1 hs])) (ty := .int) rfl (v := Int32.ofInt n) rfl d (kk H locs ls hr hP hS hl)
def cp (σ : Sg) (a : Nat) (i : Int) (b : Nat) (j n : Int) : Sg := fun c k => if c = b then (if j ≤ k ∧ k < j + n then σ a (i + (k - j)) else σ b k) else σ c k
theorem cp_row {σ : Sg} {a b : Nat} {i j n : Int} : cp σ a i b j n b = fun k => if j ≤ k ∧ k < j + n then σ a (i + (k - j)) else σ b k := by
  funext k; simp [cp]
theorem cp_row_ne {σ : Sg} {a b c : Nat} {i j n : Int} (h : c ≠ b) : cp σ a i b j n c = σ c := by
  funext k; simp [cp, h]
theorem Rn_cp {σ : Sg} (h : Rn σ) {a b : Nat} {i j n : Int} (hl : ∀ k, lk a k = false ∨ lk b k = true) (hab : ∀ k k', lk b k = false → lk a k' = false) : Rn (cp σ a i b j n) := by
  intro c k
  by_cases h1 : c = b
  · subst h1
    rw [cp_row]
    dsimp only
    split
    · exact ⟨fun q => (h a _).1 (hab k _ q), (h a _).2⟩
    · exact h c k
  · rw [cp_row_ne h1]; exact h c k
theorem clamp_ok {i : Int} (h : 0 ≤ i ∧ i ≤ 2147483647) : (Int32.ofInt i).toNatClampNeg = i.toNat := by
  rw [← Int32.toNat_toInt, iI_toInt ⟨by omega, h.2⟩]
theorem nlt_ok {i : Int} (h : 0 ≤ i ∧ i ≤ 2147483647) : ¬ Int32.ofInt i < 0 := fun q => by have := (iI_lt0 ⟨by omega, h.2⟩).mp q; omega
/-- System.arraycopy as class own links it -/
def AC (own : String) (ix : Nat) : Prop := Cond.methodLink own ix arraycopyName ∈ lw_g ∧ Cond.native arraycopyName ∈ lw_g ∧ Cond.static arraycopyName ∈ lw_g ∧ Cond.initialized "java/lang/System" ∈ lw_g
theorem z_copyI (h : Ok g x own cc nL dp) {a b n0 n1 ix : Nat} {l0 l1 : List Nat} {i j n : Int} (ac : AC own ix) (hd : 1 ≤ dp) (ha : sh a = (1, n0, l0)) (hb : sh b = (1, n1, l1)) (h0 : n0 < 2147483648) (h1 : n1 < 2147483648) (hi : 0 ≤ i) (hj : 0 ≤ j) (hn : 0 ≤ n) (hin : i + n ≤ n0) (hjn : j + n ≤ n1) (hst : (S.map fun v => v.category).sum ≤ 8) (d : decode cc pc = .ok (.invokestatic ix, 3)) (kk : Z g x nL (pc + 3) L S (cp σ a i b j n)) : Z g x nL pc L (vI n :: vI j :: .ref (g.2.2.1 b) :: vI i :: .ref (g.2.2.1 a) :: S) σ := by
  intro H locs ls hr hP hS hl
  have hca := sh_lt ha (by decide)
  have hcb := sh_lt hb (by decide)
  have e1 := clamp_ok (i := i) ⟨hi, by omega⟩
  have e2 := clamp_ok (i := j) ⟨hj, by omega⟩
  have e3 := clamp_ok (i := n) ⟨hn, by omega⟩
  have hfr : 1 ≤ (xR x).frames := Nat.le_trans hd h.2.2.2.2.2.2.2.2.2.1
  have hlo : 40 * dp ≤ (xR x).locals := h.2.2.2.2.2.2.2.2.2.2.1
  refine va_copyi h.1 h.2.1 (by rw [hl.1]; exact h.2.2.1) h.2.2.2.1 (h.2.2.2.2.1 _ ac.1) (h.2.2.2.2.1 _ ac.2.1) (h.2.2.2.2.1 _ ac.2.2.1) (h.2.2.2.2.1 _ ac.2.2.2) h.2.2.2.2.2.1 hP (h.2.2.2.2.2.2.1.D h.2.2.2.2.2.2.2.1 σ) hS a b 0 0 (ws_at g σ hca |>.trans (by rw [we_1 ha])) (ws_at g σ hcb |>.trans (by rw [we_1 hb])) rfl rfl rfl (nlt_ok ⟨hi, by omega⟩) (nlt_ok ⟨hj, by omega⟩) (nlt_ok ⟨hn, by omega⟩) (by rw [e1, e3]; omega) (by rw [e2, e3]; omega) (fun _ _ => rfl) hfr (by show _ + (7 + 11) ≤ _; omega) d (fun H1 locs1 hP1 hD1 hS1 => ?_)
  refine kk H1 locs1 ls (Rn_cp hr (fun k => Or.inl (lk_1 k ha)) (fun _ k' _ => lk_1 k' ha)) ?_ hS1 hl
  rw [← ws_set g σ (cp σ a i b j n) hcb (fun c' hne => cp_row_ne hne), we_1 hb]
  rw [e1, e2, e3] at hP1
  have e : va_cpy (fun k : Nat => Int32.ofInt (σ a k)) (fun k : Nat => Int32.ofInt (σ b k)) i.toNat j.toNat n.toNat = fun k : Nat => Int32.ofInt (cp σ a i b j n b k) := by
    funext k
    simp only [va_cpy, cp_row]
    by_cases hk : j.toNat ≤ k ∧ k < j.toNat + n.toNat
    · rw [if_pos hk, if_pos (by omega)]
      congr 2; omega
    · rw [if_neg hk, if_neg (by omega)]
  rw [← e]; exact hP1
theorem lk_3 {c n : Nat} {l : List Nat} (k : Int) (hs : sh c = (3, n, l)) : lk c k = true := by
  unfold lk; rw [hs]; rfl
theorem z_copyL (h : Ok g x own cc nL dp) {a b n0 n1 ix : Nat} {l0 l1 : List Nat} {i j n : Int} (ac : AC own ix) (hd : 1 ≤ dp) (ha : sh a = (3, n0, l0)) (hb : sh b = (3, n1, l1)) (h0 : n0 < 2147483648) (h1 : n1 < 2147483648) (hi : 0 ≤ i) (hj : 0 ≤ j) (hn : 0 ≤ n) (hin : i + n ≤ n0) (hjn : j + n ≤ n1) (hst : (S.map fun v => v.category).sum ≤ 8) (d : decode cc pc = .ok (.invokestatic ix, 3)) (kk : Z g x nL (pc + 3) L S (cp σ a i b j n)) : Z g x nL pc L (vI n :: vI j :: .ref (g.2.2.1 b) :: vI i :: .ref (g.2.2.1 a) :: S) σ := by
  intro H locs ls hr hP hS hl
  have hca := sh_lt ha (by decide)
  have hcb := sh_lt hb (by decide)
  have e1 := clamp_ok (i := i) ⟨hi, by omega⟩
  have e2 := clamp_ok (i := j) ⟨hj, by omega⟩
  have e3 := clamp_ok (i := n) ⟨hn, by omega⟩
  have hfr : 1 ≤ (xR x).frames := Nat.le_trans hd h.2.2.2.2.2.2.2.2.2.1
  have hlo : 40 * dp ≤ (xR x).locals := h.2.2.2.2.2.2.2.2.2.2.1
  refine va_copyl h.1 h.2.1 (by rw [hl.1]; exact h.2.2.1) h.2.2.2.1 (h.2.2.2.2.1 _ ac.1) (h.2.2.2.2.1 _ ac.2.1) (h.2.2.2.2.1 _ ac.2.2.1) (h.2.2.2.2.1 _ ac.2.2.2) h.2.2.2.2.2.1 hP (h.2.2.2.2.2.2.1.D h.2.2.2.2.2.2.2.1 σ) hS a b 2 2 (ws_at g σ hca |>.trans (by rw [we_3 ha])) (ws_at g σ hcb |>.trans (by rw [we_3 hb])) rfl rfl rfl (nlt_ok ⟨hi, by omega⟩) (nlt_ok ⟨hj, by omega⟩) (nlt_ok ⟨hn, by omega⟩) (by rw [e1, e3]; omega) (by rw [e2, e3]; omega) (fun _ _ => rfl) hfr (by show _ + (7 + 11) ≤ _; omega) d (fun H1 locs1 hP1 hD1 hS1 => ?_)
  refine kk H1 locs1 ls (Rn_cp hr (fun k => Or.inr (lk_3 k hb)) (fun k _ q => by rw [lk_3 k hb] at q; cases q)) ?_ hS1 hl
  rw [← ws_set g σ (cp σ a i b j n) hcb (fun c' hne => cp_row_ne hne), we_3 hb]
  rw [e1, e2, e3] at hP1
  have e : va_cpy (fun k : Nat => Int64.ofInt (σ a k)) (fun k : Nat => Int64.ofInt (σ b k)) i.toNat j.toNat n.toNat = fun k : Nat => Int64.ofInt (cp σ a i b j n b k) := by
    funext k
    simp only [va_cpy, cp_row]
    by_cases hk : j.toNat ≤ k ∧ k < j.toNat + n.toNat
    · rw [if_pos hk, if_pos (by omega)]
      congr 2; omega
    · rw [if_neg hk, if_neg (by omega)]
  rw [← e]; exact hP1
/-- Math.max as class own links it -/
def MX (own : String) (ix : Nat) : Prop := Cond.methodLink own ix Lib.Math.max.name ∈ lw_g ∧ Cond.static Lib.Math.max.name ∈ lw_g ∧ Cond.initialized "java/lang/Math" ∈ lw_g ∧ Cond.code Lib.Math.max.name Lib.Math.max.code 2 (some .int) ∈ lw_g
theorem z_max (h : Ok g x own cc nL dp) {ix : Nat} {a b : Int} (mx : MX own ix) (hd : 1 ≤ dp) (ra : -2147483648 ≤ a ∧ a ≤ 2147483647) (rb : -2147483648 ≤ b ∧ b ≤ 2147483647) (hst : (S.map fun v => v.category).sum ≤ 8) (d : decode cc pc = .ok (.invokestatic ix, 3)) (kk : Z g x nL (pc + 3) L (vI (max a b) :: S) σ) : Z g x nL pc L (vI b :: vI a :: S) σ := by
  intro H locs ls hr hP hS hl
  have hfr : 1 ≤ (xR x).frames := Nat.le_trans hd h.2.2.2.2.2.2.2.2.2.1
  have hlo : 40 * dp ≤ (xR x).locals := h.2.2.2.2.2.2.2.2.2.2.1
  refine va_mmax h.1 h.2.1 (by rw [hl.1]; exact h.2.2.1) h.2.2.2.1 (h.2.2.2.2.1 _ mx.1) (h.2.2.2.2.1 _ mx.2.1) (h.2.2.2.2.1 _ mx.2.2.1) (h.2.2.2.2.1 _ mx.2.2.2) hfr (by omega) h.2.2.2.2.2.2.2.2.2.2.2.1 h.2.2.2.2.2.2.2.2.2.2.2.2 d ?_
  have e : (if Int32.ofInt a < Int32.ofInt b then Int32.ofInt b else Int32.ofInt a) = Int32.ofInt (max a b) := by
    by_cases q : a < b
    · rw [if_pos ((iI_lt ra rb).mpr q), Int.max_def, if_pos (by omega)]
    · rw [if_neg (fun z => q ((iI_lt ra rb).mp z)), Int.max_def]
      by_cases q2 : a ≤ b
      · rw [if_pos q2]; congr 1; omega
      · rw [if_neg q2]
  rw [e]
  exact kk H locs ls hr hP hS hl
end ZF
end
section
/-! ===== methods by contract over the world ===== -/
def rmD (d : Nat) : Room := { frames := d, cells := 0, slots := 0, locals := 40 * d }
def wOf (I : MI) : List Cond := Cond.code I.1 I.2.1 I.2.2.1 I.2.2.2.1 :: lw_g
def Bst (g : G) (σ : Sg) (U : State) : Prop := Rn σ ∧ va_P g.2.1 vwCl (ws g σ) U.heap ∧ va_K g.2.1 vwCl (gty g) U ∧ Dj g
def Qm (g : G) (post : List Value → Sg → Prop) (sz : Nat) : Array Value → State → Outcome → State → Prop := fun _ st oc t => (∃ (v : Option Value) (σ' : Sg), oc = .returned v ∧ post v.toList σ' ∧ Bst g σ' t) ∧ va_F (Aa g sz) st t
/-- called with these values over a world that holds σ, the method returns; what it answers and what the world holds then meet post; nothing else has changed -/
def MM (g : G) (I : MI) (av : List Value) (σ : Sg) (post : List Value → Sg → Prop) : Prop := ∀ sz : Nat, Met g.1 I.1 (wOf I) (rmD I.2.2.2.2) (va_Pc av (fun U => U.heap.size = sz ∧ Bst g σ U)) (Qm g post sz) 0 0 (Aa g sz)
def Rt (g : G) (x : Cx) (ret : Option FieldType) (post : List Value → Sg → Prop) : Prop :=
  xQ x = MQ (xb x) (Qm g post (xs x).heap.size) (xa x) (xs x) (xk x) (xn x) (Aa g (xs x).heap.size) ∧ xA x = Aa g (xs x).heap.size ∧ (xt x).sig.returnType = ret ∧ (xt x).locks = false
theorem lw_ggood {w : Cond} (h : w ∈ lw_g) : GoodIn lw_g [w] := fun v hv => by
  rw [List.mem_singleton.mp hv]; exact ⟨h, good_of_word (List.mem_filter.mp h).2⟩
theorem lw_gIn {l : List Cond} (h : ∀ w ∈ l, w ∈ lw_g) : GoodIn lw_g l := fun v hv => ⟨h v hv, good_of_word (List.mem_filter.mp (h v hv)).2⟩
theorem mm_of {g : G} {I : MI} {av : List Value} {σ : Sg} {post : List Value → Sg → Prop} {own : String} {cc : ByteArray} {nL dp : Nat} {ret : Option FieldType} {y : MethodName} {L : List (Nat × Value)} (hI : I = (y, cc, nL, ret, dp)) (hp : plainName y.cls = true) (ho : y.cls = own) (hL : lv_args 0 av = L) (hlen : (lg_sl av).length ≤ nL)
    (k : ∀ x : Cx, Ok g x own cc nL dp → Rt g x ret post → Z g x nL 0 L [] σ) : MM g I av σ post := by
  subst hI; subst ho
  intro sz
  refine Met.ofW (cc := cc) (maxL := nL) (ret := ret) hp rfl ?_
  intro p e s m args below meth c s₁ B hml hv
  obtain ⟨rfl, hsz, hr, hP, hK, hj⟩ := hv
  subst hsz
  have hts := atoms_spec (ws := Cond.code y cc nL ret :: lw_g) B.pre
  have hown : s.vm.findClass y.cls = some m.cls := findClass_of_methodNamed B.named
  have hl := lv_entry av (n := nL) hlen
  rw [hL] at hl
  rw [lg_entry_eq]
  let x : Cx := (p, e, rmD dp, s, m, av.toArray, below, meth, c, 0, 0, MQ below (Qm g post s.heap.size) av.toArray s 0 0 (Aa g s.heap.size), Aa g s.heap.size)
  have ok : Ok g x y.cls cc nL dp := ⟨B.exec, B.bytes, hml, hown, fun w hw => hts w (List.mem_cons_of_mem _ hw), hK, hj, fun c hc => Or.inl ⟨c, hc, rfl⟩, fun q hq => Or.inr hq, Nat.le_refl _, Nat.le_refl _, Nat.le_refl _, Nat.le_refl _⟩
  have rt : Rt g x ret post := ⟨rfl, rfl, B.returns, B.notSynchronized⟩
  exact k x ok rt s.heap [] _ hr hP va_S.rf hl
section ZM
variable {g : G} {x : Cx} {own : String} {cc : ByteArray} {nL dp pc : Nat} {L L' : List (Nat × Value)} {S : List Value} {σ : Sg} {post : List Value → Sg → Prop}
theorem z_iret (h : Ok g x own cc nL dp) {z : Int} (r : Rt g x (some .int) post) (d : decode cc pc = .ok (.ireturn, 1)) (hp : post [vI z] σ) : Z g x nL pc L [vI z] σ := by
  intro H locs ls hr hP hS hl
  obtain ⟨r1, r2, r3, r4⟩ := r
  unfold Wx
  rw [r1]
  rw [r2] at hS
  exact W.iret h.1 h.2.1 r3 (fun t ht hW => ⟨⟨some (vI z), σ, rfl, hp, hr, by rw [ht]; exact hP, va_K.moved hW.alike h.2.2.2.2.2.1, h.2.2.2.2.2.2.1⟩, hS.F ht⟩) hS.2.2 d r4
theorem z_zret (h : Ok g x own cc nL dp) {z : Int} (r : Rt g x (some .boolean) post) (d : decode cc pc = .ok (.ireturn, 1)) (hz : z = 0 ∨ z = 1) (hp : post [vI z] σ) : Z g x nL pc L [vI z] σ := by
  intro H locs ls hr hP hS hl
  obtain ⟨r1, r2, r3, r4⟩ := r
  unfold Wx
  rw [r1]
  rw [r2] at hS
  exact W.zret h.1 h.2.1 r3 (by rcases hz with rfl | rfl <;> decide) (fun t ht hW => ⟨⟨some (vI z), σ, rfl, hp, hr, by rw [ht]; exact hP, va_K.moved hW.alike h.2.2.2.2.2.1, h.2.2.2.2.2.2.1⟩, hS.F ht⟩) hS.2.2 d r4
theorem z_lret (h : Ok g x own cc nL dp) {z : Int} (r : Rt g x (some .long) post) (d : decode cc pc = .ok (.lreturn, 1)) (hp : post [vL z] σ) : Z g x nL pc L [vL z] σ := by
  intro H locs ls hr hP hS hl
  obtain ⟨r1, r2, r3, r4⟩ := r
  unfold Wx
  rw [r1]
  rw [r2] at hS
  exact W.lret h.1 h.2.1 r3 (fun t ht hW => ⟨⟨some (vL z), σ, rfl, hp, hr, by rw [ht]; exact hP, va_K.moved hW.alike h.2.2.2.2.2.1, h.2.2.2.2.2.2.1⟩, hS.F ht⟩) hS.2.2 d r4
theorem z_vret (h : Ok g x own cc nL dp) (r : Rt g x none post) (d : decode cc pc = .ok (.return_, 1)) (hp : post [] σ) : Z g x nL pc L [] σ := by
  intro H locs ls hr hP hS hl
  obtain ⟨r1, r2, r3, r4⟩ := r
  unfold Wx
  rw [r1]
  rw [r2] at hS
  exact W.vret h.1 h.2.1 r3 (fun t ht hW => ⟨⟨none, σ, rfl, hp, hr, by rw [ht]; exact hP, va_K.moved hW.alike h.2.2.2.2.2.1, h.2.2.2.2.2.2.1⟩, hS.F ht⟩) hS.2.2 d r4
/-- invokevirtual index in class own calls I, of n parameters -/
def CV (own : String) (ix : Nat) (I : MI) (n : Nat) : Prop := (Cond.methodLink own ix I.1 ∈ lw_g ∧ Cond.instanceMethod I.1 ∈ lw_g ∧ Cond.selects I.1.cls I.1 I.1 ∈ lw_g ∧ Cond.initialized I.1.cls ∈ lw_g) ∧ Cond.code I.1 I.2.1 I.2.2.1 I.2.2.2.1 ∈ lw_g ∧ I.1.cls ≠ "java/lang/invoke/MethodHandle" ∧ I.1.cls ≠ "java/lang/invoke/VarHandle" ∧ (parseMethodDescriptor I.1.desc).map (fun d => d.parameters.length) = some n ∧ I.2.2.1 ≤ 21
def CS (own : String) (ix : Nat) (I : MI) (n : Nat) : Prop := (Cond.methodLink own ix I.1 ∈ lw_g ∧ Cond.static I.1 ∈ lw_g ∧ Cond.initialized I.1.cls ∈ lw_g) ∧ Cond.code I.1 I.2.1 I.2.2.1 I.2.2.2.1 ∈ lw_g ∧ I.1.cls ≠ "java/lang/invoke/MethodHandle" ∧ I.1.cls ≠ "java/lang/invoke/VarHandle" ∧ (parseMethodDescriptor I.1.desc).map (fun d => d.parameters.length) = some n ∧ I.2.2.1 ≤ 21
theorem blind {g : G} {σ : Sg} {sz : Nat} {av : List Value} : FrameBlind (va_Pc av (fun U => U.heap.size = sz ∧ Bst g σ U)) := by
  intro a U g' mk q
  obtain ⟨q0, q1, qr, qP, qK, qD⟩ := q
  exact ⟨q0, q1, qr, qP, va_K.moved (u := U) (U := U.calling g' mk a) (Vm.Alike.refl U.vm) qK, qD⟩
theorem z_back (h : Ok g x own cc nL dp) {H : Heap} {locs : List Loc} {ls : Array Slot} {st0 : List Value} {a : Array Value} (hS : va_S (xA x) (xs x).heap H locs) (hl : lv_has ls nL L)
    (hrun : va_Run (xp x) g.1 (xe x) (xR x) (xs x) (xm x) (xa x) (xb x) (xt x) (xc x) H locs (xk x) (xn x) 0 0 (F0 (xm x) pc ls st0) S (Qm g post H.size a) (Aa g H.size)) (kk : ∀ (rv : List Value) (σ' : Sg), post rv σ' → Z g x nL (pc + 3) L (rv ++ S) σ') : Wx g x H locs (F0 (xm x) pc ls st0) := by
  intro T hT X
  obtain ⟨v, st₀, t, T', Lc, h0, X', hL, e1, e2, ⟨⟨v', σ', hv, hp, hr', hP', hK', hj'⟩, hz, hk⟩, st⟩ := hrun T hT X
  cases hv
  rw [h0] at hz hk
  have hAA : ∀ q, Aa g H.size q → xA x q := by
    rintro q (⟨c, hc, rfl⟩ | hq)
    · exact h.2.2.2.2.2.2.2.1 c hc
    · exact h.2.2.2.2.2.2.2.2.1 q (Nat.le_trans hS.1 hq)
  obtain ⟨t2, a1, b1⟩ := kk v.toList σ' hp T'.heap (locs ++ Lc) ls hr' (by rw [e1]; exact hP')
    ⟨Nat.le_trans hS.1 (by rw [e1]; exact hz), fun q h1 h2 => by rw [e1, hk q (Nat.lt_of_lt_of_le h1 hS.1) (fun z => h2 (hAA q z))]; exact hS.2.1 q h1 h2, fun q hq => by
      rcases List.mem_append.mp hq with h | h
      · exact hS.2.2 q h
      · exact hAA _ (hL q h)⟩ hl T' rfl X'
  exact ⟨t2, st t2 a1, b1⟩
theorem z_callV (h : Ok g x own cc nL dp) {I : MI} {ix n ci b N : Nat} {fl : List Nat} {T : u_T} {As : List Value} {st : List Value} (M : MM g I (.ref (g.2.2.1 b) :: As) σ post) (cv : CV own ix I n) (hs : sh b = (0, ci, fl)) (hcl : vwCl[ci]? = some (I.1.cls, T, N)) (hn : As.length = n) (hst : As.reverse ++ .ref (g.2.2.1 b) :: S = st) (hd : I.2.2.2.2 < dp) (hsum : (S.map fun v => v.category).sum ≤ 8) (d : decode cc pc = .ok (.invokevirtual ix, 3)) (kk : ∀ (rv : List Value) (σ' : Sg), post rv σ' → Z g x nL (pc + 3) L (rv ++ S) σ') : Z g x nL pc L st σ := by
  subst hst
  intro H locs ls hr hP hS hl
  obtain ⟨⟨c1, c2, c3, c4⟩, c5, c6, c7, c8, c9⟩ := cv
  have hfr : dp ≤ (xR x).frames := h.2.2.2.2.2.2.2.2.2.1
  have hlo : 40 * dp ≤ (xR x).locals := h.2.2.2.2.2.2.2.2.2.2.1
  refine z_back (a := (Value.ref (g.2.2.1 b) :: As).toArray) h hS hl ?_ kk
  refine va_runV (Ts := lw_g) (ws := wOf I) (rm := rmD I.2.2.2.2) (nL := nL) (C := I.1.cls) (bytes := I.2.1) (maxL := I.2.2.1) (ret := I.2.2.2.1) (n := n) (As := As) ⟨h.1, h.2.1, h.2.2.1, h.2.2.2.1, h.2.2.2.2.1⟩ (M H.size) (cwV n h.2.2.2.2.1 (lw_gIn (fun w hw => ?_)) rfl rfl rfl ⟨rfl, c6, c7, c8⟩ ⟨?_, ?_⟩) ⟨blind, va_recv h.2.2.2.2.2.1 hP hcl (ws_at g σ (sh_lt hs (by decide)) |>.trans (by rw [we_0 hs])), fun U hU hW => ⟨rfl, by rw [hU], hr, by rw [hU]; exact hP, va_K.moved hW.alike h.2.2.2.2.2.1, h.2.2.2.2.2.2.1⟩⟩ rfl hn hl.1 rfl (lv_room hsum) d ⟨h.2.2.2.2.2.2.2.2.2.2.2.1, h.2.2.2.2.2.2.2.2.2.2.2.2⟩
  · rcases List.mem_append.mp hw with q | q
    · simp only [List.mem_cons, List.not_mem_nil, or_false] at q
      rcases q with rfl | rfl | rfl | rfl <;> assumption
    · rcases List.mem_cons.mp q with rfl | q
      · exact c5
      · exact q
  · show I.2.2.2.2 + 1 ≤ _; omega
  · show 8 + (I.2.2.1 + 11) + 40 * I.2.2.2.2 ≤ _; omega
theorem z_callS (h : Ok g x own cc nL dp) {I : MI} {ix n : Nat} {As : List Value} {st : List Value} (M : MM g I As σ post) (cv : CS own ix I n) (hn : As.length = n) (hst : As.reverse ++ S = st) (hd : I.2.2.2.2 < dp) (hsum : (S.map fun v => v.category).sum ≤ 8) (d : decode cc pc = .ok (.invokestatic ix, 3)) (kk : ∀ (rv : List Value) (σ' : Sg), post rv σ' → Z g x nL (pc + 3) L (rv ++ S) σ') : Z g x nL pc L st σ := by
  subst hst
  intro H locs ls hr hP hS hl
  obtain ⟨⟨c1, c2, c4⟩, c5, c6, c7, c8, c9⟩ := cv
  have hfr : dp ≤ (xR x).frames := h.2.2.2.2.2.2.2.2.2.1
  have hlo : 40 * dp ≤ (xR x).locals := h.2.2.2.2.2.2.2.2.2.2.1
  refine z_back (a := As.toArray) h hS hl ?_ kk
  refine va_runS (Ts := lw_g) (ws := wOf I) (rm := rmD I.2.2.2.2) (nL := nL) (bytes := I.2.1) (maxL := I.2.2.1) (ret := I.2.2.2.1) (n := n) (As := As) ⟨h.1, h.2.1, h.2.2.1, h.2.2.2.1, h.2.2.2.2.1⟩ (M H.size) (va_cwS n h.2.2.2.2.1 (lw_gIn (fun w hw => ?_)) rfl rfl rfl ⟨c6, c7, c8⟩ ⟨?_, ?_⟩) ⟨blind, fun U hU hW => ⟨rfl, by rw [hU], hr, by rw [hU]; exact hP, va_K.moved hW.alike h.2.2.2.2.2.1, h.2.2.2.2.2.2.1⟩⟩ rfl hn hl.1 rfl (lv_room hsum) d ⟨h.2.2.2.2.2.2.2.2.2.2.2.1, h.2.2.2.2.2.2.2.2.2.2.2.2⟩
  · rcases List.mem_append.mp hw with q | q
    · simp only [List.mem_cons, List.not_mem_nil, or_false] at q
      rcases q with rfl | rfl | rfl <;> assumption
    · rcases List.mem_cons.mp q with rfl | q
      · exact c5
      · exact q
  · show I.2.2.2.2 + 1 ≤ _; omega
  · show 8 + (I.2.2.1 + 11) + 40 * I.2.2.2.2 ≤ _; omega
end ZM
end
