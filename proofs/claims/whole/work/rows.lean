section
-- ===== PART A: goes FIRST, ahead of the names: the tables' words, and 'selects' of the private methods out of them =====
/-- a private method of a class that the tables say can be made, by its rows of tables_1 -/
def lw_okq (q : MethodName × Nat) : Prop := (q.1.cls ≠ "java/lang/invoke/MethodHandle" ∧ q.1.cls ≠ "java/lang/invoke/VarHandle") ∧ Cond.instantiable q.1.cls q.2 ∈ tables_1 ∧ Cond.privateMethod q.1 ∈ tables_1 ∧ Cond.instanceMethod q.1 ∈ tables_1
theorem lw_p0 : lw_okq (⟨"HeardNumbers$Script", "isAtEnd", "()Z"⟩, 3) := ⟨⟨by decide +kernel, by decide +kernel⟩, List.mem_of_getElem? (i := 89) (by decide +kernel), List.mem_of_getElem? (i := 318) (by decide +kernel), List.mem_of_getElem? (i := 319) (by decide +kernel)⟩
theorem lw_p1 : lw_okq (⟨"HeardNumbers$Script", "readCandidate", "(LHeardNumbers$Heard;Z)I"⟩, 3) := ⟨⟨by decide +kernel, by decide +kernel⟩, List.mem_of_getElem? (i := 89) (by decide +kernel), List.mem_of_getElem? (i := 322) (by decide +kernel), List.mem_of_getElem? (i := 323) (by decide +kernel)⟩
theorem lw_p2 : lw_okq (⟨"HeardNumbers$Script", "valueFrom", "(I)I"⟩, 3) := ⟨⟨by decide +kernel, by decide +kernel⟩, List.mem_of_getElem? (i := 89) (by decide +kernel), List.mem_of_getElem? (i := 329) (by decide +kernel), List.mem_of_getElem? (i := 330) (by decide +kernel)⟩
theorem lw_p3 : lw_okq (⟨"HeardNumbers", "tellAnew", "()I"⟩, 9) := ⟨⟨by decide +kernel, by decide +kernel⟩, List.mem_of_getElem? (i := 15) (by decide +kernel), List.mem_of_getElem? (i := 363) (by decide +kernel), List.mem_of_getElem? (i := 364) (by decide +kernel)⟩
theorem lw_p4 : lw_okq (⟨"HeardNumbers$Heard", "spellSmall", "(I)Z"⟩, 7) := ⟨⟨by decide +kernel, by decide +kernel⟩, List.mem_of_getElem? (i := 23) (by decide +kernel), List.mem_of_getElem? (i := 387) (by decide +kernel), List.mem_of_getElem? (i := 388) (by decide +kernel)⟩
theorem lw_p5 : lw_okq (⟨"HeardNumbers$Survey", "findBest", "()V"⟩, 17) := ⟨⟨by decide +kernel, by decide +kernel⟩, List.mem_of_getElem? (i := 107) (by decide +kernel), List.mem_of_getElem? (i := 406) (by decide +kernel), List.mem_of_getElem? (i := 407) (by decide +kernel)⟩
theorem lw_p6 : lw_okq (⟨"HeardNumbers$Walk", "finish", "(I)Z"⟩, 13) := ⟨⟨by decide +kernel, by decide +kernel⟩, List.mem_of_getElem? (i := 149) (by decide +kernel), List.mem_of_getElem? (i := 420) (by decide +kernel), List.mem_of_getElem? (i := 421) (by decide +kernel)⟩
theorem lw_p7 : lw_okq (⟨"HeardNumbers$Walk", "isWhole", "(I)Z"⟩, 13) := ⟨⟨by decide +kernel, by decide +kernel⟩, List.mem_of_getElem? (i := 149) (by decide +kernel), List.mem_of_getElem? (i := 424) (by decide +kernel), List.mem_of_getElem? (i := 425) (by decide +kernel)⟩
theorem lw_p8 : lw_okq (⟨"HeardNumbers$Walk", "enter", "(II)Z"⟩, 13) := ⟨⟨by decide +kernel, by decide +kernel⟩, List.mem_of_getElem? (i := 149) (by decide +kernel), List.mem_of_getElem? (i := 428) (by decide +kernel), List.mem_of_getElem? (i := 429) (by decide +kernel)⟩
theorem lw_p9 : lw_okq (⟨"HeardNumbers$Walk", "passStop", "(I)Z"⟩, 13) := ⟨⟨by decide +kernel, by decide +kernel⟩, List.mem_of_getElem? (i := 149) (by decide +kernel), List.mem_of_getElem? (i := 432) (by decide +kernel), List.mem_of_getElem? (i := 433) (by decide +kernel)⟩
theorem lw_p10 : lw_okq (⟨"HeardNumbers$Walk", "passAnd", "(I)Z"⟩, 13) := ⟨⟨by decide +kernel, by decide +kernel⟩, List.mem_of_getElem? (i := 149) (by decide +kernel), List.mem_of_getElem? (i := 436) (by decide +kernel), List.mem_of_getElem? (i := 437) (by decide +kernel)⟩
theorem lw_p11 : lw_okq (⟨"HeardNumbers$Walk", "passHundred", "(I)Z"⟩, 13) := ⟨⟨by decide +kernel, by decide +kernel⟩, List.mem_of_getElem? (i := 149) (by decide +kernel), List.mem_of_getElem? (i := 440) (by decide +kernel), List.mem_of_getElem? (i := 441) (by decide +kernel)⟩
theorem lw_p12 : lw_okq (⟨"HeardNumbers$Walk", "passThousand", "(I)Z"⟩, 13) := ⟨⟨by decide +kernel, by decide +kernel⟩, List.mem_of_getElem? (i := 149) (by decide +kernel), List.mem_of_getElem? (i := 444) (by decide +kernel), List.mem_of_getElem? (i := 445) (by decide +kernel)⟩
theorem lw_p13 : lw_okq (⟨"HeardNumbers$Walk", "passLow", "(II)Z"⟩, 13) := ⟨⟨by decide +kernel, by decide +kernel⟩, List.mem_of_getElem? (i := 149) (by decide +kernel), List.mem_of_getElem? (i := 448) (by decide +kernel), List.mem_of_getElem? (i := 449) (by decide +kernel)⟩
theorem lw_p14 : lw_okq (⟨"HeardNumbers$Survey", "isSound", "()Z"⟩, 17) := ⟨⟨by decide +kernel, by decide +kernel⟩, List.mem_of_getElem? (i := 107) (by decide +kernel), List.mem_of_getElem? (i := 452) (by decide +kernel), List.mem_of_getElem? (i := 453) (by decide +kernel)⟩
theorem lw_p15 : lw_okq (⟨"HeardNumbers$Survey", "keepBest", "()V"⟩, 17) := ⟨⟨by decide +kernel, by decide +kernel⟩, List.mem_of_getElem? (i := 107) (by decide +kernel), List.mem_of_getElem? (i := 468) (by decide +kernel), List.mem_of_getElem? (i := 469) (by decide +kernel)⟩
def lw_privs_1 : List (MethodName × Nat) := [(⟨"HeardNumbers$Script", "isAtEnd", "()Z"⟩, 3), (⟨"HeardNumbers$Script", "readCandidate", "(LHeardNumbers$Heard;Z)I"⟩, 3), (⟨"HeardNumbers$Script", "valueFrom", "(I)I"⟩, 3), (⟨"HeardNumbers", "tellAnew", "()I"⟩, 9), (⟨"HeardNumbers$Heard", "spellSmall", "(I)Z"⟩, 7), (⟨"HeardNumbers$Survey", "findBest", "()V"⟩, 17), (⟨"HeardNumbers$Walk", "finish", "(I)Z"⟩, 13), (⟨"HeardNumbers$Walk", "isWhole", "(I)Z"⟩, 13), (⟨"HeardNumbers$Walk", "enter", "(II)Z"⟩, 13), (⟨"HeardNumbers$Walk", "passStop", "(I)Z"⟩, 13), (⟨"HeardNumbers$Walk", "passAnd", "(I)Z"⟩, 13), (⟨"HeardNumbers$Walk", "passHundred", "(I)Z"⟩, 13), (⟨"HeardNumbers$Walk", "passThousand", "(I)Z"⟩, 13), (⟨"HeardNumbers$Walk", "passLow", "(II)Z"⟩, 13), (⟨"HeardNumbers$Survey", "isSound", "()Z"⟩, 17), (⟨"HeardNumbers$Survey", "keepBest", "()V"⟩, 17)]
theorem lw_r1 : ∀ q ∈ lw_privs_1, lw_okq q := List.forall_mem_cons.mpr ⟨lw_p0, List.forall_mem_cons.mpr ⟨lw_p1, List.forall_mem_cons.mpr ⟨lw_p2, List.forall_mem_cons.mpr ⟨lw_p3, List.forall_mem_cons.mpr ⟨lw_p4, List.forall_mem_cons.mpr ⟨lw_p5, List.forall_mem_cons.mpr ⟨lw_p6, List.forall_mem_cons.mpr ⟨lw_p7, List.forall_mem_cons.mpr ⟨lw_p8, List.forall_mem_cons.mpr ⟨lw_p9, List.forall_mem_cons.mpr ⟨lw_p10, List.forall_mem_cons.mpr ⟨lw_p11, List.forall_mem_cons.mpr ⟨lw_p12, List.forall_mem_cons.mpr ⟨lw_p13, List.forall_mem_cons.mpr ⟨lw_p14, List.forall_mem_cons.mpr ⟨lw_p15, fun _ h => absurd h List.not_mem_nil⟩⟩⟩⟩⟩⟩⟩⟩⟩⟩⟩⟩⟩⟩⟩⟩
theorem lw_p16 : lw_okq (⟨"HeardNumbers$Survey", "findCounted", "()V"⟩, 17) := ⟨⟨by decide +kernel, by decide +kernel⟩, List.mem_of_getElem? (i := 107) (by decide +kernel), List.mem_of_getElem? (i := 485) (by decide +kernel), List.mem_of_getElem? (i := 486) (by decide +kernel)⟩
theorem lw_p17 : lw_okq (⟨"HeardNumbers$Survey", "tellsBest", "()Z"⟩, 17) := ⟨⟨by decide +kernel, by decide +kernel⟩, List.mem_of_getElem? (i := 107) (by decide +kernel), List.mem_of_getElem? (i := 499) (by decide +kernel), List.mem_of_getElem? (i := 500) (by decide +kernel)⟩
theorem lw_p18 : lw_okq (⟨"HeardNumbers$Counted", "questionsIfTrue", "(I)I"⟩, 8) := ⟨⟨by decide +kernel, by decide +kernel⟩, List.mem_of_getElem? (i := 113) (by decide +kernel), List.mem_of_getElem? (i := 522) (by decide +kernel), List.mem_of_getElem? (i := 523) (by decide +kernel)⟩
theorem lw_p19 : lw_okq (⟨"HeardNumbers$Counted", "alikeTo", "(I)J"⟩, 8) := ⟨⟨by decide +kernel, by decide +kernel⟩, List.mem_of_getElem? (i := 113) (by decide +kernel), List.mem_of_getElem? (i := 526) (by decide +kernel), List.mem_of_getElem? (i := 527) (by decide +kernel)⟩
theorem lw_p20 : lw_okq (⟨"HeardNumbers$Counted", "isAlike", "(II)Z"⟩, 8) := ⟨⟨by decide +kernel, by decide +kernel⟩, List.mem_of_getElem? (i := 113) (by decide +kernel), List.mem_of_getElem? (i := 530) (by decide +kernel), List.mem_of_getElem? (i := 531) (by decide +kernel)⟩
theorem lw_p21 : lw_okq (⟨"HeardNumbers$Counted", "takingLike", "(II)J"⟩, 8) := ⟨⟨by decide +kernel, by decide +kernel⟩, List.mem_of_getElem? (i := 113) (by decide +kernel), List.mem_of_getElem? (i := 542) (by decide +kernel), List.mem_of_getElem? (i := 543) (by decide +kernel)⟩
theorem lw_p22 : lw_okq (⟨"HeardNumbers", "keepForUndo", "()V"⟩, 9) := ⟨⟨by decide +kernel, by decide +kernel⟩, List.mem_of_getElem? (i := 15) (by decide +kernel), List.mem_of_getElem? (i := 569) (by decide +kernel), List.mem_of_getElem? (i := 570) (by decide +kernel)⟩
theorem lw_p23 : lw_okq (⟨"HeardNumbers$Survey", "isCounted", "()Z"⟩, 17) := ⟨⟨by decide +kernel, by decide +kernel⟩, List.mem_of_getElem? (i := 107) (by decide +kernel), List.mem_of_getElem? (i := 678) (by decide +kernel), List.mem_of_getElem? (i := 679) (by decide +kernel)⟩
theorem lw_p24 : lw_okq (⟨"HeardNumbers$Survey", "weigh", "(I)V"⟩, 17) := ⟨⟨by decide +kernel, by decide +kernel⟩, List.mem_of_getElem? (i := 107) (by decide +kernel), List.mem_of_getElem? (i := 690) (by decide +kernel), List.mem_of_getElem? (i := 691) (by decide +kernel)⟩
theorem lw_p25 : lw_okq (⟨"HeardNumbers$Sheet", "cutToLane", "(J)J"⟩, 3) := ⟨⟨by decide +kernel, by decide +kernel⟩, List.mem_of_getElem? (i := 255) (by decide +kernel), List.mem_of_getElem? (i := 745) (by decide +kernel), List.mem_of_getElem? (i := 746) (by decide +kernel)⟩
theorem lw_p26 : lw_okq (⟨"HeardNumbersModel", "isSlot", "(I)Z"⟩, 37) := ⟨⟨by decide +kernel, by decide +kernel⟩, List.mem_of_getElem? (i := 771) (by decide +kernel), List.mem_of_getElem? (i := 893) (by decide +kernel), List.mem_of_getElem? (i := 894) (by decide +kernel)⟩
theorem lw_p27 : lw_okq (⟨"HeardNumbersModel", "at", "(I)I"⟩, 37) := ⟨⟨by decide +kernel, by decide +kernel⟩, List.mem_of_getElem? (i := 771) (by decide +kernel), List.mem_of_getElem? (i := 900) (by decide +kernel), List.mem_of_getElem? (i := 901) (by decide +kernel)⟩
theorem lw_p28 : lw_okq (⟨"HeardNumbersModel", "finds", "()V"⟩, 37) := ⟨⟨by decide +kernel, by decide +kernel⟩, List.mem_of_getElem? (i := 771) (by decide +kernel), List.mem_of_getElem? (i := 908) (by decide +kernel), List.mem_of_getElem? (i := 909) (by decide +kernel)⟩
theorem lw_p29 : lw_okq (⟨"HeardNumbersModel", "readings", "()I"⟩, 37) := ⟨⟨by decide +kernel, by decide +kernel⟩, List.mem_of_getElem? (i := 771) (by decide +kernel), List.mem_of_getElem? (i := 912) (by decide +kernel), List.mem_of_getElem? (i := 913) (by decide +kernel)⟩
theorem lw_p30 : lw_okq (⟨"HeardNumbersModel", "takes", "(I)Z"⟩, 37) := ⟨⟨by decide +kernel, by decide +kernel⟩, List.mem_of_getElem? (i := 771) (by decide +kernel), List.mem_of_getElem? (i := 916) (by decide +kernel), List.mem_of_getElem? (i := 917) (by decide +kernel)⟩
theorem lw_p31 : lw_okq (⟨"HeardNumbersModel", "takesPicked", "()Z"⟩, 37) := ⟨⟨by decide +kernel, by decide +kernel⟩, List.mem_of_getElem? (i := 771) (by decide +kernel), List.mem_of_getElem? (i := 920) (by decide +kernel), List.mem_of_getElem? (i := 921) (by decide +kernel)⟩
def lw_privs_2 : List (MethodName × Nat) := [(⟨"HeardNumbers$Survey", "findCounted", "()V"⟩, 17), (⟨"HeardNumbers$Survey", "tellsBest", "()Z"⟩, 17), (⟨"HeardNumbers$Counted", "questionsIfTrue", "(I)I"⟩, 8), (⟨"HeardNumbers$Counted", "alikeTo", "(I)J"⟩, 8), (⟨"HeardNumbers$Counted", "isAlike", "(II)Z"⟩, 8), (⟨"HeardNumbers$Counted", "takingLike", "(II)J"⟩, 8), (⟨"HeardNumbers", "keepForUndo", "()V"⟩, 9), (⟨"HeardNumbers$Survey", "isCounted", "()Z"⟩, 17), (⟨"HeardNumbers$Survey", "weigh", "(I)V"⟩, 17), (⟨"HeardNumbers$Sheet", "cutToLane", "(J)J"⟩, 3), (⟨"HeardNumbersModel", "isSlot", "(I)Z"⟩, 37), (⟨"HeardNumbersModel", "at", "(I)I"⟩, 37), (⟨"HeardNumbersModel", "finds", "()V"⟩, 37), (⟨"HeardNumbersModel", "readings", "()I"⟩, 37), (⟨"HeardNumbersModel", "takes", "(I)Z"⟩, 37), (⟨"HeardNumbersModel", "takesPicked", "()Z"⟩, 37)]
theorem lw_r2 : ∀ q ∈ lw_privs_2, lw_okq q := List.forall_mem_cons.mpr ⟨lw_p16, List.forall_mem_cons.mpr ⟨lw_p17, List.forall_mem_cons.mpr ⟨lw_p18, List.forall_mem_cons.mpr ⟨lw_p19, List.forall_mem_cons.mpr ⟨lw_p20, List.forall_mem_cons.mpr ⟨lw_p21, List.forall_mem_cons.mpr ⟨lw_p22, List.forall_mem_cons.mpr ⟨lw_p23, List.forall_mem_cons.mpr ⟨lw_p24, List.forall_mem_cons.mpr ⟨lw_p25, List.forall_mem_cons.mpr ⟨lw_p26, List.forall_mem_cons.mpr ⟨lw_p27, List.forall_mem_cons.mpr ⟨lw_p28, List.forall_mem_cons.mpr ⟨lw_p29, List.forall_mem_cons.mpr ⟨lw_p30, List.forall_mem_cons.mpr ⟨lw_p31, fun _ h => absurd h List.not_mem_nil⟩⟩⟩⟩⟩⟩⟩⟩⟩⟩⟩⟩⟩⟩⟩⟩
theorem lw_p32 : lw_okq (⟨"HeardNumbersModel", "isSaid", "()Z"⟩, 37) := ⟨⟨by decide +kernel, by decide +kernel⟩, List.mem_of_getElem? (i := 771) (by decide +kernel), List.mem_of_getElem? (i := 924) (by decide +kernel), List.mem_of_getElem? (i := 925) (by decide +kernel)⟩
theorem lw_p33 : lw_okq (⟨"HeardNumbersModel", "number", "()I"⟩, 37) := ⟨⟨by decide +kernel, by decide +kernel⟩, List.mem_of_getElem? (i := 771) (by decide +kernel), List.mem_of_getElem? (i := 928) (by decide +kernel), List.mem_of_getElem? (i := 929) (by decide +kernel)⟩
theorem lw_p34 : lw_okq (⟨"HeardNumbersModel", "small", "()I"⟩, 37) := ⟨⟨by decide +kernel, by decide +kernel⟩, List.mem_of_getElem? (i := 771) (by decide +kernel), List.mem_of_getElem? (i := 932) (by decide +kernel), List.mem_of_getElem? (i := 933) (by decide +kernel)⟩
theorem lw_p35 : lw_okq (⟨"HeardNumbersModel", "wordHere", "()I"⟩, 37) := ⟨⟨by decide +kernel, by decide +kernel⟩, List.mem_of_getElem? (i := 771) (by decide +kernel), List.mem_of_getElem? (i := 936) (by decide +kernel), List.mem_of_getElem? (i := 937) (by decide +kernel)⟩
theorem lw_p36 : lw_okq (⟨"HeardNumbersModel", "low", "()I"⟩, 37) := ⟨⟨by decide +kernel, by decide +kernel⟩, List.mem_of_getElem? (i := 771) (by decide +kernel), List.mem_of_getElem? (i := 941) (by decide +kernel), List.mem_of_getElem? (i := 942) (by decide +kernel)⟩
theorem lw_p37 : lw_okq (⟨"HeardNumbersModel", "more", "()I"⟩, 37) := ⟨⟨by decide +kernel, by decide +kernel⟩, List.mem_of_getElem? (i := 771) (by decide +kernel), List.mem_of_getElem? (i := 951) (by decide +kernel), List.mem_of_getElem? (i := 952) (by decide +kernel)⟩
theorem lw_p38 : lw_okq (⟨"HeardNumbersModel", "holds", "()Z"⟩, 37) := ⟨⟨by decide +kernel, by decide +kernel⟩, List.mem_of_getElem? (i := 771) (by decide +kernel), List.mem_of_getElem? (i := 955) (by decide +kernel), List.mem_of_getElem? (i := 956) (by decide +kernel)⟩
theorem lw_p39 : lw_okq (⟨"HeardNumbersModel", "counts", "()V"⟩, 37) := ⟨⟨by decide +kernel, by decide +kernel⟩, List.mem_of_getElem? (i := 771) (by decide +kernel), List.mem_of_getElem? (i := 959) (by decide +kernel), List.mem_of_getElem? (i := 960) (by decide +kernel)⟩
theorem lw_p40 : lw_okq (⟨"HeardNumbersModel", "isAsBest", "()Z"⟩, 37) := ⟨⟨by decide +kernel, by decide +kernel⟩, List.mem_of_getElem? (i := 771) (by decide +kernel), List.mem_of_getElem? (i := 963) (by decide +kernel), List.mem_of_getElem? (i := 964) (by decide +kernel)⟩
theorem lw_p41 : lw_okq (⟨"HeardNumbersModel", "look", "(I)I"⟩, 37) := ⟨⟨by decide +kernel, by decide +kernel⟩, List.mem_of_getElem? (i := 771) (by decide +kernel), List.mem_of_getElem? (i := 967) (by decide +kernel), List.mem_of_getElem? (i := 968) (by decide +kernel)⟩
theorem lw_p42 : lw_okq (⟨"HeardNumbersModel", "questions", "()I"⟩, 37) := ⟨⟨by decide +kernel, by decide +kernel⟩, List.mem_of_getElem? (i := 771) (by decide +kernel), List.mem_of_getElem? (i := 971) (by decide +kernel), List.mem_of_getElem? (i := 972) (by decide +kernel)⟩
theorem lw_p43 : lw_okq (⟨"HeardNumbersModel", "tellsSame", "(J)Z"⟩, 37) := ⟨⟨by decide +kernel, by decide +kernel⟩, List.mem_of_getElem? (i := 771) (by decide +kernel), List.mem_of_getElem? (i := 975) (by decide +kernel), List.mem_of_getElem? (i := 976) (by decide +kernel)⟩
theorem lw_p44 : lw_okq (⟨"HeardNumbersModel", "partOf", "(JII)J"⟩, 37) := ⟨⟨by decide +kernel, by decide +kernel⟩, List.mem_of_getElem? (i := 771) (by decide +kernel), List.mem_of_getElem? (i := 979) (by decide +kernel), List.mem_of_getElem? (i := 980) (by decide +kernel)⟩
theorem lw_p45 : lw_okq (⟨"HeardNumbersModel", "spoilt", "()I"⟩, 37) := ⟨⟨by decide +kernel, by decide +kernel⟩, List.mem_of_getElem? (i := 771) (by decide +kernel), List.mem_of_getElem? (i := 983) (by decide +kernel), List.mem_of_getElem? (i := 984) (by decide +kernel)⟩
theorem lw_p46 : lw_okq (⟨"HeardNumbersModel", "here", "()I"⟩, 37) := ⟨⟨by decide +kernel, by decide +kernel⟩, List.mem_of_getElem? (i := 771) (by decide +kernel), List.mem_of_getElem? (i := 997) (by decide +kernel), List.mem_of_getElem? (i := 998) (by decide +kernel)⟩
theorem lw_p47 : lw_okq (⟨"HeardNumbersModel", "reads", "(I)Z"⟩, 37) := ⟨⟨by decide +kernel, by decide +kernel⟩, List.mem_of_getElem? (i := 771) (by decide +kernel), List.mem_of_getElem? (i := 1001) (by decide +kernel), List.mem_of_getElem? (i := 1002) (by decide +kernel)⟩
def lw_privs_3 : List (MethodName × Nat) := [(⟨"HeardNumbersModel", "isSaid", "()Z"⟩, 37), (⟨"HeardNumbersModel", "number", "()I"⟩, 37), (⟨"HeardNumbersModel", "small", "()I"⟩, 37), (⟨"HeardNumbersModel", "wordHere", "()I"⟩, 37), (⟨"HeardNumbersModel", "low", "()I"⟩, 37), (⟨"HeardNumbersModel", "more", "()I"⟩, 37), (⟨"HeardNumbersModel", "holds", "()Z"⟩, 37), (⟨"HeardNumbersModel", "counts", "()V"⟩, 37), (⟨"HeardNumbersModel", "isAsBest", "()Z"⟩, 37), (⟨"HeardNumbersModel", "look", "(I)I"⟩, 37), (⟨"HeardNumbersModel", "questions", "()I"⟩, 37), (⟨"HeardNumbersModel", "tellsSame", "(J)Z"⟩, 37), (⟨"HeardNumbersModel", "partOf", "(JII)J"⟩, 37), (⟨"HeardNumbersModel", "spoilt", "()I"⟩, 37), (⟨"HeardNumbersModel", "here", "()I"⟩, 37), (⟨"HeardNumbersModel", "reads", "(I)Z"⟩, 37)]
theorem lw_r3 : ∀ q ∈ lw_privs_3, lw_okq q := List.forall_mem_cons.mpr ⟨lw_p32, List.forall_mem_cons.mpr ⟨lw_p33, List.forall_mem_cons.mpr ⟨lw_p34, List.forall_mem_cons.mpr ⟨lw_p35, List.forall_mem_cons.mpr ⟨lw_p36, List.forall_mem_cons.mpr ⟨lw_p37, List.forall_mem_cons.mpr ⟨lw_p38, List.forall_mem_cons.mpr ⟨lw_p39, List.forall_mem_cons.mpr ⟨lw_p40, List.forall_mem_cons.mpr ⟨lw_p41, List.forall_mem_cons.mpr ⟨lw_p42, List.forall_mem_cons.mpr ⟨lw_p43, List.forall_mem_cons.mpr ⟨lw_p44, List.forall_mem_cons.mpr ⟨lw_p45, List.forall_mem_cons.mpr ⟨lw_p46, List.forall_mem_cons.mpr ⟨lw_p47, fun _ h => absurd h List.not_mem_nil⟩⟩⟩⟩⟩⟩⟩⟩⟩⟩⟩⟩⟩⟩⟩⟩
theorem lw_p48 : lw_okq (⟨"HeardNumbersModel", "wordRead", "()I"⟩, 37) := ⟨⟨by decide +kernel, by decide +kernel⟩, List.mem_of_getElem? (i := 771) (by decide +kernel), List.mem_of_getElem? (i := 1005) (by decide +kernel), List.mem_of_getElem? (i := 1006) (by decide +kernel)⟩
theorem lw_p49 : lw_okq (⟨"HeardNumbersModel", "has", "(I)Z"⟩, 37) := ⟨⟨by decide +kernel, by decide +kernel⟩, List.mem_of_getElem? (i := 771) (by decide +kernel), List.mem_of_getElem? (i := 1014) (by decide +kernel), List.mem_of_getElem? (i := 1015) (by decide +kernel)⟩
theorem lw_p50 : lw_okq (⟨"HeardNumbersModel", "fault", "()I"⟩, 37) := ⟨⟨by decide +kernel, by decide +kernel⟩, List.mem_of_getElem? (i := 771) (by decide +kernel), List.mem_of_getElem? (i := 1018) (by decide +kernel), List.mem_of_getElem? (i := 1019) (by decide +kernel)⟩
theorem lw_p51 : lw_okq (⟨"HeardNumbersModel", "clears", "()V"⟩, 37) := ⟨⟨by decide +kernel, by decide +kernel⟩, List.mem_of_getElem? (i := 771) (by decide +kernel), List.mem_of_getElem? (i := 1022) (by decide +kernel), List.mem_of_getElem? (i := 1023) (by decide +kernel)⟩
theorem lw_p52 : lw_okq (⟨"HeardNumbersModel", "saysSmall", "(I)V"⟩, 37) := ⟨⟨by decide +kernel, by decide +kernel⟩, List.mem_of_getElem? (i := 771) (by decide +kernel), List.mem_of_getElem? (i := 1031) (by decide +kernel), List.mem_of_getElem? (i := 1032) (by decide +kernel)⟩
theorem lw_p53 : lw_okq (⟨"HeardNumbersModel", "says", "(I)V"⟩, 37) := ⟨⟨by decide +kernel, by decide +kernel⟩, List.mem_of_getElem? (i := 771) (by decide +kernel), List.mem_of_getElem? (i := 1035) (by decide +kernel), List.mem_of_getElem? (i := 1036) (by decide +kernel)⟩
theorem lw_p54 : lw_okq (⟨"HeardNumbersModel", "hears", "(II)V"⟩, 37) := ⟨⟨by decide +kernel, by decide +kernel⟩, List.mem_of_getElem? (i := 771) (by decide +kernel), List.mem_of_getElem? (i := 1039) (by decide +kernel), List.mem_of_getElem? (i := 1040) (by decide +kernel)⟩
theorem lw_p55 : lw_okq (⟨"HeardNumbersModel", "notes", "()V"⟩, 37) := ⟨⟨by decide +kernel, by decide +kernel⟩, List.mem_of_getElem? (i := 771) (by decide +kernel), List.mem_of_getElem? (i := 1051) (by decide +kernel), List.mem_of_getElem? (i := 1052) (by decide +kernel)⟩
theorem lw_p56 : lw_okq (⟨"HeardNumbersModel", "placeOf", "(II)I"⟩, 37) := ⟨⟨by decide +kernel, by decide +kernel⟩, List.mem_of_getElem? (i := 771) (by decide +kernel), List.mem_of_getElem? (i := 1059) (by decide +kernel), List.mem_of_getElem? (i := 1060) (by decide +kernel)⟩
theorem lw_p57 : lw_okq (⟨"HeardNumbersModel", "comes", "(III)V"⟩, 37) := ⟨⟨by decide +kernel, by decide +kernel⟩, List.mem_of_getElem? (i := 771) (by decide +kernel), List.mem_of_getElem? (i := 1063) (by decide +kernel), List.mem_of_getElem? (i := 1064) (by decide +kernel)⟩
theorem lw_p58 : lw_okq (⟨"HeardNumbersModel", "isCounted", "(I)Z"⟩, 37) := ⟨⟨by decide +kernel, by decide +kernel⟩, List.mem_of_getElem? (i := 771) (by decide +kernel), List.mem_of_getElem? (i := 1118) (by decide +kernel), List.mem_of_getElem? (i := 1119) (by decide +kernel)⟩
theorem lw_p59 : lw_okq (⟨"HeardNumbersModel", "why", "(IIII)I"⟩, 37) := ⟨⟨by decide +kernel, by decide +kernel⟩, List.mem_of_getElem? (i := 771) (by decide +kernel), List.mem_of_getElem? (i := 1151) (by decide +kernel), List.mem_of_getElem? (i := 1152) (by decide +kernel)⟩
def lw_privs_4 : List (MethodName × Nat) := [(⟨"HeardNumbersModel", "wordRead", "()I"⟩, 37), (⟨"HeardNumbersModel", "has", "(I)Z"⟩, 37), (⟨"HeardNumbersModel", "fault", "()I"⟩, 37), (⟨"HeardNumbersModel", "clears", "()V"⟩, 37), (⟨"HeardNumbersModel", "saysSmall", "(I)V"⟩, 37), (⟨"HeardNumbersModel", "says", "(I)V"⟩, 37), (⟨"HeardNumbersModel", "hears", "(II)V"⟩, 37), (⟨"HeardNumbersModel", "notes", "()V"⟩, 37), (⟨"HeardNumbersModel", "placeOf", "(II)I"⟩, 37), (⟨"HeardNumbersModel", "comes", "(III)V"⟩, 37), (⟨"HeardNumbersModel", "isCounted", "(I)Z"⟩, 37), (⟨"HeardNumbersModel", "why", "(IIII)I"⟩, 37)]
theorem lw_r4 : ∀ q ∈ lw_privs_4, lw_okq q := List.forall_mem_cons.mpr ⟨lw_p48, List.forall_mem_cons.mpr ⟨lw_p49, List.forall_mem_cons.mpr ⟨lw_p50, List.forall_mem_cons.mpr ⟨lw_p51, List.forall_mem_cons.mpr ⟨lw_p52, List.forall_mem_cons.mpr ⟨lw_p53, List.forall_mem_cons.mpr ⟨lw_p54, List.forall_mem_cons.mpr ⟨lw_p55, List.forall_mem_cons.mpr ⟨lw_p56, List.forall_mem_cons.mpr ⟨lw_p57, List.forall_mem_cons.mpr ⟨lw_p58, List.forall_mem_cons.mpr ⟨lw_p59, fun _ h => absurd h List.not_mem_nil⟩⟩⟩⟩⟩⟩⟩⟩⟩⟩⟩⟩
def lw_privs : List (MethodName × Nat) := lw_privs_1 ++ (lw_privs_2 ++ (lw_privs_3 ++ (lw_privs_4)))
def lw_tbl : List Cond := k2_sels lw_privs ++ tables_1
theorem lw_privs_ok : ∀ q ∈ lw_privs, lw_okq q := by
  show ∀ q ∈ lw_privs_1 ++ (lw_privs_2 ++ (lw_privs_3 ++ (lw_privs_4))), lw_okq q
  exact List.forall_mem_append.mpr ⟨lw_r1, List.forall_mem_append.mpr ⟨lw_r2, List.forall_mem_append.mpr ⟨lw_r3, lw_r4⟩⟩⟩
end
section
def RX0 : String := "HeardNumbers$Check"
def TX0 : u_T := fun k => match k with
  | _ => ("", "", "", false)
def tyX0 : Nat → FieldType := fun k => match k with
  | _ => .int
abbrev wsX00 : List Cond := u_ws RX0 TX0 0
theorem nmX0 : ∀ a, a < 0 → ∀ b, b < 0 → a ≠ b → (TX0 a).2.1 ≠ (TX0 b).2.1 := by decide +kernel
theorem tyX0_ok : ∀ k, k < 0 → parseFieldDescriptor (TX0 k).2.2.1 = some (tyX0 k) := by decide +kernel
abbrev cX0_isKept : ByteArray := prog_2_method_2_code
def yX0_isKept : MethodName := ⟨RX0, "isKept", "(I[II)Z"⟩
abbrev cX0_others : ByteArray := prog_2_method_3_code
def yX0_others : MethodName := ⟨RX0, "others", "([II)I"⟩
abbrev cX0_rises : ByteArray := prog_2_method_4_code
def yX0_rises : MethodName := ⟨RX0, "rises", "([II)Z"⟩
abbrev cX0_isSteady : ByteArray := prog_2_method_5_code
def yX0_isSteady : MethodName := ⟨RX0, "isSteady", "([II)Z"⟩
def RX1 : String := "HeardNumbers$Counted"
def TX1 : u_T := fun k => match k with
  | 0 => ("HeardNumbers$Counted", "known", "Z", false)
  | 1 => ("HeardNumbers$Counted", "many", "I", false)
  | 2 => ("HeardNumbers$Counted", "tally", "[I", true)
  | 3 => ("HeardNumbers$Counted", "cost", "[I", true)
  | 4 => ("HeardNumbers$Counted", "numbers", "[I", true)
  | 5 => ("HeardNumbers$Counted", "number", "[I", true)
  | 6 => ("HeardNumbers$Counted", "taking", "[J", true)
  | _ => ("HeardNumbers$Counted", "part", "[I", true)
def tyX1 : Nat → FieldType := fun k => match k with
  | 0 => .boolean
  | 1 => .int
  | 2 => .array .int
  | 3 => .array .int
  | 4 => .array .int
  | 5 => .array .int
  | 6 => .array .long
  | _ => .array .int
abbrev wsX10 : List Cond := u_ws RX1 TX1 8
theorem nmX1 : ∀ a, a < 8 → ∀ b, b < 8 → a ≠ b → (TX1 a).2.1 ≠ (TX1 b).2.1 := by decide +kernel
theorem tyX1_ok : ∀ k, k < 8 → parseFieldDescriptor (TX1 k).2.2.1 = some (tyX1 k) := by decide +kernel
abbrev cX1_init : ByteArray := prog_3_method_1_code
def yX1_init : MethodName := ⟨RX1, "<init>", "()V"⟩
abbrev cX1_clear : ByteArray := prog_3_method_2_code
def yX1_clear : MethodName := ⟨RX1, "clear", "()V"⟩
abbrev cX1_add : ByteArray := prog_3_method_3_code
def yX1_add : MethodName := ⟨RX1, "add", "(LHeardNumbers$Walk;I)V"⟩
abbrev cX1_lastNumber : ByteArray := prog_3_method_4_code
def yX1_lastNumber : MethodName := ⟨RX1, "lastNumber", "(I)I"⟩
abbrev cX1_partedBest : ByteArray := prog_3_method_5_code
def yX1_partedBest : MethodName := ⟨RX1, "partedBest", "([II)I"⟩
abbrev cX1_questions : ByteArray := prog_3_method_6_code
def yX1_questions : MethodName := ⟨RX1, "questions", "()I"⟩
abbrev cX1_questionsIfTrue : ByteArray := prog_3_method_7_code
def yX1_questionsIfTrue : MethodName := ⟨RX1, "questionsIfTrue", "(I)I"⟩
abbrev cX1_takingLike : ByteArray := prog_3_method_8_code
def yX1_takingLike : MethodName := ⟨RX1, "takingLike", "(II)J"⟩
abbrev cX1_alikeTo : ByteArray := prog_3_method_9_code
def yX1_alikeTo : MethodName := ⟨RX1, "alikeTo", "(I)J"⟩
abbrev cX1_isAlike : ByteArray := prog_3_method_10_code
def yX1_isAlike : MethodName := ⟨RX1, "isAlike", "(II)Z"⟩
def RX2 : String := "HeardNumbers$Heard"
def TX2 : u_T := fun k => match k with
  | 0 => ("HeardNumbers$Heard", "filled", "[I", true)
  | 1 => ("HeardNumbers$Heard", "word", "[I", true)
  | 2 => ("HeardNumbers$Heard", "cost", "[I", true)
  | 3 => ("HeardNumbers$Heard", "size", "I", false)
  | 4 => ("HeardNumbers$Heard", "kind", "I", false)
  | 5 => ("HeardNumbers$Heard", "slack", "I", false)
  | _ => ("HeardNumbers$Heard", "draw", "I", false)
def tyX2 : Nat → FieldType := fun k => match k with
  | 0 => .array .int
  | 1 => .array .int
  | 2 => .array .int
  | 3 => .int
  | 4 => .int
  | 5 => .int
  | _ => .int
abbrev wsX20 : List Cond := u_ws RX2 TX2 7
theorem nmX2 : ∀ a, a < 7 → ∀ b, b < 7 → a ≠ b → (TX2 a).2.1 ≠ (TX2 b).2.1 := by decide +kernel
theorem tyX2_ok : ∀ k, k < 7 → parseFieldDescriptor (TX2 k).2.2.1 = some (tyX2 k) := by decide +kernel
abbrev cX2_init : ByteArray := prog_4_method_1_code
def yX2_init : MethodName := ⟨RX2, "<init>", "()V"⟩
abbrev cX2_take : ByteArray := prog_4_method_2_code
def yX2_take : MethodName := ⟨RX2, "take", "(LHeardNumbers$Heard;)V"⟩
abbrev cX2_takeSlots : ByteArray := prog_4_method_3_code
def yX2_takeSlots : MethodName := ⟨RX2, "takeSlots", "(LHeardNumbers$Heard;)V"⟩
abbrev cX2_isSlot : ByteArray := prog_4_method_4_code
def yX2_isSlot : MethodName := ⟨RX2, "isSlot", "(I)Z"⟩
abbrev cX2_find : ByteArray := prog_4_method_5_code
def yX2_find : MethodName := ⟨RX2, "find", "(II)I"⟩
abbrev cX2_candidates : ByteArray := prog_4_method_6_code
def yX2_candidates : MethodName := ⟨RX2, "candidates", "()I"⟩
abbrev cX2_isLastFull : ByteArray := prog_4_method_7_code
def yX2_isLastFull : MethodName := ⟨RX2, "isLastFull", "()Z"⟩
abbrev cX2_grow : ByteArray := prog_4_method_8_code
def yX2_grow : MethodName := ⟨RX2, "grow", "(II)Z"⟩
abbrev cX2_widen : ByteArray := prog_4_method_9_code
def yX2_widen : MethodName := ⟨RX2, "widen", "(III)Z"⟩
abbrev cX2_cut : ByteArray := prog_4_method_10_code
def yX2_cut : MethodName := ⟨RX2, "cut", "(I)V"⟩
abbrev cX2_narrowTo : ByteArray := prog_4_method_11_code
def yX2_narrowTo : MethodName := ⟨RX2, "narrowTo", "(II)V"⟩
abbrev cX2_turn : ByteArray := prog_4_method_12_code
def yX2_turn : MethodName := ⟨RX2, "turn", "()V"⟩
abbrev cX2_spell : ByteArray := prog_4_method_13_code
def yX2_spell : MethodName := ⟨RX2, "spell", "(I)Z"⟩
abbrev cX2_spellSmall : ByteArray := prog_4_method_14_code
def yX2_spellSmall : MethodName := ⟨RX2, "spellSmall", "(I)Z"⟩
def RX3 : String := "HeardNumbers$Past"
def TX3 : u_T := fun k => match k with
  | 0 => ("HeardNumbers$Past", "ring", "[LHeardNumbers$Heard;", true)
  | 1 => ("HeardNumbers$Past", "first", "I", false)
  | _ => ("HeardNumbers$Past", "many", "I", false)
def tyX3 : Nat → FieldType := fun k => match k with
  | 0 => .array (.object "HeardNumbers$Heard")
  | 1 => .int
  | _ => .int
abbrev wsX30 : List Cond := u_ws RX3 TX3 3
theorem nmX3 : ∀ a, a < 3 → ∀ b, b < 3 → a ≠ b → (TX3 a).2.1 ≠ (TX3 b).2.1 := by decide +kernel
theorem tyX3_ok : ∀ k, k < 3 → parseFieldDescriptor (TX3 k).2.2.1 = some (tyX3 k) := by decide +kernel
abbrev cX3_init : ByteArray := prog_5_method_1_code
def yX3_init : MethodName := ⟨RX3, "<init>", "()V"⟩
abbrev cX3_keep : ByteArray := prog_5_method_2_code
def yX3_keep : MethodName := ⟨RX3, "keep", "(LHeardNumbers$Heard;)V"⟩
abbrev cX3_giveBack : ByteArray := prog_5_method_3_code
def yX3_giveBack : MethodName := ⟨RX3, "giveBack", "(LHeardNumbers$Heard;)V"⟩
abbrev cX3_take : ByteArray := prog_5_method_4_code
def yX3_take : MethodName := ⟨RX3, "take", "(LHeardNumbers$Past;)V"⟩
def RX4 : String := "HeardNumbers$Script"
def TX4 : u_T := fun k => match k with
  | 0 => ("HeardNumbers$Script", "tape", "[C", true)
  | 1 => ("HeardNumbers$Script", "length", "I", false)
  | _ => ("HeardNumbers$Script", "at", "I", false)
def tyX4 : Nat → FieldType := fun k => match k with
  | 0 => .array .char
  | 1 => .int
  | _ => .int
abbrev wsX40 : List Cond := u_ws RX4 TX4 3
theorem nmX4 : ∀ a, a < 3 → ∀ b, b < 3 → a ≠ b → (TX4 a).2.1 ≠ (TX4 b).2.1 := by decide +kernel
theorem tyX4_ok : ∀ k, k < 3 → parseFieldDescriptor (TX4 k).2.2.1 = some (tyX4 k) := by decide +kernel
abbrev cX4_init : ByteArray := prog_6_method_1_code
def yX4_init : MethodName := ⟨RX4, "<init>", "()V"⟩
abbrev cX4_write : ByteArray := prog_6_method_2_code
def yX4_write : MethodName := ⟨RX4, "write", "(C)Z"⟩
abbrev cX4_read : ByteArray := prog_6_method_3_code
def yX4_read : MethodName := ⟨RX4, "read", "(LHeardNumbers$Heard;)I"⟩
abbrev cX4_readCandidate : ByteArray := prog_6_method_4_code
def yX4_readCandidate : MethodName := ⟨RX4, "readCandidate", "(LHeardNumbers$Heard;Z)I"⟩
abbrev cX4_valueFrom : ByteArray := prog_6_method_5_code
def yX4_valueFrom : MethodName := ⟨RX4, "valueFrom", "(I)I"⟩
abbrev cX4_isAtEnd : ByteArray := prog_6_method_6_code
def yX4_isAtEnd : MethodName := ⟨RX4, "isAtEnd", "()Z"⟩
abbrev cX4_isDigit : ByteArray := prog_6_method_7_code
def yX4_isDigit : MethodName := ⟨RX4, "isDigit", "(I)Z"⟩
abbrev cX4_wordOfValue : ByteArray := prog_6_method_8_code
def yX4_wordOfValue : MethodName := ⟨RX4, "wordOfValue", "(I)I"⟩
abbrev cX4_tensWord : ByteArray := prog_6_method_9_code
def yX4_tensWord : MethodName := ⟨RX4, "tensWord", "(I)I"⟩
abbrev cX4_wordOfLetter : ByteArray := prog_6_method_10_code
def yX4_wordOfLetter : MethodName := ⟨RX4, "wordOfLetter", "(I)I"⟩
def RX5 : String := "HeardNumbers$Sheet"
def TX5 : u_T := fun k => match k with
  | 0 => ("HeardNumbers$Sheet", "items", "[J", true)
  | 1 => ("HeardNumbers$Sheet", "lane", "I", false)
  | _ => ("HeardNumbers$Sheet", "size", "I", false)
def tyX5 : Nat → FieldType := fun k => match k with
  | 0 => .array .long
  | 1 => .int
  | _ => .int
abbrev wsX50 : List Cond := u_ws RX5 TX5 3
theorem nmX5 : ∀ a, a < 3 → ∀ b, b < 3 → a ≠ b → (TX5 a).2.1 ≠ (TX5 b).2.1 := by decide +kernel
theorem tyX5_ok : ∀ k, k < 3 → parseFieldDescriptor (TX5 k).2.2.1 = some (tyX5 k) := by decide +kernel
abbrev cX5_init : ByteArray := prog_7_method_1_code
def yX5_init : MethodName := ⟨RX5, "<init>", "()V"⟩
abbrev cX5_renew : ByteArray := prog_7_method_2_code
def yX5_renew : MethodName := ⟨RX5, "renew", "(II)V"⟩
abbrev cX5_lacks : ByteArray := prog_7_method_3_code
def yX5_lacks : MethodName := ⟨RX5, "lacks", "(II)Z"⟩
abbrev cX5_refusal : ByteArray := prog_7_method_4_code
def yX5_refusal : MethodName := ⟨RX5, "refusal", "(III)I"⟩
abbrev cX5_put : ByteArray := prog_7_method_5_code
def yX5_put : MethodName := ⟨RX5, "put", "(IJ)V"⟩
abbrev cX5_tells : ByteArray := prog_7_method_6_code
def yX5_tells : MethodName := ⟨RX5, "tells", "(II[II)Z"⟩
abbrev cX5_cutToLane : ByteArray := prog_7_method_7_code
def yX5_cutToLane : MethodName := ⟨RX5, "cutToLane", "(J)J"⟩
def RX6 : String := "HeardNumbers$Survey"
def TX6 : u_T := fun k => match k with
  | 0 => ("HeardNumbers$Survey", "heard", "LHeardNumbers$Heard;", true)
  | 1 => ("HeardNumbers$Survey", "walk", "LHeardNumbers$Walk;", true)
  | 2 => ("HeardNumbers$Survey", "counts", "LHeardNumbers$Counted;", true)
  | 3 => ("HeardNumbers$Survey", "bestKnown", "Z", false)
  | 4 => ("HeardNumbers$Survey", "said", "I", false)
  | 5 => ("HeardNumbers$Survey", "sound", "I", false)
  | 6 => ("HeardNumbers$Survey", "bestCost", "I", false)
  | 7 => ("HeardNumbers$Survey", "bestMany", "I", false)
  | 8 => ("HeardNumbers$Survey", "next", "I", false)
  | 9 => ("HeardNumbers$Survey", "bestNumber", "[I", true)
  | 10 => ("HeardNumbers$Survey", "bestPick", "[I", true)
  | 11 => ("HeardNumbers$Survey", "changed", "[I", true)
  | 12 => ("HeardNumbers$Survey", "kindCost", "[I", true)
  | 13 => ("HeardNumbers$Survey", "likelyKnown", "Z", false)
  | 14 => ("HeardNumbers$Survey", "likelyOf", "I", false)
  | 15 => ("HeardNumbers$Survey", "likelyWeight", "J", false)
  | _ => ("HeardNumbers$Survey", "allWeight", "J", false)
def tyX6 : Nat → FieldType := fun k => match k with
  | 0 => .object "HeardNumbers$Heard"
  | 1 => .object "HeardNumbers$Walk"
  | 2 => .object "HeardNumbers$Counted"
  | 3 => .boolean
  | 4 => .int
  | 5 => .int
  | 6 => .int
  | 7 => .int
  | 8 => .int
  | 9 => .array .int
  | 10 => .array .int
  | 11 => .array .int
  | 12 => .array .int
  | 13 => .boolean
  | 14 => .int
  | 15 => .long
  | _ => .long
abbrev wsX60 : List Cond := u_ws RX6 TX6 17
theorem nmX6 : ∀ a, a < 17 → ∀ b, b < 17 → a ≠ b → (TX6 a).2.1 ≠ (TX6 b).2.1 := by decide +kernel
theorem tyX6_ok : ∀ k, k < 17 → parseFieldDescriptor (TX6 k).2.2.1 = some (tyX6 k) := by decide +kernel
abbrev cX6_init : ByteArray := prog_8_method_1_code
def yX6_init : MethodName := ⟨RX6, "<init>", "(LHeardNumbers$Heard;)V"⟩
abbrev cX6_forget : ByteArray := prog_8_method_2_code
def yX6_forget : MethodName := ⟨RX6, "forget", "()V"⟩
abbrev cX6_saidOnes : ByteArray := prog_8_method_3_code
def yX6_saidOnes : MethodName := ⟨RX6, "saidOnes", "()I"⟩
abbrev cX6_soundOnes : ByteArray := prog_8_method_4_code
def yX6_soundOnes : MethodName := ⟨RX6, "soundOnes", "()I"⟩
abbrev cX6_bestTells : ByteArray := prog_8_method_5_code
def yX6_bestTells : MethodName := ⟨RX6, "bestTells", "(I)I"⟩
abbrev cX6_bestWord : ByteArray := prog_8_method_6_code
def yX6_bestWord : MethodName := ⟨RX6, "bestWord", "(I)I"⟩
abbrev cX6_countedOnes : ByteArray := prog_8_method_7_code
def yX6_countedOnes : MethodName := ⟨RX6, "countedOnes", "()I"⟩
abbrev cX6_lookAt : ByteArray := prog_8_method_8_code
def yX6_lookAt : MethodName := ⟨RX6, "lookAt", "()I"⟩
abbrev cX6_questions : ByteArray := prog_8_method_9_code
def yX6_questions : MethodName := ⟨RX6, "questions", "()I"⟩
abbrev cX6_nextCost : ByteArray := prog_8_method_10_code
def yX6_nextCost : MethodName := ⟨RX6, "nextCost", "()I"⟩
abbrev cX6_countedWords : ByteArray := prog_8_method_11_code
def yX6_countedWords : MethodName := ⟨RX6, "countedWords", "(I)J"⟩
abbrev cX6_countedTells : ByteArray := prog_8_method_12_code
def yX6_countedTells : MethodName := ⟨RX6, "countedTells", "(IZ)I"⟩
abbrev cX6_spoilt : ByteArray := prog_8_method_13_code
def yX6_spoilt : MethodName := ⟨RX6, "spoilt", "()I"⟩
abbrev cX6_likelihood : ByteArray := prog_8_method_14_code
def yX6_likelihood : MethodName := ⟨RX6, "likelihood", "(IZ)J"⟩
abbrev cX6_kindsMeant : ByteArray := prog_8_method_15_code
def yX6_kindsMeant : MethodName := ⟨RX6, "kindsMeant", "(LHeardNumbers$Sheet;II)I"⟩
abbrev cX6_isSound : ByteArray := prog_8_method_16_code
def yX6_isSound : MethodName := ⟨RX6, "isSound", "()Z"⟩
abbrev cX6_isCounted : ByteArray := prog_8_method_17_code
def yX6_isCounted : MethodName := ⟨RX6, "isCounted", "()Z"⟩
abbrev cX6_findBest : ByteArray := prog_8_method_18_code
def yX6_findBest : MethodName := ⟨RX6, "findBest", "()V"⟩
abbrev cX6_keepBest : ByteArray := prog_8_method_19_code
def yX6_keepBest : MethodName := ⟨RX6, "keepBest", "()V"⟩
abbrev cX6_findCounted : ByteArray := prog_8_method_20_code
def yX6_findCounted : MethodName := ⟨RX6, "findCounted", "()V"⟩
abbrev cX6_tellsBest : ByteArray := prog_8_method_21_code
def yX6_tellsBest : MethodName := ⟨RX6, "tellsBest", "()Z"⟩
abbrev cX6_weigh : ByteArray := prog_8_method_22_code
def yX6_weigh : MethodName := ⟨RX6, "weigh", "(I)V"⟩
abbrev cX6_divisor : ByteArray := prog_8_method_23_code
def yX6_divisor : MethodName := ⟨RX6, "divisor", "(JJ)J"⟩
def RX7 : String := "HeardNumbers$Walk"
def TX7 : u_T := fun k => match k with
  | 0 => ("HeardNumbers$Walk", "heard", "LHeardNumbers$Heard;", true)
  | 1 => ("HeardNumbers$Walk", "tried", "[I", true)
  | 2 => ("HeardNumbers$Walk", "place", "[I", true)
  | 3 => ("HeardNumbers$Walk", "thousands", "[I", true)
  | 4 => ("HeardNumbers$Walk", "small", "[I", true)
  | 5 => ("HeardNumbers$Walk", "ended", "[I", true)
  | 6 => ("HeardNumbers$Walk", "costs", "[I", true)
  | 7 => ("HeardNumbers$Walk", "weights", "[J", true)
  | 8 => ("HeardNumbers$Walk", "depth", "I", false)
  | 9 => ("HeardNumbers$Walk", "number", "[I", true)
  | 10 => ("HeardNumbers$Walk", "many", "I", false)
  | 11 => ("HeardNumbers$Walk", "cost", "I", false)
  | _ => ("HeardNumbers$Walk", "weight", "J", false)
def tyX7 : Nat → FieldType := fun k => match k with
  | 0 => .object "HeardNumbers$Heard"
  | 1 => .array .int
  | 2 => .array .int
  | 3 => .array .int
  | 4 => .array .int
  | 5 => .array .int
  | 6 => .array .int
  | 7 => .array .long
  | 8 => .int
  | 9 => .array .int
  | 10 => .int
  | 11 => .int
  | _ => .long
abbrev wsX70 : List Cond := u_ws RX7 TX7 13
theorem nmX7 : ∀ a, a < 13 → ∀ b, b < 13 → a ≠ b → (TX7 a).2.1 ≠ (TX7 b).2.1 := by decide +kernel
theorem tyX7_ok : ∀ k, k < 13 → parseFieldDescriptor (TX7 k).2.2.1 = some (tyX7 k) := by decide +kernel
abbrev cX7_init : ByteArray := prog_9_method_1_code
def yX7_init : MethodName := ⟨RX7, "<init>", "(LHeardNumbers$Heard;)V"⟩
abbrev cX7_begin : ByteArray := prog_9_method_2_code
def yX7_begin : MethodName := ⟨RX7, "begin", "()V"⟩
abbrev cX7_step : ByteArray := prog_9_method_3_code
def yX7_step : MethodName := ⟨RX7, "step", "()Z"⟩
abbrev cX7_pick : ByteArray := prog_9_method_4_code
def yX7_pick : MethodName := ⟨RX7, "pick", "(I)I"⟩
abbrev cX7_isSaid : ByteArray := prog_9_method_5_code
def yX7_isSaid : MethodName := ⟨RX7, "isSaid", "([I)Z"⟩
abbrev cX7_finish : ByteArray := prog_9_method_6_code
def yX7_finish : MethodName := ⟨RX7, "finish", "(I)Z"⟩
abbrev cX7_enter : ByteArray := prog_9_method_7_code
def yX7_enter : MethodName := ⟨RX7, "enter", "(II)Z"⟩
abbrev cX7_isWhole : ByteArray := prog_9_method_8_code
def yX7_isWhole : MethodName := ⟨RX7, "isWhole", "(I)Z"⟩
abbrev cX7_passStop : ByteArray := prog_9_method_9_code
def yX7_passStop : MethodName := ⟨RX7, "passStop", "(I)Z"⟩
abbrev cX7_passAnd : ByteArray := prog_9_method_10_code
def yX7_passAnd : MethodName := ⟨RX7, "passAnd", "(I)Z"⟩
abbrev cX7_passHundred : ByteArray := prog_9_method_11_code
def yX7_passHundred : MethodName := ⟨RX7, "passHundred", "(I)Z"⟩
abbrev cX7_passThousand : ByteArray := prog_9_method_12_code
def yX7_passThousand : MethodName := ⟨RX7, "passThousand", "(I)Z"⟩
abbrev cX7_passLow : ByteArray := prog_9_method_13_code
def yX7_passLow : MethodName := ⟨RX7, "passLow", "(II)Z"⟩
def RX8 : String := "HeardNumbers"
def TX8 : u_T := fun k => match k with
  | 0 => ("HeardNumbers", "now", "LHeardNumbers$Heard;", true)
  | 1 => ("HeardNumbers", "draft", "LHeardNumbers$Heard;", true)
  | 2 => ("HeardNumbers", "past", "LHeardNumbers$Past;", true)
  | 3 => ("HeardNumbers", "imageNow", "LHeardNumbers$Heard;", true)
  | 4 => ("HeardNumbers", "imagePast", "LHeardNumbers$Past;", true)
  | 5 => ("HeardNumbers", "script", "LHeardNumbers$Script;", true)
  | 6 => ("HeardNumbers", "survey", "LHeardNumbers$Survey;", true)
  | 7 => ("HeardNumbers", "sheets", "[LHeardNumbers$Sheet;", true)
  | _ => ("HeardNumbers", "imaged", "Z", false)
def tyX8 : Nat → FieldType := fun k => match k with
  | 0 => .object "HeardNumbers$Heard"
  | 1 => .object "HeardNumbers$Heard"
  | 2 => .object "HeardNumbers$Past"
  | 3 => .object "HeardNumbers$Heard"
  | 4 => .object "HeardNumbers$Past"
  | 5 => .object "HeardNumbers$Script"
  | 6 => .object "HeardNumbers$Survey"
  | 7 => .array (.object "HeardNumbers$Sheet")
  | _ => .boolean
abbrev wsX80 : List Cond := u_ws RX8 TX8 9
theorem nmX8 : ∀ a, a < 9 → ∀ b, b < 9 → a ≠ b → (TX8 a).2.1 ≠ (TX8 b).2.1 := by decide +kernel
theorem tyX8_ok : ∀ k, k < 9 → parseFieldDescriptor (TX8 k).2.2.1 = some (tyX8 k) := by decide +kernel
abbrev cX8_init : ByteArray := prog_1_method_1_code
def yX8_init : MethodName := ⟨RX8, "<init>", "()V"⟩
abbrev cX8_type : ByteArray := prog_1_method_2_code
def yX8_type : MethodName := ⟨RX8, "type", "(I)I"⟩
abbrev cX8_words : ByteArray := prog_1_method_3_code
def yX8_words : MethodName := ⟨RX8, "words", "()I"⟩
abbrev cX8_say : ByteArray := prog_1_method_4_code
def yX8_say : MethodName := ⟨RX8, "say", "(I)I"⟩
abbrev cX8_slot : ByteArray := prog_1_method_5_code
def yX8_slot : MethodName := ⟨RX8, "slot", "(III)I"⟩
abbrev cX8_count : ByteArray := prog_1_method_6_code
def yX8_count : MethodName := ⟨RX8, "count", "(I)I"⟩
abbrev cX8_hear : ByteArray := prog_1_method_7_code
def yX8_hear : MethodName := ⟨RX8, "hear", "(II)I"⟩
abbrev cX8_also : ByteArray := prog_1_method_8_code
def yX8_also : MethodName := ⟨RX8, "also", "(III)I"⟩
abbrev cX8_lose : ByteArray := prog_1_method_9_code
def yX8_lose : MethodName := ⟨RX8, "lose", "(I)I"⟩
abbrev cX8_settle : ByteArray := prog_1_method_10_code
def yX8_settle : MethodName := ⟨RX8, "settle", "(II)I"⟩
abbrev cX8_check : ByteArray := prog_1_method_11_code
def yX8_check : MethodName := ⟨RX8, "check", "(I)I"⟩
abbrev cX8_slack : ByteArray := prog_1_method_12_code
def yX8_slack : MethodName := ⟨RX8, "slack", "(I)I"⟩
abbrev cX8_storm : ByteArray := prog_1_method_13_code
def yX8_storm : MethodName := ⟨RX8, "storm", "(I)I"⟩
abbrev cX8_undo : ByteArray := prog_1_method_14_code
def yX8_undo : MethodName := ⟨RX8, "undo", "()I"⟩
abbrev cX8_seed : ByteArray := prog_1_method_15_code
def yX8_seed : MethodName := ⟨RX8, "seed", "(I)I"⟩
abbrev cX8_best : ByteArray := prog_1_method_16_code
def yX8_best : MethodName := ⟨RX8, "best", "(I)I"⟩
abbrev cX8_taken : ByteArray := prog_1_method_17_code
def yX8_taken : MethodName := ⟨RX8, "taken", "(I)I"⟩
abbrev cX8_open : ByteArray := prog_1_method_18_code
def yX8_open : MethodName := ⟨RX8, "open", "(I)J"⟩
abbrev cX8_counted : ByteArray := prog_1_method_19_code
def yX8_counted : MethodName := ⟨RX8, "counted", "(II)I"⟩
abbrev cX8_likely : ByteArray := prog_1_method_20_code
def yX8_likely : MethodName := ⟨RX8, "likely", "(II)J"⟩
abbrev cX8_image : ByteArray := prog_1_method_21_code
def yX8_image : MethodName := ⟨RX8, "image", "()I"⟩
abbrev cX8_restore : ByteArray := prog_1_method_22_code
def yX8_restore : MethodName := ⟨RX8, "restore", "()I"⟩
abbrev cX8_meant : ByteArray := prog_1_method_23_code
def yX8_meant : MethodName := ⟨RX8, "meant", "(IIII)I"⟩
abbrev cX8_film : ByteArray := prog_1_method_24_code
def yX8_film : MethodName := ⟨RX8, "film", "(III)I"⟩
abbrev cX8_sheet : ByteArray := prog_1_method_25_code
def yX8_sheet : MethodName := ⟨RX8, "sheet", "(III)I"⟩
abbrev cX8_drop : ByteArray := prog_1_method_26_code
def yX8_drop : MethodName := ⟨RX8, "drop", "(I)I"⟩
abbrev cX8_item : ByteArray := prog_1_method_27_code
def yX8_item : MethodName := ⟨RX8, "item", "(IIIJ)I"⟩
abbrev cX8_copy : ByteArray := prog_1_method_28_code
def yX8_copy : MethodName := ⟨RX8, "copy", "(IIIII)I"⟩
abbrev cX8_isWord : ByteArray := prog_1_method_29_code
def yX8_isWord : MethodName := ⟨RX8, "isWord", "(I)Z"⟩
abbrev cX8_isCost : ByteArray := prog_1_method_30_code
def yX8_isCost : MethodName := ⟨RX8, "isCost", "(I)Z"⟩
abbrev cX8_isSheet : ByteArray := prog_1_method_31_code
def yX8_isSheet : MethodName := ⟨RX8, "isSheet", "(I)Z"⟩
abbrev cX8_isLane : ByteArray := prog_1_method_32_code
def yX8_isLane : MethodName := ⟨RX8, "isLane", "(I)Z"⟩
abbrev cX8_keepForUndo : ByteArray := prog_1_method_33_code
def yX8_keepForUndo : MethodName := ⟨RX8, "keepForUndo", "()V"⟩
abbrev cX8_tellAnew : ByteArray := prog_1_method_34_code
def yX8_tellAnew : MethodName := ⟨RX8, "tellAnew", "()I"⟩
def RX9 : String := "HeardNumbersModel"
def TX9 : u_T := fun k => match k with
  | 0 => ("HeardNumbersModel", "now", "[I", true)
  | 1 => ("HeardNumbersModel", "pick", "[I", true)
  | 2 => ("HeardNumbersModel", "words", "[I", true)
  | 3 => ("HeardNumbersModel", "wordMany", "I", false)
  | 4 => ("HeardNumbersModel", "cost", "I", false)
  | 5 => ("HeardNumbersModel", "numbers", "[I", true)
  | 6 => ("HeardNumbersModel", "numberMany", "I", false)
  | 7 => ("HeardNumbersModel", "next", "I", false)
  | 8 => ("HeardNumbersModel", "saidMany", "I", false)
  | 9 => ("HeardNumbersModel", "soundMany", "I", false)
  | 10 => ("HeardNumbersModel", "best", "I", false)
  | 11 => ("HeardNumbersModel", "bestCost", "I", false)
  | 12 => ("HeardNumbersModel", "bestNumbers", "[I", true)
  | 13 => ("HeardNumbersModel", "bestMany", "I", false)
  | 14 => ("HeardNumbersModel", "nextCost", "I", false)
  | 15 => ("HeardNumbersModel", "countedMany", "I", false)
  | 16 => ("HeardNumbersModel", "having", "[I", true)
  | 17 => ("HeardNumbersModel", "list", "[I", true)
  | 18 => ("HeardNumbersModel", "open", "[J", true)
  | 19 => ("HeardNumbersModel", "asked", "[I", true)
  | 20 => ("HeardNumbersModel", "firstNumbers", "[I", true)
  | 21 => ("HeardNumbersModel", "left", "I", false)
  | 22 => ("HeardNumbersModel", "tape", "[I", true)
  | 23 => ("HeardNumbersModel", "taped", "I", false)
  | 24 => ("HeardNumbersModel", "place", "I", false)
  | 25 => ("HeardNumbersModel", "read", "[I", true)
  | 26 => ("HeardNumbersModel", "say", "[I", true)
  | 27 => ("HeardNumbersModel", "sayMany", "I", false)
  | 28 => ("HeardNumbersModel", "ahead", "[I", true)
  | 29 => ("HeardNumbersModel", "undos", "I", false)
  | 30 => ("HeardNumbersModel", "kept", "[I", true)
  | 31 => ("HeardNumbersModel", "keptAhead", "[I", true)
  | 32 => ("HeardNumbersModel", "keptUndos", "I", false)
  | 33 => ("HeardNumbersModel", "lanes", "[I", true)
  | 34 => ("HeardNumbersModel", "sizes", "[I", true)
  | 35 => ("HeardNumbersModel", "items", "[J", true)
  | _ => ("HeardNumbersModel", "moved", "[J", true)
def tyX9 : Nat → FieldType := fun k => match k with
  | 0 => .array .int
  | 1 => .array .int
  | 2 => .array .int
  | 3 => .int
  | 4 => .int
  | 5 => .array .int
  | 6 => .int
  | 7 => .int
  | 8 => .int
  | 9 => .int
  | 10 => .int
  | 11 => .int
  | 12 => .array .int
  | 13 => .int
  | 14 => .int
  | 15 => .int
  | 16 => .array .int
  | 17 => .array .int
  | 18 => .array .long
  | 19 => .array .int
  | 20 => .array .int
  | 21 => .int
  | 22 => .array .int
  | 23 => .int
  | 24 => .int
  | 25 => .array .int
  | 26 => .array .int
  | 27 => .int
  | 28 => .array .int
  | 29 => .int
  | 30 => .array .int
  | 31 => .array .int
  | 32 => .int
  | 33 => .array .int
  | 34 => .array .int
  | 35 => .array .long
  | _ => .array .long
abbrev wsX90 : List Cond := u_ws RX9 TX9 37
theorem nmX9 : ∀ a, a < 37 → ∀ b, b < 37 → a ≠ b → (TX9 a).2.1 ≠ (TX9 b).2.1 := by decide +kernel
theorem tyX9_ok : ∀ k, k < 37 → parseFieldDescriptor (TX9 k).2.2.1 = some (tyX9 k) := by decide +kernel
abbrev cX9_in : ByteArray := prog_11_method_2_code
def yX9_in : MethodName := ⟨RX9, "in", "(JJJ)Z"⟩
abbrev cX9_init : ByteArray := prog_11_method_3_code
def yX9_init : MethodName := ⟨RX9, "<init>", "()V"⟩
abbrev cX9_isSlot : ByteArray := prog_11_method_4_code
def yX9_isSlot : MethodName := ⟨RX9, "isSlot", "(I)Z"⟩
abbrev cX9_at : ByteArray := prog_11_method_5_code
def yX9_at : MethodName := ⟨RX9, "at", "(I)I"⟩
abbrev cX9_placeOf : ByteArray := prog_11_method_6_code
def yX9_placeOf : MethodName := ⟨RX9, "placeOf", "(II)I"⟩
abbrev cX9_wordHere : ByteArray := prog_11_method_7_code
def yX9_wordHere : MethodName := ⟨RX9, "wordHere", "()I"⟩
abbrev cX9_worth : ByteArray := prog_11_method_8_code
def yX9_worth : MethodName := ⟨RX9, "worth", "(I)I"⟩
abbrev cX9_low : ByteArray := prog_11_method_9_code
def yX9_low : MethodName := ⟨RX9, "low", "()I"⟩
abbrev cX9_more : ByteArray := prog_11_method_10_code
def yX9_more : MethodName := ⟨RX9, "more", "()I"⟩
abbrev cX9_small : ByteArray := prog_11_method_11_code
def yX9_small : MethodName := ⟨RX9, "small", "()I"⟩
abbrev cX9_number : ByteArray := prog_11_method_12_code
def yX9_number : MethodName := ⟨RX9, "number", "()I"⟩
abbrev cX9_isSaid : ByteArray := prog_11_method_13_code
def yX9_isSaid : MethodName := ⟨RX9, "isSaid", "()Z"⟩
abbrev cX9_holds : ByteArray := prog_11_method_14_code
def yX9_holds : MethodName := ⟨RX9, "holds", "()Z"⟩
abbrev cX9_readings : ByteArray := prog_11_method_15_code
def yX9_readings : MethodName := ⟨RX9, "readings", "()I"⟩
abbrev cX9_takes : ByteArray := prog_11_method_16_code
def yX9_takes : MethodName := ⟨RX9, "takes", "(I)Z"⟩
abbrev cX9_takesPicked : ByteArray := prog_11_method_17_code
def yX9_takesPicked : MethodName := ⟨RX9, "takesPicked", "()Z"⟩
abbrev cX9_finds : ByteArray := prog_11_method_18_code
def yX9_finds : MethodName := ⟨RX9, "finds", "()V"⟩
abbrev cX9_isAsBest : ByteArray := prog_11_method_19_code
def yX9_isAsBest : MethodName := ⟨RX9, "isAsBest", "()Z"⟩
abbrev cX9_isCounted : ByteArray := prog_11_method_20_code
def yX9_isCounted : MethodName := ⟨RX9, "isCounted", "(I)Z"⟩
abbrev cX9_counts : ByteArray := prog_11_method_21_code
def yX9_counts : MethodName := ⟨RX9, "counts", "()V"⟩
abbrev cX9_look : ByteArray := prog_11_method_22_code
def yX9_look : MethodName := ⟨RX9, "look", "(I)I"⟩
abbrev cX9_tellsSame : ByteArray := prog_11_method_23_code
def yX9_tellsSame : MethodName := ⟨RX9, "tellsSame", "(J)Z"⟩
abbrev cX9_partOf : ByteArray := prog_11_method_24_code
def yX9_partOf : MethodName := ⟨RX9, "partOf", "(JII)J"⟩
abbrev cX9_questions : ByteArray := prog_11_method_25_code
def yX9_questions : MethodName := ⟨RX9, "questions", "()I"⟩
abbrev cX9_spoilt : ByteArray := prog_11_method_26_code
def yX9_spoilt : MethodName := ⟨RX9, "spoilt", "()I"⟩
abbrev cX9_slot : ByteArray := prog_11_method_27_code
def yX9_slot : MethodName := ⟨RX9, "slot", "(III)I"⟩
abbrev cX9_count : ByteArray := prog_11_method_28_code
def yX9_count : MethodName := ⟨RX9, "count", "(I)I"⟩
abbrev cX9_type : ByteArray := prog_11_method_29_code
def yX9_type : MethodName := ⟨RX9, "type", "(I)I"⟩
abbrev cX9_here : ByteArray := prog_11_method_30_code
def yX9_here : MethodName := ⟨RX9, "here", "()I"⟩
abbrev cX9_has : ByteArray := prog_11_method_31_code
def yX9_has : MethodName := ⟨RX9, "has", "(I)Z"⟩
abbrev cX9_letterWord : ByteArray := prog_11_method_32_code
def yX9_letterWord : MethodName := ⟨RX9, "letterWord", "(I)I"⟩
abbrev cX9_wordRead : ByteArray := prog_11_method_33_code
def yX9_wordRead : MethodName := ⟨RX9, "wordRead", "()I"⟩
abbrev cX9_reads : ByteArray := prog_11_method_34_code
def yX9_reads : MethodName := ⟨RX9, "reads", "(I)Z"⟩
abbrev cX9_fault : ByteArray := prog_11_method_35_code
def yX9_fault : MethodName := ⟨RX9, "fault", "()I"⟩
abbrev cX9_words : ByteArray := prog_11_method_36_code
def yX9_words : MethodName := ⟨RX9, "words", "()I"⟩
abbrev cX9_clears : ByteArray := prog_11_method_37_code
def yX9_clears : MethodName := ⟨RX9, "clears", "()V"⟩
abbrev cX9_hears : ByteArray := prog_11_method_38_code
def yX9_hears : MethodName := ⟨RX9, "hears", "(II)V"⟩
abbrev cX9_says : ByteArray := prog_11_method_39_code
def yX9_says : MethodName := ⟨RX9, "says", "(I)V"⟩
abbrev cX9_saysSmall : ByteArray := prog_11_method_40_code
def yX9_saysSmall : MethodName := ⟨RX9, "saysSmall", "(I)V"⟩
abbrev cX9_say : ByteArray := prog_11_method_41_code
def yX9_say : MethodName := ⟨RX9, "say", "(I)I"⟩
abbrev cX9_notes : ByteArray := prog_11_method_42_code
def yX9_notes : MethodName := ⟨RX9, "notes", "()V"⟩
abbrev cX9_isWord : ByteArray := prog_11_method_43_code
def yX9_isWord : MethodName := ⟨RX9, "isWord", "(I)Z"⟩
abbrev cX9_hear : ByteArray := prog_11_method_44_code
def yX9_hear : MethodName := ⟨RX9, "hear", "(II)I"⟩
abbrev cX9_comes : ByteArray := prog_11_method_45_code
def yX9_comes : MethodName := ⟨RX9, "comes", "(III)V"⟩
abbrev cX9_also : ByteArray := prog_11_method_46_code
def yX9_also : MethodName := ⟨RX9, "also", "(III)I"⟩
abbrev cX9_lose : ByteArray := prog_11_method_47_code
def yX9_lose : MethodName := ⟨RX9, "lose", "(I)I"⟩
abbrev cX9_settle : ByteArray := prog_11_method_48_code
def yX9_settle : MethodName := ⟨RX9, "settle", "(II)I"⟩
abbrev cX9_check : ByteArray := prog_11_method_49_code
def yX9_check : MethodName := ⟨RX9, "check", "(I)I"⟩
abbrev cX9_slack : ByteArray := prog_11_method_50_code
def yX9_slack : MethodName := ⟨RX9, "slack", "(I)I"⟩
abbrev cX9_storm : ByteArray := prog_11_method_51_code
def yX9_storm : MethodName := ⟨RX9, "storm", "(I)I"⟩
abbrev cX9_undo : ByteArray := prog_11_method_52_code
def yX9_undo : MethodName := ⟨RX9, "undo", "()I"⟩
abbrev cX9_seed : ByteArray := prog_11_method_53_code
def yX9_seed : MethodName := ⟨RX9, "seed", "(I)I"⟩
abbrev cX9_best : ByteArray := prog_11_method_54_code
def yX9_best : MethodName := ⟨RX9, "best", "(I)I"⟩
abbrev cX9_taken : ByteArray := prog_11_method_55_code
def yX9_taken : MethodName := ⟨RX9, "taken", "(I)I"⟩
abbrev cX9_open : ByteArray := prog_11_method_56_code
def yX9_open : MethodName := ⟨RX9, "open", "(I)J"⟩
abbrev cX9_counted : ByteArray := prog_11_method_57_code
def yX9_counted : MethodName := ⟨RX9, "counted", "(II)I"⟩
abbrev cX9_likely : ByteArray := prog_11_method_58_code
def yX9_likely : MethodName := ⟨RX9, "likely", "(II)J"⟩
abbrev cX9_image : ByteArray := prog_11_method_59_code
def yX9_image : MethodName := ⟨RX9, "image", "()I"⟩
abbrev cX9_restore : ByteArray := prog_11_method_60_code
def yX9_restore : MethodName := ⟨RX9, "restore", "()I"⟩
abbrev cX9_isSheet : ByteArray := prog_11_method_61_code
def yX9_isSheet : MethodName := ⟨RX9, "isSheet", "(I)Z"⟩
abbrev cX9_cut : ByteArray := prog_11_method_62_code
def yX9_cut : MethodName := ⟨RX9, "cut", "(JI)J"⟩
abbrev cX9_sheet : ByteArray := prog_11_method_63_code
def yX9_sheet : MethodName := ⟨RX9, "sheet", "(III)I"⟩
abbrev cX9_drop : ByteArray := prog_11_method_64_code
def yX9_drop : MethodName := ⟨RX9, "drop", "(I)I"⟩
abbrev cX9_why : ByteArray := prog_11_method_65_code
def yX9_why : MethodName := ⟨RX9, "why", "(IIII)I"⟩
abbrev cX9_item : ByteArray := prog_11_method_66_code
def yX9_item : MethodName := ⟨RX9, "item", "(IIIJ)I"⟩
abbrev cX9_copy : ByteArray := prog_11_method_67_code
def yX9_copy : MethodName := ⟨RX9, "copy", "(IIIII)I"⟩
abbrev cX9_meant : ByteArray := prog_11_method_68_code
def yX9_meant : MethodName := ⟨RX9, "meant", "(IIII)I"⟩
abbrev cX9_film : ByteArray := prog_11_method_69_code
def yX9_film : MethodName := ⟨RX9, "film", "(III)I"⟩
def RJ13 : String := "java/lang/Long"
def TJ13 : u_T := fun k => match k with
  | _ => ("", "", "", false)
def tyJ13 : Nat → FieldType := fun k => match k with
  | _ => .int
abbrev wsJ130 : List Cond := u_ws RJ13 TJ13 0
theorem nmJ13 : ∀ a, a < 0 → ∀ b, b < 0 → a ≠ b → (TJ13 a).2.1 ≠ (TJ13 b).2.1 := by decide +kernel
theorem tyJ13_ok : ∀ k, k < 0 → parseFieldDescriptor (TJ13 k).2.2.1 = some (tyJ13 k) := by decide +kernel
abbrev cJ13_bitCount_95d88 : ByteArray := prog_12_method_50_code
def yJ13_bitCount_95d88 : MethodName := ⟨RJ13, "bitCount", "(J)I"⟩
def RJ9 : String := "java/lang/Math"
def TJ9 : u_T := fun k => match k with
  | _ => ("", "", "", false)
def tyJ9 : Nat → FieldType := fun k => match k with
  | _ => .int
abbrev wsJ90 : List Cond := u_ws RJ9 TJ9 0
theorem nmJ9 : ∀ a, a < 0 → ∀ b, b < 0 → a ≠ b → (TJ9 a).2.1 ≠ (TJ9 b).2.1 := by decide +kernel
theorem tyJ9_ok : ∀ k, k < 0 → parseFieldDescriptor (TJ9 k).2.2.1 = some (tyJ9 k) := by decide +kernel
abbrev cJ9_max_7cf53 : ByteArray := prog_13_method_65_code
def yJ9_max_7cf53 : MethodName := ⟨RJ9, "max", "(II)I"⟩
def RJ10 : String := "java/lang/System"
def TJ10 : u_T := fun k => match k with
  | _ => ("", "", "", false)
def tyJ10 : Nat → FieldType := fun k => match k with
  | _ => .int
abbrev wsJ100 : List Cond := u_ws RJ10 TJ10 0
theorem nmJ10 : ∀ a, a < 0 → ∀ b, b < 0 → a ≠ b → (TJ10 a).2.1 ≠ (TJ10 b).2.1 := by decide +kernel
theorem tyJ10_ok : ∀ k, k < 0 → parseFieldDescriptor (TJ10 k).2.2.1 = some (tyJ10 k) := by decide +kernel
def RL : String := "HeardNumbersLaw"
abbrev cL_law : ByteArray := code
def yL_law : MethodName := ⟨RL, "law", "([I)Z"⟩
abbrev vwCl : List vw_C := [(RX1, TX1, 8), (RX2, TX2, 7), (RX3, TX3, 3), (RX4, TX4, 3), (RX5, TX5, 3), (RX6, TX6, 17), (RX7, TX7, 13), (RX8, TX8, 9), (RX9, TX9, 37)]
abbrev MI : Type := MethodName × ByteArray × Nat × Option FieldType × Nat
def mX0_isKept : MI := (yX0_isKept, cX0_isKept, 3, (some .boolean), 2)
def mX0_others : MI := (yX0_others, cX0_others, 4, (some .int), 1)
def mX0_rises : MI := (yX0_rises, cX0_rises, 3, (some .boolean), 1)
def mX0_isSteady : MI := (yX0_isSteady, cX0_isSteady, 3, (some .boolean), 1)
def mX1_init : MI := (yX1_init, cX1_init, 1, none, 1)
def mX1_clear : MI := (yX1_clear, cX1_clear, 2, none, 1)
def mX1_add : MI := (yX1_add, cX1_add, 7, none, 2)
def mX1_lastNumber : MI := (yX1_lastNumber, cX1_lastNumber, 2, (some .int), 1)
def mX1_partedBest : MI := (yX1_partedBest, cX1_partedBest, 8, (some .int), 2)
def mX1_questions : MI := (yX1_questions, cX1_questions, 3, (some .int), 4)
def mX1_questionsIfTrue : MI := (yX1_questionsIfTrue, cX1_questionsIfTrue, 8, (some .int), 3)
def mX1_takingLike : MI := (yX1_takingLike, cX1_takingLike, 6, (some .long), 1)
def mX1_alikeTo : MI := (yX1_alikeTo, cX1_alikeTo, 5, (some .long), 2)
def mX1_isAlike : MI := (yX1_isAlike, cX1_isAlike, 4, (some .boolean), 1)
def mX2_init : MI := (yX2_init, cX2_init, 1, none, 1)
def mX2_take : MI := (yX2_take, cX2_take, 2, none, 2)
def mX2_takeSlots : MI := (yX2_takeSlots, cX2_takeSlots, 2, none, 1)
def mX2_isSlot : MI := (yX2_isSlot, cX2_isSlot, 2, (some .boolean), 1)
def mX2_find : MI := (yX2_find, cX2_find, 4, (some .int), 2)
def mX2_candidates : MI := (yX2_candidates, cX2_candidates, 3, (some .int), 1)
def mX2_isLastFull : MI := (yX2_isLastFull, cX2_isLastFull, 1, (some .boolean), 1)
def mX2_grow : MI := (yX2_grow, cX2_grow, 3, (some .boolean), 3)
def mX2_widen : MI := (yX2_widen, cX2_widen, 5, (some .boolean), 2)
def mX2_cut : MI := (yX2_cut, cX2_cut, 4, none, 2)
def mX2_narrowTo : MI := (yX2_narrowTo, cX2_narrowTo, 4, none, 2)
def mX2_turn : MI := (yX2_turn, cX2_turn, 4, none, 3)
def mX2_spell : MI := (yX2_spell, cX2_spell, 2, (some .boolean), 5)
def mX2_spellSmall : MI := (yX2_spellSmall, cX2_spellSmall, 3, (some .boolean), 4)
def mX3_init : MI := (yX3_init, cX3_init, 2, none, 2)
def mX3_keep : MI := (yX3_keep, cX3_keep, 2, none, 3)
def mX3_giveBack : MI := (yX3_giveBack, cX3_giveBack, 2, none, 3)
def mX3_take : MI := (yX3_take, cX3_take, 3, none, 3)
def mX4_init : MI := (yX4_init, cX4_init, 1, none, 1)
def mX4_write : MI := (yX4_write, cX4_write, 2, (some .boolean), 1)
def mX4_read : MI := (yX4_read, cX4_read, 5, (some .int), 5)
def mX4_readCandidate : MI := (yX4_readCandidate, cX4_readCandidate, 7, (some .int), 4)
def mX4_valueFrom : MI := (yX4_valueFrom, cX4_valueFrom, 3, (some .int), 2)
def mX4_isAtEnd : MI := (yX4_isAtEnd, cX4_isAtEnd, 1, (some .boolean), 1)
def mX4_isDigit : MI := (yX4_isDigit, cX4_isDigit, 1, (some .boolean), 1)
def mX4_wordOfValue : MI := (yX4_wordOfValue, cX4_wordOfValue, 1, (some .int), 2)
def mX4_tensWord : MI := (yX4_tensWord, cX4_tensWord, 1, (some .int), 1)
def mX4_wordOfLetter : MI := (yX4_wordOfLetter, cX4_wordOfLetter, 1, (some .int), 1)
def mX5_init : MI := (yX5_init, cX5_init, 1, none, 1)
def mX5_renew : MI := (yX5_renew, cX5_renew, 4, none, 1)
def mX5_lacks : MI := (yX5_lacks, cX5_lacks, 3, (some .boolean), 1)
def mX5_refusal : MI := (yX5_refusal, cX5_refusal, 4, (some .int), 2)
def mX5_put : MI := (yX5_put, cX5_put, 4, none, 2)
def mX5_tells : MI := (yX5_tells, cX5_tells, 6, (some .boolean), 2)
def mX5_cutToLane : MI := (yX5_cutToLane, cX5_cutToLane, 3, (some .long), 1)
def mX6_init : MI := (yX6_init, cX6_init, 2, none, 2)
def mX6_forget : MI := (yX6_forget, cX6_forget, 1, none, 1)
def mX6_saidOnes : MI := (yX6_saidOnes, cX6_saidOnes, 1, (some .int), 5)
def mX6_soundOnes : MI := (yX6_soundOnes, cX6_soundOnes, 1, (some .int), 5)
def mX6_bestTells : MI := (yX6_bestTells, cX6_bestTells, 2, (some .int), 5)
def mX6_bestWord : MI := (yX6_bestWord, cX6_bestWord, 2, (some .int), 5)
def mX6_countedOnes : MI := (yX6_countedOnes, cX6_countedOnes, 1, (some .int), 6)
def mX6_lookAt : MI := (yX6_lookAt, cX6_lookAt, 1, (some .int), 6)
def mX6_questions : MI := (yX6_questions, cX6_questions, 1, (some .int), 6)
def mX6_nextCost : MI := (yX6_nextCost, cX6_nextCost, 1, (some .int), 6)
def mX6_countedWords : MI := (yX6_countedWords, cX6_countedWords, 6, (some .long), 6)
def mX6_countedTells : MI := (yX6_countedTells, cX6_countedTells, 5, (some .int), 6)
def mX6_spoilt : MI := (yX6_spoilt, cX6_spoilt, 4, (some .int), 5)
def mX6_likelihood : MI := (yX6_likelihood, cX6_likelihood, 5, (some .long), 5)
def mX6_kindsMeant : MI := (yX6_kindsMeant, cX6_kindsMeant, 8, (some .int), 4)
def mX6_isSound : MI := (yX6_isSound, cX6_isSound, 1, (some .boolean), 3)
def mX6_isCounted : MI := (yX6_isCounted, cX6_isCounted, 1, (some .boolean), 4)
def mX6_findBest : MI := (yX6_findBest, cX6_findBest, 2, none, 4)
def mX6_keepBest : MI := (yX6_keepBest, cX6_keepBest, 2, none, 2)
def mX6_findCounted : MI := (yX6_findCounted, cX6_findCounted, 2, none, 5)
def mX6_tellsBest : MI := (yX6_tellsBest, cX6_tellsBest, 2, (some .boolean), 1)
def mX6_weigh : MI := (yX6_weigh, cX6_weigh, 3, none, 4)
def mX6_divisor : MI := (yX6_divisor, cX6_divisor, 7, (some .long), 1)
def mX7_init : MI := (yX7_init, cX7_init, 2, none, 1)
def mX7_begin : MI := (yX7_begin, cX7_begin, 1, none, 1)
def mX7_step : MI := (yX7_step, cX7_step, 3, (some .boolean), 3)
def mX7_pick : MI := (yX7_pick, cX7_pick, 2, (some .int), 1)
def mX7_isSaid : MI := (yX7_isSaid, cX7_isSaid, 3, (some .boolean), 3)
def mX7_finish : MI := (yX7_finish, cX7_finish, 2, (some .boolean), 2)
def mX7_enter : MI := (yX7_enter, cX7_enter, 5, (some .boolean), 2)
def mX7_isWhole : MI := (yX7_isWhole, cX7_isWhole, 2, (some .boolean), 1)
def mX7_passStop : MI := (yX7_passStop, cX7_passStop, 2, (some .boolean), 1)
def mX7_passAnd : MI := (yX7_passAnd, cX7_passAnd, 2, (some .boolean), 1)
def mX7_passHundred : MI := (yX7_passHundred, cX7_passHundred, 2, (some .boolean), 1)
def mX7_passThousand : MI := (yX7_passThousand, cX7_passThousand, 2, (some .boolean), 1)
def mX7_passLow : MI := (yX7_passLow, cX7_passLow, 6, (some .boolean), 1)
def mX8_init : MI := (yX8_init, cX8_init, 2, none, 3)
def mX8_type : MI := (yX8_type, cX8_type, 2, (some .int), 2)
def mX8_words : MI := (yX8_words, cX8_words, 2, (some .int), 6)
def mX8_say : MI := (yX8_say, cX8_say, 2, (some .int), 6)
def mX8_slot : MI := (yX8_slot, cX8_slot, 5, (some .int), 2)
def mX8_count : MI := (yX8_count, cX8_count, 2, (some .int), 7)
def mX8_hear : MI := (yX8_hear, cX8_hear, 3, (some .int), 5)
def mX8_also : MI := (yX8_also, cX8_also, 4, (some .int), 5)
def mX8_lose : MI := (yX8_lose, cX8_lose, 2, (some .int), 5)
def mX8_settle : MI := (yX8_settle, cX8_settle, 5, (some .int), 5)
def mX8_check : MI := (yX8_check, cX8_check, 3, (some .int), 5)
def mX8_slack : MI := (yX8_slack, cX8_slack, 3, (some .int), 5)
def mX8_storm : MI := (yX8_storm, cX8_storm, 3, (some .int), 5)
def mX8_undo : MI := (yX8_undo, cX8_undo, 1, (some .int), 4)
def mX8_seed : MI := (yX8_seed, cX8_seed, 3, (some .int), 1)
def mX8_best : MI := (yX8_best, cX8_best, 2, (some .int), 6)
def mX8_taken : MI := (yX8_taken, cX8_taken, 2, (some .int), 6)
def mX8_open : MI := (yX8_open, cX8_open, 2, (some .long), 7)
def mX8_counted : MI := (yX8_counted, cX8_counted, 3, (some .int), 7)
def mX8_likely : MI := (yX8_likely, cX8_likely, 3, (some .long), 6)
def mX8_image : MI := (yX8_image, cX8_image, 1, (some .int), 4)
def mX8_restore : MI := (yX8_restore, cX8_restore, 1, (some .int), 4)
def mX8_meant : MI := (yX8_meant, cX8_meant, 7, (some .int), 5)
def mX8_film : MI := (yX8_film, cX8_film, 8, (some .int), 6)
def mX8_sheet : MI := (yX8_sheet, cX8_sheet, 4, (some .int), 2)
def mX8_drop : MI := (yX8_drop, cX8_drop, 4, (some .int), 2)
def mX8_item : MI := (yX8_item, cX8_item, 8, (some .int), 3)
def mX8_copy : MI := (yX8_copy, cX8_copy, 8, (some .int), 2)
def mX8_isWord : MI := (yX8_isWord, cX8_isWord, 1, (some .boolean), 1)
def mX8_isCost : MI := (yX8_isCost, cX8_isCost, 1, (some .boolean), 1)
def mX8_isSheet : MI := (yX8_isSheet, cX8_isSheet, 1, (some .boolean), 1)
def mX8_isLane : MI := (yX8_isLane, cX8_isLane, 1, (some .boolean), 1)
def mX8_keepForUndo : MI := (yX8_keepForUndo, cX8_keepForUndo, 1, none, 4)
def mX8_tellAnew : MI := (yX8_tellAnew, cX8_tellAnew, 1, (some .int), 2)
def mX9_in : MI := (yX9_in, cX9_in, 6, (some .boolean), 1)
def mX9_init : MI := (yX9_init, cX9_init, 2, none, 1)
def mX9_isSlot : MI := (yX9_isSlot, cX9_isSlot, 2, (some .boolean), 2)
def mX9_at : MI := (yX9_at, cX9_at, 2, (some .int), 1)
def mX9_placeOf : MI := (yX9_placeOf, cX9_placeOf, 5, (some .int), 2)
def mX9_wordHere : MI := (yX9_wordHere, cX9_wordHere, 1, (some .int), 1)
def mX9_worth : MI := (yX9_worth, cX9_worth, 1, (some .int), 2)
def mX9_low : MI := (yX9_low, cX9_low, 3, (some .int), 3)
def mX9_more : MI := (yX9_more, cX9_more, 3, (some .int), 4)
def mX9_small : MI := (yX9_small, cX9_small, 4, (some .int), 5)
def mX9_number : MI := (yX9_number, cX9_number, 3, (some .int), 6)
def mX9_isSaid : MI := (yX9_isSaid, cX9_isSaid, 4, (some .boolean), 7)
def mX9_holds : MI := (yX9_holds, cX9_holds, 6, (some .boolean), 1)
def mX9_readings : MI := (yX9_readings, cX9_readings, 3, (some .int), 2)
def mX9_takes : MI := (yX9_takes, cX9_takes, 4, (some .boolean), 9)
def mX9_takesPicked : MI := (yX9_takesPicked, cX9_takesPicked, 3, (some .boolean), 8)
def mX9_finds : MI := (yX9_finds, cX9_finds, 3, none, 10)
def mX9_isAsBest : MI := (yX9_isAsBest, cX9_isAsBest, 3, (some .boolean), 1)
def mX9_isCounted : MI := (yX9_isCounted, cX9_isCounted, 2, (some .boolean), 10)
def mX9_counts : MI := (yX9_counts, cX9_counts, 5, none, 11)
def mX9_look : MI := (yX9_look, cX9_look, 7, (some .int), 1)
def mX9_tellsSame : MI := (yX9_tellsSame, cX9_tellsSame, 8, (some .boolean), 10)
def mX9_partOf : MI := (yX9_partOf, cX9_partOf, 9, (some .long), 10)
def mX9_questions : MI := (yX9_questions, cX9_questions, 11, (some .int), 12)
def mX9_spoilt : MI := (yX9_spoilt, cX9_spoilt, 6, (some .int), 11)
def mX9_slot : MI := (yX9_slot, cX9_slot, 4, (some .int), 3)
def mX9_count : MI := (yX9_count, cX9_count, 2, (some .int), 13)
def mX9_type : MI := (yX9_type, cX9_type, 2, (some .int), 2)
def mX9_here : MI := (yX9_here, cX9_here, 1, (some .int), 1)
def mX9_has : MI := (yX9_has, cX9_has, 2, (some .boolean), 2)
def mX9_letterWord : MI := (yX9_letterWord, cX9_letterWord, 1, (some .int), 1)
def mX9_wordRead : MI := (yX9_wordRead, cX9_wordRead, 4, (some .int), 2)
def mX9_reads : MI := (yX9_reads, cX9_reads, 9, (some .boolean), 3)
def mX9_fault : MI := (yX9_fault, cX9_fault, 3, (some .int), 2)
def mX9_words : MI := (yX9_words, cX9_words, 5, (some .int), 4)
def mX9_clears : MI := (yX9_clears, cX9_clears, 2, none, 1)
def mX9_hears : MI := (yX9_hears, cX9_hears, 4, none, 2)
def mX9_says : MI := (yX9_says, cX9_says, 2, none, 1)
def mX9_saysSmall : MI := (yX9_saysSmall, cX9_saysSmall, 4, none, 2)
def mX9_say : MI := (yX9_say, cX9_say, 3, (some .int), 3)
def mX9_notes : MI := (yX9_notes, cX9_notes, 2, none, 1)
def mX9_isWord : MI := (yX9_isWord, cX9_isWord, 1, (some .boolean), 2)
def mX9_hear : MI := (yX9_hear, cX9_hear, 3, (some .int), 3)
def mX9_comes : MI := (yX9_comes, cX9_comes, 5, none, 2)
def mX9_also : MI := (yX9_also, cX9_also, 4, (some .int), 3)
def mX9_lose : MI := (yX9_lose, cX9_lose, 3, (some .int), 3)
def mX9_settle : MI := (yX9_settle, cX9_settle, 7, (some .int), 3)
def mX9_check : MI := (yX9_check, cX9_check, 3, (some .int), 2)
def mX9_slack : MI := (yX9_slack, cX9_slack, 3, (some .int), 2)
def mX9_storm : MI := (yX9_storm, cX9_storm, 7, (some .int), 3)
def mX9_undo : MI := (yX9_undo, cX9_undo, 2, (some .int), 1)
def mX9_seed : MI := (yX9_seed, cX9_seed, 3, (some .int), 1)
def mX9_best : MI := (yX9_best, cX9_best, 2, (some .int), 11)
def mX9_taken : MI := (yX9_taken, cX9_taken, 2, (some .int), 11)
def mX9_open : MI := (yX9_open, cX9_open, 5, (some .long), 12)
def mX9_counted : MI := (yX9_counted, cX9_counted, 6, (some .int), 11)
def mX9_likely : MI := (yX9_likely, cX9_likely, 14, (some .long), 10)
def mX9_image : MI := (yX9_image, cX9_image, 2, (some .int), 1)
def mX9_restore : MI := (yX9_restore, cX9_restore, 2, (some .int), 1)
def mX9_isSheet : MI := (yX9_isSheet, cX9_isSheet, 1, (some .boolean), 2)
def mX9_cut : MI := (yX9_cut, cX9_cut, 3, (some .long), 1)
def mX9_sheet : MI := (yX9_sheet, cX9_sheet, 5, (some .int), 3)
def mX9_drop : MI := (yX9_drop, cX9_drop, 2, (some .int), 3)
def mX9_why : MI := (yX9_why, cX9_why, 5, (some .int), 1)
def mX9_item : MI := (yX9_item, cX9_item, 7, (some .int), 3)
def mX9_copy : MI := (yX9_copy, cX9_copy, 7, (some .int), 3)
def mX9_meant : MI := (yX9_meant, cX9_meant, 11, (some .int), 11)
def mX9_film : MI := (yX9_film, cX9_film, 6, (some .int), 11)
def mJ13_bitCount_95d88 : MI := (yJ13_bitCount_95d88, cJ13_bitCount_95d88, 2, (some .int), 1)
def mJ9_max_7cf53 : MI := (yJ9_max_7cf53, cJ9_max_7cf53, 2, (some .int), 1)
end
section
theorem dX0_isKept_0 : decode cX0_isKept 0 = .ok (.iload_n 2, 1) := by decide +kernel
theorem dX0_isKept_1 : decode cX0_isKept 1 = .ok (.iconst 1, 1) := by decide +kernel
theorem dX0_isKept_2 : decode cX0_isKept 2 = .ok (.if_icmp .lt 9, 3) := by decide +kernel
theorem dX0_isKept_5 : decode cX0_isKept 5 = .ok (.iload_n 2, 1) := by decide +kernel
theorem dX0_isKept_6 : decode cX0_isKept 6 = .ok (.aload_n 1, 1) := by decide +kernel
theorem dX0_isKept_7 : decode cX0_isKept 7 = .ok (.arraylength, 1) := by decide +kernel
theorem dX0_isKept_8 : decode cX0_isKept 8 = .ok (.if_icmp .le 5, 3) := by decide +kernel
theorem dX0_isKept_11 : decode cX0_isKept 11 = .ok (.iconst 0, 1) := by decide +kernel
theorem dX0_isKept_12 : decode cX0_isKept 12 = .ok (.ireturn, 1) := by decide +kernel
theorem dX0_isKept_13 : decode cX0_isKept 13 = .ok (.iload_n 0, 1) := by decide +kernel
theorem dX0_isKept_14 : decode cX0_isKept 14 = .ok (.tableswitch 112 1 4 #[30, 54, 60, 90], 30) := by decide +kernel
theorem dX0_isKept_44 : decode cX0_isKept 44 = .ok (.iload_n 2, 1) := by decide +kernel
theorem dX0_isKept_45 : decode cX0_isKept 45 = .ok (.iconst 2, 1) := by decide +kernel
theorem dX0_isKept_46 : decode cX0_isKept 46 = .ok (.if_icmp .lt 20, 3) := by decide +kernel
theorem dX0_isKept_49 : decode cX0_isKept 49 = .ok (.aload_n 1, 1) := by decide +kernel
theorem dX0_isKept_50 : decode cX0_isKept 50 = .ok (.iload_n 2, 1) := by decide +kernel
theorem dX0_isKept_51 : decode cX0_isKept 51 = .ok (.iconst 1, 1) := by decide +kernel
theorem dX0_isKept_52 : decode cX0_isKept 52 = .ok (.isub, 1) := by decide +kernel
theorem dX0_isKept_53 : decode cX0_isKept 53 = .ok (.iaload, 1) := by decide +kernel
theorem dX0_isKept_54 : decode cX0_isKept 54 = .ok (.aload_n 1, 1) := by decide +kernel
theorem dX0_isKept_55 : decode cX0_isKept 55 = .ok (.iload_n 2, 1) := by decide +kernel
theorem dX0_isKept_56 : decode cX0_isKept 56 = .ok (.invokestatic 7, 3) := by decide +kernel
theorem dX0_isKept_59 : decode cX0_isKept 59 = .ok (.if_icmp .ne 7, 3) := by decide +kernel
theorem dX0_isKept_62 : decode cX0_isKept 62 = .ok (.iconst 1, 1) := by decide +kernel
theorem dX0_isKept_63 : decode cX0_isKept 63 = .ok (.goto 4, 3) := by decide +kernel
theorem dX0_isKept_66 : decode cX0_isKept 66 = .ok (.iconst 0, 1) := by decide +kernel
theorem dX0_isKept_67 : decode cX0_isKept 67 = .ok (.ireturn, 1) := by decide +kernel
theorem dX0_isKept_68 : decode cX0_isKept 68 = .ok (.aload_n 1, 1) := by decide +kernel
theorem dX0_isKept_69 : decode cX0_isKept 69 = .ok (.iload_n 2, 1) := by decide +kernel
theorem dX0_isKept_70 : decode cX0_isKept 70 = .ok (.invokestatic 13, 3) := by decide +kernel
theorem dX0_isKept_73 : decode cX0_isKept 73 = .ok (.ireturn, 1) := by decide +kernel
theorem dX0_isKept_74 : decode cX0_isKept 74 = .ok (.iload_n 2, 1) := by decide +kernel
theorem dX0_isKept_75 : decode cX0_isKept 75 = .ok (.iconst 2, 1) := by decide +kernel
theorem dX0_isKept_76 : decode cX0_isKept 76 = .ok (.if_icmp .lt 26, 3) := by decide +kernel
theorem dX0_isKept_79 : decode cX0_isKept 79 = .ok (.aload_n 1, 1) := by decide +kernel
theorem dX0_isKept_80 : decode cX0_isKept 80 = .ok (.iload_n 2, 1) := by decide +kernel
theorem dX0_isKept_81 : decode cX0_isKept 81 = .ok (.iconst 1, 1) := by decide +kernel
theorem dX0_isKept_82 : decode cX0_isKept 82 = .ok (.isub, 1) := by decide +kernel
theorem dX0_isKept_83 : decode cX0_isKept 83 = .ok (.iaload, 1) := by decide +kernel
theorem dX0_isKept_84 : decode cX0_isKept 84 = .ok (.bipush 100, 2) := by decide +kernel
theorem dX0_isKept_86 : decode cX0_isKept 86 = .ok (.irem, 1) := by decide +kernel
theorem dX0_isKept_87 : decode cX0_isKept 87 = .ok (.aload_n 1, 1) := by decide +kernel
theorem dX0_isKept_88 : decode cX0_isKept 88 = .ok (.iload_n 2, 1) := by decide +kernel
theorem dX0_isKept_89 : decode cX0_isKept 89 = .ok (.invokestatic 7, 3) := by decide +kernel
theorem dX0_isKept_92 : decode cX0_isKept 92 = .ok (.bipush 100, 2) := by decide +kernel
theorem dX0_isKept_94 : decode cX0_isKept 94 = .ok (.irem, 1) := by decide +kernel
theorem dX0_isKept_95 : decode cX0_isKept 95 = .ok (.if_icmp .ne 7, 3) := by decide +kernel
theorem dX0_isKept_98 : decode cX0_isKept 98 = .ok (.iconst 1, 1) := by decide +kernel
theorem dX0_isKept_99 : decode cX0_isKept 99 = .ok (.goto 4, 3) := by decide +kernel
theorem dX0_isKept_102 : decode cX0_isKept 102 = .ok (.iconst 0, 1) := by decide +kernel
theorem dX0_isKept_103 : decode cX0_isKept 103 = .ok (.ireturn, 1) := by decide +kernel
theorem dX0_isKept_104 : decode cX0_isKept 104 = .ok (.aload_n 1, 1) := by decide +kernel
theorem dX0_isKept_105 : decode cX0_isKept 105 = .ok (.iload_n 2, 1) := by decide +kernel
theorem dX0_isKept_106 : decode cX0_isKept 106 = .ok (.invokestatic 13, 3) := by decide +kernel
theorem dX0_isKept_109 : decode cX0_isKept 109 = .ok (.ifCond .eq 15, 3) := by decide +kernel
theorem dX0_isKept_112 : decode cX0_isKept 112 = .ok (.aload_n 1, 1) := by decide +kernel
theorem dX0_isKept_113 : decode cX0_isKept 113 = .ok (.iload_n 2, 1) := by decide +kernel
theorem dX0_isKept_114 : decode cX0_isKept 114 = .ok (.invokestatic 17, 3) := by decide +kernel
theorem dX0_isKept_117 : decode cX0_isKept 117 = .ok (.ifCond .eq 7, 3) := by decide +kernel
theorem dX0_isKept_120 : decode cX0_isKept 120 = .ok (.iconst 1, 1) := by decide +kernel
theorem dX0_isKept_121 : decode cX0_isKept 121 = .ok (.goto 4, 3) := by decide +kernel
theorem dX0_isKept_124 : decode cX0_isKept 124 = .ok (.iconst 0, 1) := by decide +kernel
theorem dX0_isKept_125 : decode cX0_isKept 125 = .ok (.ireturn, 1) := by decide +kernel
theorem dX0_isKept_126 : decode cX0_isKept 126 = .ok (.iconst 1, 1) := by decide +kernel
theorem dX0_isKept_127 : decode cX0_isKept 127 = .ok (.ireturn, 1) := by decide +kernel
theorem dX0_others_0 : decode cX0_others 0 = .ok (.iconst 0, 1) := by decide +kernel
theorem dX0_others_1 : decode cX0_others 1 = .ok (.istore_n 2, 1) := by decide +kernel
theorem dX0_others_2 : decode cX0_others 2 = .ok (.iconst 0, 1) := by decide +kernel
theorem dX0_others_3 : decode cX0_others 3 = .ok (.istore_n 3, 1) := by decide +kernel
theorem dX0_others_4 : decode cX0_others 4 = .ok (.iload_n 3, 1) := by decide +kernel
theorem dX0_others_5 : decode cX0_others 5 = .ok (.iload_n 1, 1) := by decide +kernel
theorem dX0_others_6 : decode cX0_others 6 = .ok (.iconst 1, 1) := by decide +kernel
theorem dX0_others_7 : decode cX0_others 7 = .ok (.isub, 1) := by decide +kernel
theorem dX0_others_8 : decode cX0_others 8 = .ok (.if_icmp .ge 15, 3) := by decide +kernel
theorem dX0_others_11 : decode cX0_others 11 = .ok (.iload_n 2, 1) := by decide +kernel
theorem dX0_others_12 : decode cX0_others 12 = .ok (.aload_n 0, 1) := by decide +kernel
theorem dX0_others_13 : decode cX0_others 13 = .ok (.iload_n 3, 1) := by decide +kernel
theorem dX0_others_14 : decode cX0_others 14 = .ok (.iaload, 1) := by decide +kernel
theorem dX0_others_15 : decode cX0_others 15 = .ok (.iadd, 1) := by decide +kernel
theorem dX0_others_16 : decode cX0_others 16 = .ok (.istore_n 2, 1) := by decide +kernel
theorem dX0_others_17 : decode cX0_others 17 = .ok (.iinc 3 1, 3) := by decide +kernel
theorem dX0_others_20 : decode cX0_others 20 = .ok (.goto (-16), 3) := by decide +kernel
theorem dX0_others_23 : decode cX0_others 23 = .ok (.iload_n 2, 1) := by decide +kernel
theorem dX0_others_24 : decode cX0_others 24 = .ok (.ireturn, 1) := by decide +kernel
theorem dX0_rises_0 : decode cX0_rises 0 = .ok (.iconst 1, 1) := by decide +kernel
theorem dX0_rises_1 : decode cX0_rises 1 = .ok (.istore_n 2, 1) := by decide +kernel
theorem dX0_rises_2 : decode cX0_rises 2 = .ok (.iload_n 2, 1) := by decide +kernel
theorem dX0_rises_3 : decode cX0_rises 3 = .ok (.iload_n 1, 1) := by decide +kernel
theorem dX0_rises_4 : decode cX0_rises 4 = .ok (.if_icmp .ge 22, 3) := by decide +kernel
theorem dX0_rises_7 : decode cX0_rises 7 = .ok (.aload_n 0, 1) := by decide +kernel
theorem dX0_rises_8 : decode cX0_rises 8 = .ok (.iload_n 2, 1) := by decide +kernel
theorem dX0_rises_9 : decode cX0_rises 9 = .ok (.iaload, 1) := by decide +kernel
theorem dX0_rises_10 : decode cX0_rises 10 = .ok (.aload_n 0, 1) := by decide +kernel
theorem dX0_rises_11 : decode cX0_rises 11 = .ok (.iload_n 2, 1) := by decide +kernel
theorem dX0_rises_12 : decode cX0_rises 12 = .ok (.iconst 1, 1) := by decide +kernel
theorem dX0_rises_13 : decode cX0_rises 13 = .ok (.isub, 1) := by decide +kernel
theorem dX0_rises_14 : decode cX0_rises 14 = .ok (.iaload, 1) := by decide +kernel
theorem dX0_rises_15 : decode cX0_rises 15 = .ok (.if_icmp .gt 5, 3) := by decide +kernel
theorem dX0_rises_18 : decode cX0_rises 18 = .ok (.iconst 0, 1) := by decide +kernel
theorem dX0_rises_19 : decode cX0_rises 19 = .ok (.ireturn, 1) := by decide +kernel
theorem dX0_rises_20 : decode cX0_rises 20 = .ok (.iinc 2 1, 3) := by decide +kernel
theorem dX0_rises_23 : decode cX0_rises 23 = .ok (.goto (-21), 3) := by decide +kernel
theorem dX0_rises_26 : decode cX0_rises 26 = .ok (.iconst 1, 1) := by decide +kernel
theorem dX0_rises_27 : decode cX0_rises 27 = .ok (.ireturn, 1) := by decide +kernel
theorem dX0_isSteady_0 : decode cX0_isSteady 0 = .ok (.iconst 2, 1) := by decide +kernel
theorem dX0_isSteady_1 : decode cX0_isSteady 1 = .ok (.istore_n 2, 1) := by decide +kernel
theorem dX0_isSteady_2 : decode cX0_isSteady 2 = .ok (.iload_n 2, 1) := by decide +kernel
theorem dX0_isSteady_3 : decode cX0_isSteady 3 = .ok (.iload_n 1, 1) := by decide +kernel
theorem dX0_isSteady_4 : decode cX0_isSteady 4 = .ok (.if_icmp .ge 30, 3) := by decide +kernel
theorem dX0_isSteady_7 : decode cX0_isSteady 7 = .ok (.aload_n 0, 1) := by decide +kernel
theorem dX0_isSteady_8 : decode cX0_isSteady 8 = .ok (.iload_n 2, 1) := by decide +kernel
theorem dX0_isSteady_9 : decode cX0_isSteady 9 = .ok (.iaload, 1) := by decide +kernel
theorem dX0_isSteady_10 : decode cX0_isSteady 10 = .ok (.aload_n 0, 1) := by decide +kernel
theorem dX0_isSteady_11 : decode cX0_isSteady 11 = .ok (.iload_n 2, 1) := by decide +kernel
theorem dX0_isSteady_12 : decode cX0_isSteady 12 = .ok (.iconst 1, 1) := by decide +kernel
theorem dX0_isSteady_13 : decode cX0_isSteady 13 = .ok (.isub, 1) := by decide +kernel
theorem dX0_isSteady_14 : decode cX0_isSteady 14 = .ok (.iaload, 1) := by decide +kernel
theorem dX0_isSteady_15 : decode cX0_isSteady 15 = .ok (.isub, 1) := by decide +kernel
theorem dX0_isSteady_16 : decode cX0_isSteady 16 = .ok (.aload_n 0, 1) := by decide +kernel
theorem dX0_isSteady_17 : decode cX0_isSteady 17 = .ok (.iconst 1, 1) := by decide +kernel
theorem dX0_isSteady_18 : decode cX0_isSteady 18 = .ok (.iaload, 1) := by decide +kernel
theorem dX0_isSteady_19 : decode cX0_isSteady 19 = .ok (.aload_n 0, 1) := by decide +kernel
theorem dX0_isSteady_20 : decode cX0_isSteady 20 = .ok (.iconst 0, 1) := by decide +kernel
theorem dX0_isSteady_21 : decode cX0_isSteady 21 = .ok (.iaload, 1) := by decide +kernel
theorem dX0_isSteady_22 : decode cX0_isSteady 22 = .ok (.isub, 1) := by decide +kernel
theorem dX0_isSteady_23 : decode cX0_isSteady 23 = .ok (.if_icmp .eq 5, 3) := by decide +kernel
theorem dX0_isSteady_26 : decode cX0_isSteady 26 = .ok (.iconst 0, 1) := by decide +kernel
theorem dX0_isSteady_27 : decode cX0_isSteady 27 = .ok (.ireturn, 1) := by decide +kernel
theorem dX0_isSteady_28 : decode cX0_isSteady 28 = .ok (.iinc 2 1, 3) := by decide +kernel
theorem dX0_isSteady_31 : decode cX0_isSteady 31 = .ok (.goto (-29), 3) := by decide +kernel
theorem dX0_isSteady_34 : decode cX0_isSteady 34 = .ok (.iconst 1, 1) := by decide +kernel
theorem dX0_isSteady_35 : decode cX0_isSteady 35 = .ok (.ireturn, 1) := by decide +kernel
theorem dX1_init_0 : decode cX1_init 0 = .ok (.aload_n 0, 1) := by decide +kernel
theorem dX1_init_1 : decode cX1_init 1 = .ok (.invokespecial 3, 3) := by decide +kernel
theorem dX1_init_4 : decode cX1_init 4 = .ok (.aload_n 0, 1) := by decide +kernel
theorem dX1_init_5 : decode cX1_init 5 = .ok (.bipush 32, 2) := by decide +kernel
theorem dX1_init_7 : decode cX1_init 7 = .ok (.newarray .int, 2) := by decide +kernel
theorem dX1_init_9 : decode cX1_init 9 = .ok (.putfield 9, 3) := by decide +kernel
theorem dX1_init_12 : decode cX1_init 12 = .ok (.aload_n 0, 1) := by decide +kernel
theorem dX1_init_13 : decode cX1_init 13 = .ok (.bipush 60, 2) := by decide +kernel
theorem dX1_init_15 : decode cX1_init 15 = .ok (.newarray .int, 2) := by decide +kernel
theorem dX1_init_17 : decode cX1_init 17 = .ok (.putfield 15, 3) := by decide +kernel
theorem dX1_init_20 : decode cX1_init 20 = .ok (.aload_n 0, 1) := by decide +kernel
theorem dX1_init_21 : decode cX1_init 21 = .ok (.bipush 60, 2) := by decide +kernel
theorem dX1_init_23 : decode cX1_init 23 = .ok (.newarray .int, 2) := by decide +kernel
theorem dX1_init_25 : decode cX1_init 25 = .ok (.putfield 18, 3) := by decide +kernel
theorem dX1_init_28 : decode cX1_init 28 = .ok (.aload_n 0, 1) := by decide +kernel
theorem dX1_init_29 : decode cX1_init 29 = .ok (.sipush 240, 3) := by decide +kernel
theorem dX1_init_32 : decode cX1_init 32 = .ok (.newarray .int, 2) := by decide +kernel
theorem dX1_init_34 : decode cX1_init 34 = .ok (.putfield 21, 3) := by decide +kernel
theorem dX1_init_37 : decode cX1_init 37 = .ok (.aload_n 0, 1) := by decide +kernel
theorem dX1_init_38 : decode cX1_init 38 = .ok (.bipush 32, 2) := by decide +kernel
theorem dX1_init_40 : decode cX1_init 40 = .ok (.newarray .long, 2) := by decide +kernel
theorem dX1_init_42 : decode cX1_init 42 = .ok (.putfield 24, 3) := by decide +kernel
theorem dX1_init_45 : decode cX1_init 45 = .ok (.aload_n 0, 1) := by decide +kernel
theorem dX1_init_46 : decode cX1_init 46 = .ok (.bipush 32, 2) := by decide +kernel
theorem dX1_init_48 : decode cX1_init 48 = .ok (.newarray .int, 2) := by decide +kernel
theorem dX1_init_50 : decode cX1_init 50 = .ok (.putfield 28, 3) := by decide +kernel
theorem dX1_init_53 : decode cX1_init 53 = .ok (.return_, 1) := by decide +kernel
theorem dX1_clear_0 : decode cX1_clear 0 = .ok (.aload_n 0, 1) := by decide +kernel
theorem dX1_clear_1 : decode cX1_clear 1 = .ok (.iconst 1, 1) := by decide +kernel
theorem dX1_clear_2 : decode cX1_clear 2 = .ok (.putfield 31, 3) := by decide +kernel
theorem dX1_clear_5 : decode cX1_clear 5 = .ok (.aload_n 0, 1) := by decide +kernel
theorem dX1_clear_6 : decode cX1_clear 6 = .ok (.iconst 0, 1) := by decide +kernel
theorem dX1_clear_7 : decode cX1_clear 7 = .ok (.putfield 35, 3) := by decide +kernel
theorem dX1_clear_10 : decode cX1_clear 10 = .ok (.iconst 0, 1) := by decide +kernel
theorem dX1_clear_11 : decode cX1_clear 11 = .ok (.istore_n 1, 1) := by decide +kernel
theorem dX1_clear_12 : decode cX1_clear 12 = .ok (.iload_n 1, 1) := by decide +kernel
theorem dX1_clear_13 : decode cX1_clear 13 = .ok (.bipush 32, 2) := by decide +kernel
theorem dX1_clear_15 : decode cX1_clear 15 = .ok (.if_icmp .ge 23, 3) := by decide +kernel
theorem dX1_clear_18 : decode cX1_clear 18 = .ok (.aload_n 0, 1) := by decide +kernel
theorem dX1_clear_19 : decode cX1_clear 19 = .ok (.getfield 9, 3) := by decide +kernel
theorem dX1_clear_22 : decode cX1_clear 22 = .ok (.iload_n 1, 1) := by decide +kernel
theorem dX1_clear_23 : decode cX1_clear 23 = .ok (.iconst 0, 1) := by decide +kernel
theorem dX1_clear_24 : decode cX1_clear 24 = .ok (.iastore, 1) := by decide +kernel
theorem dX1_clear_25 : decode cX1_clear 25 = .ok (.aload_n 0, 1) := by decide +kernel
theorem dX1_clear_26 : decode cX1_clear 26 = .ok (.getfield 24, 3) := by decide +kernel
theorem dX1_clear_29 : decode cX1_clear 29 = .ok (.iload_n 1, 1) := by decide +kernel
theorem dX1_clear_30 : decode cX1_clear 30 = .ok (.lconst 0, 1) := by decide +kernel
theorem dX1_clear_31 : decode cX1_clear 31 = .ok (.lastore, 1) := by decide +kernel
theorem dX1_clear_32 : decode cX1_clear 32 = .ok (.iinc 1 1, 3) := by decide +kernel
theorem dX1_clear_35 : decode cX1_clear 35 = .ok (.goto (-23), 3) := by decide +kernel
theorem dX1_clear_38 : decode cX1_clear 38 = .ok (.return_, 1) := by decide +kernel
theorem dX1_add_0 : decode cX1_add 0 = .ok (.aload_n 0, 1) := by decide +kernel
theorem dX1_add_1 : decode cX1_add 1 = .ok (.getfield 35, 3) := by decide +kernel
theorem dX1_add_4 : decode cX1_add 4 = .ok (.bipush 60, 2) := by decide +kernel
theorem dX1_add_6 : decode cX1_add 6 = .ok (.if_icmp .ge 12, 3) := by decide +kernel
theorem dX1_add_9 : decode cX1_add 9 = .ok (.lconst 1, 1) := by decide +kernel
theorem dX1_add_10 : decode cX1_add 10 = .ok (.aload_n 0, 1) := by decide +kernel
theorem dX1_add_11 : decode cX1_add 11 = .ok (.getfield 35, 3) := by decide +kernel
theorem dX1_add_14 : decode cX1_add 14 = .ok (.lshl, 1) := by decide +kernel
theorem dX1_add_15 : decode cX1_add 15 = .ok (.goto 4, 3) := by decide +kernel
theorem dX1_add_18 : decode cX1_add 18 = .ok (.lconst 0, 1) := by decide +kernel
theorem dX1_add_19 : decode cX1_add 19 = .ok (.lstore_n 3, 1) := by decide +kernel
theorem dX1_add_20 : decode cX1_add 20 = .ok (.iconst 0, 1) := by decide +kernel
theorem dX1_add_21 : decode cX1_add 21 = .ok (.istore 5, 2) := by decide +kernel
theorem dX1_add_23 : decode cX1_add 23 = .ok (.iload 5, 2) := by decide +kernel
theorem dX1_add_25 : decode cX1_add 25 = .ok (.iload_n 2, 1) := by decide +kernel
theorem dX1_add_26 : decode cX1_add 26 = .ok (.if_icmp .ge 44, 3) := by decide +kernel
theorem dX1_add_29 : decode cX1_add 29 = .ok (.iload 5, 2) := by decide +kernel
theorem dX1_add_31 : decode cX1_add 31 = .ok (.iconst 4, 1) := by decide +kernel
theorem dX1_add_32 : decode cX1_add 32 = .ok (.imul, 1) := by decide +kernel
theorem dX1_add_33 : decode cX1_add 33 = .ok (.aload_n 1, 1) := by decide +kernel
theorem dX1_add_34 : decode cX1_add 34 = .ok (.iload 5, 2) := by decide +kernel
theorem dX1_add_36 : decode cX1_add 36 = .ok (.invokevirtual 39, 3) := by decide +kernel
theorem dX1_add_39 : decode cX1_add 39 = .ok (.iadd, 1) := by decide +kernel
theorem dX1_add_40 : decode cX1_add 40 = .ok (.istore 6, 2) := by decide +kernel
theorem dX1_add_42 : decode cX1_add 42 = .ok (.aload_n 0, 1) := by decide +kernel
theorem dX1_add_43 : decode cX1_add 43 = .ok (.getfield 9, 3) := by decide +kernel
theorem dX1_add_46 : decode cX1_add 46 = .ok (.iload 6, 2) := by decide +kernel
theorem dX1_add_48 : decode cX1_add 48 = .ok (.dup2, 1) := by decide +kernel
theorem dX1_add_49 : decode cX1_add 49 = .ok (.iaload, 1) := by decide +kernel
theorem dX1_add_50 : decode cX1_add 50 = .ok (.iconst 1, 1) := by decide +kernel
theorem dX1_add_51 : decode cX1_add 51 = .ok (.iadd, 1) := by decide +kernel
theorem dX1_add_52 : decode cX1_add 52 = .ok (.iastore, 1) := by decide +kernel
theorem dX1_add_53 : decode cX1_add 53 = .ok (.aload_n 0, 1) := by decide +kernel
theorem dX1_add_54 : decode cX1_add 54 = .ok (.getfield 24, 3) := by decide +kernel
theorem dX1_add_57 : decode cX1_add 57 = .ok (.iload 6, 2) := by decide +kernel
theorem dX1_add_59 : decode cX1_add 59 = .ok (.dup2, 1) := by decide +kernel
theorem dX1_add_60 : decode cX1_add 60 = .ok (.laload, 1) := by decide +kernel
theorem dX1_add_61 : decode cX1_add 61 = .ok (.lload_n 3, 1) := by decide +kernel
theorem dX1_add_62 : decode cX1_add 62 = .ok (.lor, 1) := by decide +kernel
theorem dX1_add_63 : decode cX1_add 63 = .ok (.lastore, 1) := by decide +kernel
theorem dX1_add_64 : decode cX1_add 64 = .ok (.iinc 5 1, 3) := by decide +kernel
theorem dX1_add_67 : decode cX1_add 67 = .ok (.goto (-44), 3) := by decide +kernel
theorem dX1_add_70 : decode cX1_add 70 = .ok (.aload_n 0, 1) := by decide +kernel
theorem dX1_add_71 : decode cX1_add 71 = .ok (.getfield 35, 3) := by decide +kernel
theorem dX1_add_74 : decode cX1_add 74 = .ok (.bipush 60, 2) := by decide +kernel
theorem dX1_add_76 : decode cX1_add 76 = .ok (.if_icmp .ge 51, 3) := by decide +kernel
theorem dX1_add_79 : decode cX1_add 79 = .ok (.aload_n 0, 1) := by decide +kernel
theorem dX1_add_80 : decode cX1_add 80 = .ok (.getfield 15, 3) := by decide +kernel
theorem dX1_add_83 : decode cX1_add 83 = .ok (.aload_n 0, 1) := by decide +kernel
theorem dX1_add_84 : decode cX1_add 84 = .ok (.getfield 35, 3) := by decide +kernel
theorem dX1_add_87 : decode cX1_add 87 = .ok (.aload_n 1, 1) := by decide +kernel
theorem dX1_add_88 : decode cX1_add 88 = .ok (.getfield 45, 3) := by decide +kernel
theorem dX1_add_91 : decode cX1_add 91 = .ok (.iastore, 1) := by decide +kernel
theorem dX1_add_92 : decode cX1_add 92 = .ok (.aload_n 0, 1) := by decide +kernel
theorem dX1_add_93 : decode cX1_add 93 = .ok (.getfield 18, 3) := by decide +kernel
theorem dX1_add_96 : decode cX1_add 96 = .ok (.aload_n 0, 1) := by decide +kernel
theorem dX1_add_97 : decode cX1_add 97 = .ok (.getfield 35, 3) := by decide +kernel
theorem dX1_add_100 : decode cX1_add 100 = .ok (.aload_n 1, 1) := by decide +kernel
theorem dX1_add_101 : decode cX1_add 101 = .ok (.getfield 47, 3) := by decide +kernel
theorem dX1_add_104 : decode cX1_add 104 = .ok (.iastore, 1) := by decide +kernel
theorem dX1_add_105 : decode cX1_add 105 = .ok (.aload_n 1, 1) := by decide +kernel
theorem dX1_add_106 : decode cX1_add 106 = .ok (.getfield 48, 3) := by decide +kernel
theorem dX1_add_109 : decode cX1_add 109 = .ok (.iconst 0, 1) := by decide +kernel
theorem dX1_add_110 : decode cX1_add 110 = .ok (.aload_n 0, 1) := by decide +kernel
theorem dX1_add_111 : decode cX1_add 111 = .ok (.getfield 21, 3) := by decide +kernel
theorem dX1_add_114 : decode cX1_add 114 = .ok (.aload_n 0, 1) := by decide +kernel
theorem dX1_add_115 : decode cX1_add 115 = .ok (.getfield 35, 3) := by decide +kernel
theorem dX1_add_118 : decode cX1_add 118 = .ok (.iconst 4, 1) := by decide +kernel
theorem dX1_add_119 : decode cX1_add 119 = .ok (.imul, 1) := by decide +kernel
theorem dX1_add_120 : decode cX1_add 120 = .ok (.aload_n 1, 1) := by decide +kernel
theorem dX1_add_121 : decode cX1_add 121 = .ok (.getfield 47, 3) := by decide +kernel
theorem dX1_add_124 : decode cX1_add 124 = .ok (.invokestatic 49, 3) := by decide +kernel
theorem dX1_add_127 : decode cX1_add 127 = .ok (.aload_n 0, 1) := by decide +kernel
theorem dX1_add_128 : decode cX1_add 128 = .ok (.dup, 1) := by decide +kernel
theorem dX1_add_129 : decode cX1_add 129 = .ok (.getfield 35, 3) := by decide +kernel
theorem dX1_add_132 : decode cX1_add 132 = .ok (.iconst 1, 1) := by decide +kernel
theorem dX1_add_133 : decode cX1_add 133 = .ok (.iadd, 1) := by decide +kernel
theorem dX1_add_134 : decode cX1_add 134 = .ok (.putfield 35, 3) := by decide +kernel
theorem dX1_add_137 : decode cX1_add 137 = .ok (.return_, 1) := by decide +kernel
theorem dX1_lastNumber_0 : decode cX1_lastNumber 0 = .ok (.iload_n 1, 1) := by decide +kernel
theorem dX1_lastNumber_1 : decode cX1_lastNumber 1 = .ok (.ifCond .lt 19, 3) := by decide +kernel
theorem dX1_lastNumber_4 : decode cX1_lastNumber 4 = .ok (.iload_n 1, 1) := by decide +kernel
theorem dX1_lastNumber_5 : decode cX1_lastNumber 5 = .ok (.bipush 60, 2) := by decide +kernel
theorem dX1_lastNumber_7 : decode cX1_lastNumber 7 = .ok (.if_icmp .ge 13, 3) := by decide +kernel
theorem dX1_lastNumber_10 : decode cX1_lastNumber 10 = .ok (.aload_n 0, 1) := by decide +kernel
theorem dX1_lastNumber_11 : decode cX1_lastNumber 11 = .ok (.getfield 18, 3) := by decide +kernel
theorem dX1_lastNumber_14 : decode cX1_lastNumber 14 = .ok (.iload_n 1, 1) := by decide +kernel
theorem dX1_lastNumber_15 : decode cX1_lastNumber 15 = .ok (.iaload, 1) := by decide +kernel
theorem dX1_lastNumber_16 : decode cX1_lastNumber 16 = .ok (.iconst 1, 1) := by decide +kernel
theorem dX1_lastNumber_17 : decode cX1_lastNumber 17 = .ok (.if_icmp .ge 6, 3) := by decide +kernel
theorem dX1_lastNumber_20 : decode cX1_lastNumber 20 = .ok (.bipush (-4), 2) := by decide +kernel
theorem dX1_lastNumber_22 : decode cX1_lastNumber 22 = .ok (.ireturn, 1) := by decide +kernel
theorem dX1_lastNumber_23 : decode cX1_lastNumber 23 = .ok (.aload_n 0, 1) := by decide +kernel
theorem dX1_lastNumber_24 : decode cX1_lastNumber 24 = .ok (.getfield 21, 3) := by decide +kernel
theorem dX1_lastNumber_27 : decode cX1_lastNumber 27 = .ok (.iload_n 1, 1) := by decide +kernel
theorem dX1_lastNumber_28 : decode cX1_lastNumber 28 = .ok (.iconst 4, 1) := by decide +kernel
theorem dX1_lastNumber_29 : decode cX1_lastNumber 29 = .ok (.imul, 1) := by decide +kernel
theorem dX1_lastNumber_30 : decode cX1_lastNumber 30 = .ok (.aload_n 0, 1) := by decide +kernel
theorem dX1_lastNumber_31 : decode cX1_lastNumber 31 = .ok (.getfield 18, 3) := by decide +kernel
theorem dX1_lastNumber_34 : decode cX1_lastNumber 34 = .ok (.iload_n 1, 1) := by decide +kernel
theorem dX1_lastNumber_35 : decode cX1_lastNumber 35 = .ok (.iaload, 1) := by decide +kernel
theorem dX1_lastNumber_36 : decode cX1_lastNumber 36 = .ok (.iadd, 1) := by decide +kernel
theorem dX1_lastNumber_37 : decode cX1_lastNumber 37 = .ok (.iconst 1, 1) := by decide +kernel
theorem dX1_lastNumber_38 : decode cX1_lastNumber 38 = .ok (.isub, 1) := by decide +kernel
theorem dX1_lastNumber_39 : decode cX1_lastNumber 39 = .ok (.iaload, 1) := by decide +kernel
theorem dX1_lastNumber_40 : decode cX1_lastNumber 40 = .ok (.ireturn, 1) := by decide +kernel
theorem dX1_partedBest_0 : decode cX1_partedBest 0 = .ok (.bipush (-4), 2) := by decide +kernel
theorem dX1_partedBest_2 : decode cX1_partedBest 2 = .ok (.istore_n 3, 1) := by decide +kernel
theorem dX1_partedBest_3 : decode cX1_partedBest 3 = .ok (.iload_n 2, 1) := by decide +kernel
theorem dX1_partedBest_4 : decode cX1_partedBest 4 = .ok (.istore 4, 2) := by decide +kernel
theorem dX1_partedBest_6 : decode cX1_partedBest 6 = .ok (.iconst 0, 1) := by decide +kernel
theorem dX1_partedBest_7 : decode cX1_partedBest 7 = .ok (.istore 5, 2) := by decide +kernel
theorem dX1_partedBest_9 : decode cX1_partedBest 9 = .ok (.iload 5, 2) := by decide +kernel
theorem dX1_partedBest_11 : decode cX1_partedBest 11 = .ok (.bipush 8, 2) := by decide +kernel
theorem dX1_partedBest_13 : decode cX1_partedBest 13 = .ok (.if_icmp .ge 62, 3) := by decide +kernel
theorem dX1_partedBest_16 : decode cX1_partedBest 16 = .ok (.iconst 0, 1) := by decide +kernel
theorem dX1_partedBest_17 : decode cX1_partedBest 17 = .ok (.istore 6, 2) := by decide +kernel
theorem dX1_partedBest_19 : decode cX1_partedBest 19 = .ok (.iconst 0, 1) := by decide +kernel
theorem dX1_partedBest_20 : decode cX1_partedBest 20 = .ok (.istore 7, 2) := by decide +kernel
theorem dX1_partedBest_22 : decode cX1_partedBest 22 = .ok (.iload 7, 2) := by decide +kernel
theorem dX1_partedBest_24 : decode cX1_partedBest 24 = .ok (.iconst 4, 1) := by decide +kernel
theorem dX1_partedBest_25 : decode cX1_partedBest 25 = .ok (.if_icmp .ge 25, 3) := by decide +kernel
theorem dX1_partedBest_28 : decode cX1_partedBest 28 = .ok (.iload 6, 2) := by decide +kernel
theorem dX1_partedBest_30 : decode cX1_partedBest 30 = .ok (.aload_n 1, 1) := by decide +kernel
theorem dX1_partedBest_31 : decode cX1_partedBest 31 = .ok (.iload 5, 2) := by decide +kernel
theorem dX1_partedBest_33 : decode cX1_partedBest 33 = .ok (.iconst 4, 1) := by decide +kernel
theorem dX1_partedBest_34 : decode cX1_partedBest 34 = .ok (.imul, 1) := by decide +kernel
theorem dX1_partedBest_35 : decode cX1_partedBest 35 = .ok (.iload 7, 2) := by decide +kernel
theorem dX1_partedBest_37 : decode cX1_partedBest 37 = .ok (.iadd, 1) := by decide +kernel
theorem dX1_partedBest_38 : decode cX1_partedBest 38 = .ok (.iaload, 1) := by decide +kernel
theorem dX1_partedBest_39 : decode cX1_partedBest 39 = .ok (.invokestatic 55, 3) := by decide +kernel
theorem dX1_partedBest_42 : decode cX1_partedBest 42 = .ok (.istore 6, 2) := by decide +kernel
theorem dX1_partedBest_44 : decode cX1_partedBest 44 = .ok (.iinc 7 1, 3) := by decide +kernel
theorem dX1_partedBest_47 : decode cX1_partedBest 47 = .ok (.goto (-25), 3) := by decide +kernel
theorem dX1_partedBest_50 : decode cX1_partedBest 50 = .ok (.iload 6, 2) := by decide +kernel
theorem dX1_partedBest_52 : decode cX1_partedBest 52 = .ok (.ifCond .le 17, 3) := by decide +kernel
theorem dX1_partedBest_55 : decode cX1_partedBest 55 = .ok (.iload 6, 2) := by decide +kernel
theorem dX1_partedBest_57 : decode cX1_partedBest 57 = .ok (.iload 4, 2) := by decide +kernel
theorem dX1_partedBest_59 : decode cX1_partedBest 59 = .ok (.if_icmp .ge 10, 3) := by decide +kernel
theorem dX1_partedBest_62 : decode cX1_partedBest 62 = .ok (.iload 6, 2) := by decide +kernel
theorem dX1_partedBest_64 : decode cX1_partedBest 64 = .ok (.istore 4, 2) := by decide +kernel
theorem dX1_partedBest_66 : decode cX1_partedBest 66 = .ok (.iload 5, 2) := by decide +kernel
theorem dX1_partedBest_68 : decode cX1_partedBest 68 = .ok (.istore_n 3, 1) := by decide +kernel
theorem dX1_partedBest_69 : decode cX1_partedBest 69 = .ok (.iinc 5 1, 3) := by decide +kernel
theorem dX1_partedBest_72 : decode cX1_partedBest 72 = .ok (.goto (-63), 3) := by decide +kernel
theorem dX1_partedBest_75 : decode cX1_partedBest 75 = .ok (.iload_n 3, 1) := by decide +kernel
theorem dX1_partedBest_76 : decode cX1_partedBest 76 = .ok (.ireturn, 1) := by decide +kernel
theorem dX1_questions_0 : decode cX1_questions 0 = .ok (.aload_n 0, 1) := by decide +kernel
theorem dX1_questions_1 : decode cX1_questions 1 = .ok (.getfield 35, 3) := by decide +kernel
theorem dX1_questions_4 : decode cX1_questions 4 = .ok (.ifCond .eq 12, 3) := by decide +kernel
theorem dX1_questions_7 : decode cX1_questions 7 = .ok (.aload_n 0, 1) := by decide +kernel
theorem dX1_questions_8 : decode cX1_questions 8 = .ok (.getfield 35, 3) := by decide +kernel
theorem dX1_questions_11 : decode cX1_questions 11 = .ok (.bipush 60, 2) := by decide +kernel
theorem dX1_questions_13 : decode cX1_questions 13 = .ok (.if_icmp .le 6, 3) := by decide +kernel
theorem dX1_questions_16 : decode cX1_questions 16 = .ok (.bipush (-4), 2) := by decide +kernel
theorem dX1_questions_18 : decode cX1_questions 18 = .ok (.ireturn, 1) := by decide +kernel
theorem dX1_questions_19 : decode cX1_questions 19 = .ok (.iconst 0, 1) := by decide +kernel
theorem dX1_questions_20 : decode cX1_questions 20 = .ok (.istore_n 1, 1) := by decide +kernel
theorem dX1_questions_21 : decode cX1_questions 21 = .ok (.iconst 0, 1) := by decide +kernel
theorem dX1_questions_22 : decode cX1_questions 22 = .ok (.istore_n 2, 1) := by decide +kernel
theorem dX1_questions_23 : decode cX1_questions 23 = .ok (.iload_n 2, 1) := by decide +kernel
theorem dX1_questions_24 : decode cX1_questions 24 = .ok (.aload_n 0, 1) := by decide +kernel
theorem dX1_questions_25 : decode cX1_questions 25 = .ok (.getfield 35, 3) := by decide +kernel
theorem dX1_questions_28 : decode cX1_questions 28 = .ok (.if_icmp .ge 19, 3) := by decide +kernel
theorem dX1_questions_31 : decode cX1_questions 31 = .ok (.iload_n 1, 1) := by decide +kernel
theorem dX1_questions_32 : decode cX1_questions 32 = .ok (.aload_n 0, 1) := by decide +kernel
theorem dX1_questions_33 : decode cX1_questions 33 = .ok (.iload_n 2, 1) := by decide +kernel
theorem dX1_questions_34 : decode cX1_questions 34 = .ok (.invokevirtual 61, 3) := by decide +kernel
theorem dX1_questions_37 : decode cX1_questions 37 = .ok (.invokestatic 55, 3) := by decide +kernel
theorem dX1_questions_40 : decode cX1_questions 40 = .ok (.istore_n 1, 1) := by decide +kernel
theorem dX1_questions_41 : decode cX1_questions 41 = .ok (.iinc 2 1, 3) := by decide +kernel
theorem dX1_questions_44 : decode cX1_questions 44 = .ok (.goto (-21), 3) := by decide +kernel
theorem dX1_questions_47 : decode cX1_questions 47 = .ok (.iload_n 1, 1) := by decide +kernel
theorem dX1_questions_48 : decode cX1_questions 48 = .ok (.ireturn, 1) := by decide +kernel
theorem dX1_questionsIfTrue_0 : decode cX1_questionsIfTrue 0 = .ok (.aload_n 0, 1) := by decide +kernel
theorem dX1_questionsIfTrue_1 : decode cX1_questionsIfTrue 1 = .ok (.iload_n 1, 1) := by decide +kernel
theorem dX1_questionsIfTrue_2 : decode cX1_questionsIfTrue 2 = .ok (.invokevirtual 64, 3) := by decide +kernel
theorem dX1_questionsIfTrue_5 : decode cX1_questionsIfTrue 5 = .ok (.lstore_n 2, 1) := by decide +kernel
theorem dX1_questionsIfTrue_6 : decode cX1_questionsIfTrue 6 = .ok (.lconst 1, 1) := by decide +kernel
theorem dX1_questionsIfTrue_7 : decode cX1_questionsIfTrue 7 = .ok (.aload_n 0, 1) := by decide +kernel
theorem dX1_questionsIfTrue_8 : decode cX1_questionsIfTrue 8 = .ok (.getfield 35, 3) := by decide +kernel
theorem dX1_questionsIfTrue_11 : decode cX1_questionsIfTrue 11 = .ok (.lshl, 1) := by decide +kernel
theorem dX1_questionsIfTrue_12 : decode cX1_questionsIfTrue 12 = .ok (.lconst 1, 1) := by decide +kernel
theorem dX1_questionsIfTrue_13 : decode cX1_questionsIfTrue 13 = .ok (.lsub, 1) := by decide +kernel
theorem dX1_questionsIfTrue_14 : decode cX1_questionsIfTrue 14 = .ok (.lstore 4, 2) := by decide +kernel
theorem dX1_questionsIfTrue_16 : decode cX1_questionsIfTrue 16 = .ok (.iconst 0, 1) := by decide +kernel
theorem dX1_questionsIfTrue_17 : decode cX1_questionsIfTrue 17 = .ok (.istore 6, 2) := by decide +kernel
theorem dX1_questionsIfTrue_19 : decode cX1_questionsIfTrue 19 = .ok (.iload 6, 2) := by decide +kernel
theorem dX1_questionsIfTrue_21 : decode cX1_questionsIfTrue 21 = .ok (.bipush 8, 2) := by decide +kernel
theorem dX1_questionsIfTrue_23 : decode cX1_questionsIfTrue 23 = .ok (.if_icmp .ge 96, 3) := by decide +kernel
theorem dX1_questionsIfTrue_26 : decode cX1_questionsIfTrue 26 = .ok (.lload 4, 2) := by decide +kernel
theorem dX1_questionsIfTrue_28 : decode cX1_questionsIfTrue 28 = .ok (.lload_n 2, 1) := by decide +kernel
theorem dX1_questionsIfTrue_29 : decode cX1_questionsIfTrue 29 = .ok (.ldc2_w 68, 3) := by decide +kernel
theorem dX1_questionsIfTrue_32 : decode cX1_questionsIfTrue 32 = .ok (.lxor, 1) := by decide +kernel
theorem dX1_questionsIfTrue_33 : decode cX1_questionsIfTrue 33 = .ok (.land, 1) := by decide +kernel
theorem dX1_questionsIfTrue_34 : decode cX1_questionsIfTrue 34 = .ok (.lconst 0, 1) := by decide +kernel
theorem dX1_questionsIfTrue_35 : decode cX1_questionsIfTrue 35 = .ok (.lcmp, 1) := by decide +kernel
theorem dX1_questionsIfTrue_36 : decode cX1_questionsIfTrue 36 = .ok (.ifCond .ne 6, 3) := by decide +kernel
theorem dX1_questionsIfTrue_39 : decode cX1_questionsIfTrue 39 = .ok (.iload 6, 2) := by decide +kernel
theorem dX1_questionsIfTrue_41 : decode cX1_questionsIfTrue 41 = .ok (.ireturn, 1) := by decide +kernel
theorem dX1_questionsIfTrue_42 : decode cX1_questionsIfTrue 42 = .ok (.iconst 0, 1) := by decide +kernel
theorem dX1_questionsIfTrue_43 : decode cX1_questionsIfTrue 43 = .ok (.istore 7, 2) := by decide +kernel
theorem dX1_questionsIfTrue_45 : decode cX1_questionsIfTrue 45 = .ok (.iload 7, 2) := by decide +kernel
theorem dX1_questionsIfTrue_47 : decode cX1_questionsIfTrue 47 = .ok (.bipush 32, 2) := by decide +kernel
theorem dX1_questionsIfTrue_49 : decode cX1_questionsIfTrue 49 = .ok (.if_icmp .ge 29, 3) := by decide +kernel
theorem dX1_questionsIfTrue_52 : decode cX1_questionsIfTrue 52 = .ok (.aload_n 0, 1) := by decide +kernel
theorem dX1_questionsIfTrue_53 : decode cX1_questionsIfTrue 53 = .ok (.getfield 28, 3) := by decide +kernel
theorem dX1_questionsIfTrue_56 : decode cX1_questionsIfTrue 56 = .ok (.iload 7, 2) := by decide +kernel
theorem dX1_questionsIfTrue_58 : decode cX1_questionsIfTrue 58 = .ok (.lload 4, 2) := by decide +kernel
theorem dX1_questionsIfTrue_60 : decode cX1_questionsIfTrue 60 = .ok (.aload_n 0, 1) := by decide +kernel
theorem dX1_questionsIfTrue_61 : decode cX1_questionsIfTrue 61 = .ok (.getfield 24, 3) := by decide +kernel
theorem dX1_questionsIfTrue_64 : decode cX1_questionsIfTrue 64 = .ok (.iload 7, 2) := by decide +kernel
theorem dX1_questionsIfTrue_66 : decode cX1_questionsIfTrue 66 = .ok (.laload, 1) := by decide +kernel
theorem dX1_questionsIfTrue_67 : decode cX1_questionsIfTrue 67 = .ok (.land, 1) := by decide +kernel
theorem dX1_questionsIfTrue_68 : decode cX1_questionsIfTrue 68 = .ok (.invokestatic 70, 3) := by decide +kernel
theorem dX1_questionsIfTrue_71 : decode cX1_questionsIfTrue 71 = .ok (.iastore, 1) := by decide +kernel
theorem dX1_questionsIfTrue_72 : decode cX1_questionsIfTrue 72 = .ok (.iinc 7 1, 3) := by decide +kernel
theorem dX1_questionsIfTrue_75 : decode cX1_questionsIfTrue 75 = .ok (.goto (-30), 3) := by decide +kernel
theorem dX1_questionsIfTrue_78 : decode cX1_questionsIfTrue 78 = .ok (.aload_n 0, 1) := by decide +kernel
theorem dX1_questionsIfTrue_79 : decode cX1_questionsIfTrue 79 = .ok (.aload_n 0, 1) := by decide +kernel
theorem dX1_questionsIfTrue_80 : decode cX1_questionsIfTrue 80 = .ok (.getfield 28, 3) := by decide +kernel
theorem dX1_questionsIfTrue_83 : decode cX1_questionsIfTrue 83 = .ok (.lload 4, 2) := by decide +kernel
theorem dX1_questionsIfTrue_85 : decode cX1_questionsIfTrue 85 = .ok (.invokestatic 70, 3) := by decide +kernel
theorem dX1_questionsIfTrue_88 : decode cX1_questionsIfTrue 88 = .ok (.invokevirtual 76, 3) := by decide +kernel
theorem dX1_questionsIfTrue_91 : decode cX1_questionsIfTrue 91 = .ok (.istore 7, 2) := by decide +kernel
theorem dX1_questionsIfTrue_93 : decode cX1_questionsIfTrue 93 = .ok (.iload 7, 2) := by decide +kernel
theorem dX1_questionsIfTrue_95 : decode cX1_questionsIfTrue 95 = .ok (.ifCond .ge 6, 3) := by decide +kernel
theorem dX1_questionsIfTrue_98 : decode cX1_questionsIfTrue 98 = .ok (.iload 6, 2) := by decide +kernel
theorem dX1_questionsIfTrue_100 : decode cX1_questionsIfTrue 100 = .ok (.ireturn, 1) := by decide +kernel
theorem dX1_questionsIfTrue_101 : decode cX1_questionsIfTrue 101 = .ok (.lload 4, 2) := by decide +kernel
theorem dX1_questionsIfTrue_103 : decode cX1_questionsIfTrue 103 = .ok (.aload_n 0, 1) := by decide +kernel
theorem dX1_questionsIfTrue_104 : decode cX1_questionsIfTrue 104 = .ok (.iload_n 1, 1) := by decide +kernel
theorem dX1_questionsIfTrue_105 : decode cX1_questionsIfTrue 105 = .ok (.iload 7, 2) := by decide +kernel
theorem dX1_questionsIfTrue_107 : decode cX1_questionsIfTrue 107 = .ok (.invokevirtual 80, 3) := by decide +kernel
theorem dX1_questionsIfTrue_110 : decode cX1_questionsIfTrue 110 = .ok (.land, 1) := by decide +kernel
theorem dX1_questionsIfTrue_111 : decode cX1_questionsIfTrue 111 = .ok (.lstore 4, 2) := by decide +kernel
theorem dX1_questionsIfTrue_113 : decode cX1_questionsIfTrue 113 = .ok (.iinc 6 1, 3) := by decide +kernel
theorem dX1_questionsIfTrue_116 : decode cX1_questionsIfTrue 116 = .ok (.goto (-97), 3) := by decide +kernel
theorem dX1_questionsIfTrue_119 : decode cX1_questionsIfTrue 119 = .ok (.bipush 8, 2) := by decide +kernel
theorem dX1_questionsIfTrue_121 : decode cX1_questionsIfTrue 121 = .ok (.ireturn, 1) := by decide +kernel
theorem dX1_takingLike_0 : decode cX1_takingLike 0 = .ok (.iconst 0, 1) := by decide +kernel
theorem dX1_takingLike_1 : decode cX1_takingLike 1 = .ok (.istore_n 3, 1) := by decide +kernel
theorem dX1_takingLike_2 : decode cX1_takingLike 2 = .ok (.iload_n 3, 1) := by decide +kernel
theorem dX1_takingLike_3 : decode cX1_takingLike 3 = .ok (.iconst 4, 1) := by decide +kernel
theorem dX1_takingLike_4 : decode cX1_takingLike 4 = .ok (.if_icmp .ge 35, 3) := by decide +kernel
theorem dX1_takingLike_7 : decode cX1_takingLike 7 = .ok (.aload_n 0, 1) := by decide +kernel
theorem dX1_takingLike_8 : decode cX1_takingLike 8 = .ok (.getfield 24, 3) := by decide +kernel
theorem dX1_takingLike_11 : decode cX1_takingLike 11 = .ok (.iload_n 2, 1) := by decide +kernel
theorem dX1_takingLike_12 : decode cX1_takingLike 12 = .ok (.iconst 4, 1) := by decide +kernel
theorem dX1_takingLike_13 : decode cX1_takingLike 13 = .ok (.imul, 1) := by decide +kernel
theorem dX1_takingLike_14 : decode cX1_takingLike 14 = .ok (.iload_n 3, 1) := by decide +kernel
theorem dX1_takingLike_15 : decode cX1_takingLike 15 = .ok (.iadd, 1) := by decide +kernel
theorem dX1_takingLike_16 : decode cX1_takingLike 16 = .ok (.laload, 1) := by decide +kernel
theorem dX1_takingLike_17 : decode cX1_takingLike 17 = .ok (.lstore 4, 2) := by decide +kernel
theorem dX1_takingLike_19 : decode cX1_takingLike 19 = .ok (.lload 4, 2) := by decide +kernel
theorem dX1_takingLike_21 : decode cX1_takingLike 21 = .ok (.iload_n 1, 1) := by decide +kernel
theorem dX1_takingLike_22 : decode cX1_takingLike 22 = .ok (.lushr, 1) := by decide +kernel
theorem dX1_takingLike_23 : decode cX1_takingLike 23 = .ok (.lconst 1, 1) := by decide +kernel
theorem dX1_takingLike_24 : decode cX1_takingLike 24 = .ok (.land, 1) := by decide +kernel
theorem dX1_takingLike_25 : decode cX1_takingLike 25 = .ok (.lconst 0, 1) := by decide +kernel
theorem dX1_takingLike_26 : decode cX1_takingLike 26 = .ok (.lcmp, 1) := by decide +kernel
theorem dX1_takingLike_27 : decode cX1_takingLike 27 = .ok (.ifCond .eq 6, 3) := by decide +kernel
theorem dX1_takingLike_30 : decode cX1_takingLike 30 = .ok (.lload 4, 2) := by decide +kernel
theorem dX1_takingLike_32 : decode cX1_takingLike 32 = .ok (.lreturn, 1) := by decide +kernel
theorem dX1_takingLike_33 : decode cX1_takingLike 33 = .ok (.iinc 3 1, 3) := by decide +kernel
theorem dX1_takingLike_36 : decode cX1_takingLike 36 = .ok (.goto (-34), 3) := by decide +kernel
theorem dX1_takingLike_39 : decode cX1_takingLike 39 = .ok (.lconst 0, 1) := by decide +kernel
theorem dX1_takingLike_40 : decode cX1_takingLike 40 = .ok (.lreturn, 1) := by decide +kernel
theorem dX1_alikeTo_0 : decode cX1_alikeTo 0 = .ok (.lconst 0, 1) := by decide +kernel
theorem dX1_alikeTo_1 : decode cX1_alikeTo 1 = .ok (.lstore_n 2, 1) := by decide +kernel
theorem dX1_alikeTo_2 : decode cX1_alikeTo 2 = .ok (.iconst 0, 1) := by decide +kernel
theorem dX1_alikeTo_3 : decode cX1_alikeTo 3 = .ok (.istore 4, 2) := by decide +kernel
theorem dX1_alikeTo_5 : decode cX1_alikeTo 5 = .ok (.iload 4, 2) := by decide +kernel
theorem dX1_alikeTo_7 : decode cX1_alikeTo 7 = .ok (.aload_n 0, 1) := by decide +kernel
theorem dX1_alikeTo_8 : decode cX1_alikeTo 8 = .ok (.getfield 35, 3) := by decide +kernel
theorem dX1_alikeTo_11 : decode cX1_alikeTo 11 = .ok (.if_icmp .ge 26, 3) := by decide +kernel
theorem dX1_alikeTo_14 : decode cX1_alikeTo 14 = .ok (.aload_n 0, 1) := by decide +kernel
theorem dX1_alikeTo_15 : decode cX1_alikeTo 15 = .ok (.iload_n 1, 1) := by decide +kernel
theorem dX1_alikeTo_16 : decode cX1_alikeTo 16 = .ok (.iload 4, 2) := by decide +kernel
theorem dX1_alikeTo_18 : decode cX1_alikeTo 18 = .ok (.invokevirtual 84, 3) := by decide +kernel
theorem dX1_alikeTo_21 : decode cX1_alikeTo 21 = .ok (.ifCond .eq 10, 3) := by decide +kernel
theorem dX1_alikeTo_24 : decode cX1_alikeTo 24 = .ok (.lload_n 2, 1) := by decide +kernel
theorem dX1_alikeTo_25 : decode cX1_alikeTo 25 = .ok (.lconst 1, 1) := by decide +kernel
theorem dX1_alikeTo_26 : decode cX1_alikeTo 26 = .ok (.iload 4, 2) := by decide +kernel
theorem dX1_alikeTo_28 : decode cX1_alikeTo 28 = .ok (.lshl, 1) := by decide +kernel
theorem dX1_alikeTo_29 : decode cX1_alikeTo 29 = .ok (.lor, 1) := by decide +kernel
theorem dX1_alikeTo_30 : decode cX1_alikeTo 30 = .ok (.lstore_n 2, 1) := by decide +kernel
theorem dX1_alikeTo_31 : decode cX1_alikeTo 31 = .ok (.iinc 4 1, 3) := by decide +kernel
theorem dX1_alikeTo_34 : decode cX1_alikeTo 34 = .ok (.goto (-29), 3) := by decide +kernel
theorem dX1_alikeTo_37 : decode cX1_alikeTo 37 = .ok (.lload_n 2, 1) := by decide +kernel
theorem dX1_alikeTo_38 : decode cX1_alikeTo 38 = .ok (.lreturn, 1) := by decide +kernel
theorem dX1_isAlike_0 : decode cX1_isAlike 0 = .ok (.aload_n 0, 1) := by decide +kernel
theorem dX1_isAlike_1 : decode cX1_isAlike 1 = .ok (.getfield 18, 3) := by decide +kernel
theorem dX1_isAlike_4 : decode cX1_isAlike 4 = .ok (.iload_n 1, 1) := by decide +kernel
theorem dX1_isAlike_5 : decode cX1_isAlike 5 = .ok (.iaload, 1) := by decide +kernel
theorem dX1_isAlike_6 : decode cX1_isAlike 6 = .ok (.aload_n 0, 1) := by decide +kernel
theorem dX1_isAlike_7 : decode cX1_isAlike 7 = .ok (.getfield 18, 3) := by decide +kernel
theorem dX1_isAlike_10 : decode cX1_isAlike 10 = .ok (.iload_n 2, 1) := by decide +kernel
theorem dX1_isAlike_11 : decode cX1_isAlike 11 = .ok (.iaload, 1) := by decide +kernel
theorem dX1_isAlike_12 : decode cX1_isAlike 12 = .ok (.if_icmp .eq 5, 3) := by decide +kernel
theorem dX1_isAlike_15 : decode cX1_isAlike 15 = .ok (.iconst 0, 1) := by decide +kernel
theorem dX1_isAlike_16 : decode cX1_isAlike 16 = .ok (.ireturn, 1) := by decide +kernel
theorem dX1_isAlike_17 : decode cX1_isAlike 17 = .ok (.iconst 0, 1) := by decide +kernel
theorem dX1_isAlike_18 : decode cX1_isAlike 18 = .ok (.istore_n 3, 1) := by decide +kernel
theorem dX1_isAlike_19 : decode cX1_isAlike 19 = .ok (.iload_n 3, 1) := by decide +kernel
theorem dX1_isAlike_20 : decode cX1_isAlike 20 = .ok (.aload_n 0, 1) := by decide +kernel
theorem dX1_isAlike_21 : decode cX1_isAlike 21 = .ok (.getfield 18, 3) := by decide +kernel
theorem dX1_isAlike_24 : decode cX1_isAlike 24 = .ok (.iload_n 1, 1) := by decide +kernel
theorem dX1_isAlike_25 : decode cX1_isAlike 25 = .ok (.iaload, 1) := by decide +kernel
theorem dX1_isAlike_26 : decode cX1_isAlike 26 = .ok (.if_icmp .ge 34, 3) := by decide +kernel
theorem dX1_isAlike_29 : decode cX1_isAlike 29 = .ok (.aload_n 0, 1) := by decide +kernel
theorem dX1_isAlike_30 : decode cX1_isAlike 30 = .ok (.getfield 21, 3) := by decide +kernel
theorem dX1_isAlike_33 : decode cX1_isAlike 33 = .ok (.iload_n 1, 1) := by decide +kernel
theorem dX1_isAlike_34 : decode cX1_isAlike 34 = .ok (.iconst 4, 1) := by decide +kernel
theorem dX1_isAlike_35 : decode cX1_isAlike 35 = .ok (.imul, 1) := by decide +kernel
theorem dX1_isAlike_36 : decode cX1_isAlike 36 = .ok (.iload_n 3, 1) := by decide +kernel
theorem dX1_isAlike_37 : decode cX1_isAlike 37 = .ok (.iadd, 1) := by decide +kernel
theorem dX1_isAlike_38 : decode cX1_isAlike 38 = .ok (.iaload, 1) := by decide +kernel
theorem dX1_isAlike_39 : decode cX1_isAlike 39 = .ok (.aload_n 0, 1) := by decide +kernel
theorem dX1_isAlike_40 : decode cX1_isAlike 40 = .ok (.getfield 21, 3) := by decide +kernel
theorem dX1_isAlike_43 : decode cX1_isAlike 43 = .ok (.iload_n 2, 1) := by decide +kernel
theorem dX1_isAlike_44 : decode cX1_isAlike 44 = .ok (.iconst 4, 1) := by decide +kernel
theorem dX1_isAlike_45 : decode cX1_isAlike 45 = .ok (.imul, 1) := by decide +kernel
theorem dX1_isAlike_46 : decode cX1_isAlike 46 = .ok (.iload_n 3, 1) := by decide +kernel
theorem dX1_isAlike_47 : decode cX1_isAlike 47 = .ok (.iadd, 1) := by decide +kernel
theorem dX1_isAlike_48 : decode cX1_isAlike 48 = .ok (.iaload, 1) := by decide +kernel
theorem dX1_isAlike_49 : decode cX1_isAlike 49 = .ok (.if_icmp .eq 5, 3) := by decide +kernel
theorem dX1_isAlike_52 : decode cX1_isAlike 52 = .ok (.iconst 0, 1) := by decide +kernel
theorem dX1_isAlike_53 : decode cX1_isAlike 53 = .ok (.ireturn, 1) := by decide +kernel
theorem dX1_isAlike_54 : decode cX1_isAlike 54 = .ok (.iinc 3 1, 3) := by decide +kernel
theorem dX1_isAlike_57 : decode cX1_isAlike 57 = .ok (.goto (-38), 3) := by decide +kernel
theorem dX1_isAlike_60 : decode cX1_isAlike 60 = .ok (.iconst 1, 1) := by decide +kernel
theorem dX1_isAlike_61 : decode cX1_isAlike 61 = .ok (.ireturn, 1) := by decide +kernel
theorem dX2_init_0 : decode cX2_init 0 = .ok (.aload_n 0, 1) := by decide +kernel
theorem dX2_init_1 : decode cX2_init 1 = .ok (.invokespecial 3, 3) := by decide +kernel
theorem dX2_init_4 : decode cX2_init 4 = .ok (.aload_n 0, 1) := by decide +kernel
theorem dX2_init_5 : decode cX2_init 5 = .ok (.bipush 8, 2) := by decide +kernel
theorem dX2_init_7 : decode cX2_init 7 = .ok (.newarray .int, 2) := by decide +kernel
theorem dX2_init_9 : decode cX2_init 9 = .ok (.putfield 9, 3) := by decide +kernel
theorem dX2_init_12 : decode cX2_init 12 = .ok (.aload_n 0, 1) := by decide +kernel
theorem dX2_init_13 : decode cX2_init 13 = .ok (.bipush 32, 2) := by decide +kernel
theorem dX2_init_15 : decode cX2_init 15 = .ok (.newarray .int, 2) := by decide +kernel
theorem dX2_init_17 : decode cX2_init 17 = .ok (.putfield 15, 3) := by decide +kernel
theorem dX2_init_20 : decode cX2_init 20 = .ok (.aload_n 0, 1) := by decide +kernel
theorem dX2_init_21 : decode cX2_init 21 = .ok (.bipush 32, 2) := by decide +kernel
theorem dX2_init_23 : decode cX2_init 23 = .ok (.newarray .int, 2) := by decide +kernel
theorem dX2_init_25 : decode cX2_init 25 = .ok (.putfield 18, 3) := by decide +kernel
theorem dX2_init_28 : decode cX2_init 28 = .ok (.aload_n 0, 1) := by decide +kernel
theorem dX2_init_29 : decode cX2_init 29 = .ok (.iconst 1, 1) := by decide +kernel
theorem dX2_init_30 : decode cX2_init 30 = .ok (.putfield 21, 3) := by decide +kernel
theorem dX2_init_33 : decode cX2_init 33 = .ok (.return_, 1) := by decide +kernel
theorem dX2_take_0 : decode cX2_take 0 = .ok (.aload_n 0, 1) := by decide +kernel
theorem dX2_take_1 : decode cX2_take 1 = .ok (.aload_n 1, 1) := by decide +kernel
theorem dX2_take_2 : decode cX2_take 2 = .ok (.invokevirtual 25, 3) := by decide +kernel
theorem dX2_take_5 : decode cX2_take 5 = .ok (.aload_n 0, 1) := by decide +kernel
theorem dX2_take_6 : decode cX2_take 6 = .ok (.aload_n 1, 1) := by decide +kernel
theorem dX2_take_7 : decode cX2_take 7 = .ok (.getfield 29, 3) := by decide +kernel
theorem dX2_take_10 : decode cX2_take 10 = .ok (.putfield 29, 3) := by decide +kernel
theorem dX2_take_13 : decode cX2_take 13 = .ok (.aload_n 0, 1) := by decide +kernel
theorem dX2_take_14 : decode cX2_take 14 = .ok (.aload_n 1, 1) := by decide +kernel
theorem dX2_take_15 : decode cX2_take 15 = .ok (.getfield 32, 3) := by decide +kernel
theorem dX2_take_18 : decode cX2_take 18 = .ok (.putfield 32, 3) := by decide +kernel
theorem dX2_take_21 : decode cX2_take 21 = .ok (.aload_n 0, 1) := by decide +kernel
theorem dX2_take_22 : decode cX2_take 22 = .ok (.aload_n 1, 1) := by decide +kernel
theorem dX2_take_23 : decode cX2_take 23 = .ok (.getfield 21, 3) := by decide +kernel
theorem dX2_take_26 : decode cX2_take 26 = .ok (.putfield 21, 3) := by decide +kernel
theorem dX2_take_29 : decode cX2_take 29 = .ok (.return_, 1) := by decide +kernel
theorem dX2_takeSlots_0 : decode cX2_takeSlots 0 = .ok (.aload_n 1, 1) := by decide +kernel
theorem dX2_takeSlots_1 : decode cX2_takeSlots 1 = .ok (.getfield 9, 3) := by decide +kernel
theorem dX2_takeSlots_4 : decode cX2_takeSlots 4 = .ok (.iconst 0, 1) := by decide +kernel
theorem dX2_takeSlots_5 : decode cX2_takeSlots 5 = .ok (.aload_n 0, 1) := by decide +kernel
theorem dX2_takeSlots_6 : decode cX2_takeSlots 6 = .ok (.getfield 9, 3) := by decide +kernel
theorem dX2_takeSlots_9 : decode cX2_takeSlots 9 = .ok (.iconst 0, 1) := by decide +kernel
theorem dX2_takeSlots_10 : decode cX2_takeSlots 10 = .ok (.bipush 8, 2) := by decide +kernel
theorem dX2_takeSlots_12 : decode cX2_takeSlots 12 = .ok (.invokestatic 35, 3) := by decide +kernel
theorem dX2_takeSlots_15 : decode cX2_takeSlots 15 = .ok (.aload_n 1, 1) := by decide +kernel
theorem dX2_takeSlots_16 : decode cX2_takeSlots 16 = .ok (.getfield 15, 3) := by decide +kernel
theorem dX2_takeSlots_19 : decode cX2_takeSlots 19 = .ok (.iconst 0, 1) := by decide +kernel
theorem dX2_takeSlots_20 : decode cX2_takeSlots 20 = .ok (.aload_n 0, 1) := by decide +kernel
theorem dX2_takeSlots_21 : decode cX2_takeSlots 21 = .ok (.getfield 15, 3) := by decide +kernel
theorem dX2_takeSlots_24 : decode cX2_takeSlots 24 = .ok (.iconst 0, 1) := by decide +kernel
theorem dX2_takeSlots_25 : decode cX2_takeSlots 25 = .ok (.bipush 32, 2) := by decide +kernel
theorem dX2_takeSlots_27 : decode cX2_takeSlots 27 = .ok (.invokestatic 35, 3) := by decide +kernel
theorem dX2_takeSlots_30 : decode cX2_takeSlots 30 = .ok (.aload_n 1, 1) := by decide +kernel
theorem dX2_takeSlots_31 : decode cX2_takeSlots 31 = .ok (.getfield 18, 3) := by decide +kernel
theorem dX2_takeSlots_34 : decode cX2_takeSlots 34 = .ok (.iconst 0, 1) := by decide +kernel
theorem dX2_takeSlots_35 : decode cX2_takeSlots 35 = .ok (.aload_n 0, 1) := by decide +kernel
theorem dX2_takeSlots_36 : decode cX2_takeSlots 36 = .ok (.getfield 18, 3) := by decide +kernel
theorem dX2_takeSlots_39 : decode cX2_takeSlots 39 = .ok (.iconst 0, 1) := by decide +kernel
theorem dX2_takeSlots_40 : decode cX2_takeSlots 40 = .ok (.bipush 32, 2) := by decide +kernel
theorem dX2_takeSlots_42 : decode cX2_takeSlots 42 = .ok (.invokestatic 35, 3) := by decide +kernel
theorem dX2_takeSlots_45 : decode cX2_takeSlots 45 = .ok (.aload_n 0, 1) := by decide +kernel
theorem dX2_takeSlots_46 : decode cX2_takeSlots 46 = .ok (.aload_n 1, 1) := by decide +kernel
theorem dX2_takeSlots_47 : decode cX2_takeSlots 47 = .ok (.getfield 41, 3) := by decide +kernel
theorem dX2_takeSlots_50 : decode cX2_takeSlots 50 = .ok (.putfield 41, 3) := by decide +kernel
theorem dX2_takeSlots_53 : decode cX2_takeSlots 53 = .ok (.return_, 1) := by decide +kernel
theorem dX2_isSlot_0 : decode cX2_isSlot 0 = .ok (.iload_n 1, 1) := by decide +kernel
theorem dX2_isSlot_1 : decode cX2_isSlot 1 = .ok (.ifCond .lt 15, 3) := by decide +kernel
theorem dX2_isSlot_4 : decode cX2_isSlot 4 = .ok (.iload_n 1, 1) := by decide +kernel
theorem dX2_isSlot_5 : decode cX2_isSlot 5 = .ok (.aload_n 0, 1) := by decide +kernel
theorem dX2_isSlot_6 : decode cX2_isSlot 6 = .ok (.getfield 41, 3) := by decide +kernel
theorem dX2_isSlot_9 : decode cX2_isSlot 9 = .ok (.if_icmp .ge 7, 3) := by decide +kernel
theorem dX2_isSlot_12 : decode cX2_isSlot 12 = .ok (.iconst 1, 1) := by decide +kernel
theorem dX2_isSlot_13 : decode cX2_isSlot 13 = .ok (.goto 4, 3) := by decide +kernel
theorem dX2_isSlot_16 : decode cX2_isSlot 16 = .ok (.iconst 0, 1) := by decide +kernel
theorem dX2_isSlot_17 : decode cX2_isSlot 17 = .ok (.ireturn, 1) := by decide +kernel
theorem dX2_find_0 : decode cX2_find 0 = .ok (.aload_n 0, 1) := by decide +kernel
theorem dX2_find_1 : decode cX2_find 1 = .ok (.iload_n 1, 1) := by decide +kernel
theorem dX2_find_2 : decode cX2_find 2 = .ok (.invokevirtual 44, 3) := by decide +kernel
theorem dX2_find_5 : decode cX2_find 5 = .ok (.ifCond .ne 5, 3) := by decide +kernel
theorem dX2_find_8 : decode cX2_find 8 = .ok (.iconst (-1), 1) := by decide +kernel
theorem dX2_find_9 : decode cX2_find 9 = .ok (.ireturn, 1) := by decide +kernel
theorem dX2_find_10 : decode cX2_find 10 = .ok (.iconst 0, 1) := by decide +kernel
theorem dX2_find_11 : decode cX2_find 11 = .ok (.istore_n 3, 1) := by decide +kernel
theorem dX2_find_12 : decode cX2_find 12 = .ok (.iload_n 3, 1) := by decide +kernel
theorem dX2_find_13 : decode cX2_find 13 = .ok (.aload_n 0, 1) := by decide +kernel
theorem dX2_find_14 : decode cX2_find 14 = .ok (.getfield 9, 3) := by decide +kernel
theorem dX2_find_17 : decode cX2_find 17 = .ok (.iload_n 1, 1) := by decide +kernel
theorem dX2_find_18 : decode cX2_find 18 = .ok (.iaload, 1) := by decide +kernel
theorem dX2_find_19 : decode cX2_find 19 = .ok (.if_icmp .ge 25, 3) := by decide +kernel
theorem dX2_find_22 : decode cX2_find 22 = .ok (.aload_n 0, 1) := by decide +kernel
theorem dX2_find_23 : decode cX2_find 23 = .ok (.getfield 15, 3) := by decide +kernel
theorem dX2_find_26 : decode cX2_find 26 = .ok (.iload_n 1, 1) := by decide +kernel
theorem dX2_find_27 : decode cX2_find 27 = .ok (.iconst 4, 1) := by decide +kernel
theorem dX2_find_28 : decode cX2_find 28 = .ok (.imul, 1) := by decide +kernel
theorem dX2_find_29 : decode cX2_find 29 = .ok (.iload_n 3, 1) := by decide +kernel
theorem dX2_find_30 : decode cX2_find 30 = .ok (.iadd, 1) := by decide +kernel
theorem dX2_find_31 : decode cX2_find 31 = .ok (.iaload, 1) := by decide +kernel
theorem dX2_find_32 : decode cX2_find 32 = .ok (.iload_n 2, 1) := by decide +kernel
theorem dX2_find_33 : decode cX2_find 33 = .ok (.if_icmp .ne 5, 3) := by decide +kernel
theorem dX2_find_36 : decode cX2_find 36 = .ok (.iload_n 3, 1) := by decide +kernel
theorem dX2_find_37 : decode cX2_find 37 = .ok (.ireturn, 1) := by decide +kernel
theorem dX2_find_38 : decode cX2_find 38 = .ok (.iinc 3 1, 3) := by decide +kernel
theorem dX2_find_41 : decode cX2_find 41 = .ok (.goto (-29), 3) := by decide +kernel
theorem dX2_find_44 : decode cX2_find 44 = .ok (.iconst (-1), 1) := by decide +kernel
theorem dX2_find_45 : decode cX2_find 45 = .ok (.ireturn, 1) := by decide +kernel
theorem dX2_candidates_0 : decode cX2_candidates 0 = .ok (.iconst 0, 1) := by decide +kernel
theorem dX2_candidates_1 : decode cX2_candidates 1 = .ok (.istore_n 1, 1) := by decide +kernel
theorem dX2_candidates_2 : decode cX2_candidates 2 = .ok (.iconst 0, 1) := by decide +kernel
theorem dX2_candidates_3 : decode cX2_candidates 3 = .ok (.istore_n 2, 1) := by decide +kernel
theorem dX2_candidates_4 : decode cX2_candidates 4 = .ok (.iload_n 2, 1) := by decide +kernel
theorem dX2_candidates_5 : decode cX2_candidates 5 = .ok (.aload_n 0, 1) := by decide +kernel
theorem dX2_candidates_6 : decode cX2_candidates 6 = .ok (.getfield 41, 3) := by decide +kernel
theorem dX2_candidates_9 : decode cX2_candidates 9 = .ok (.if_icmp .ge 18, 3) := by decide +kernel
theorem dX2_candidates_12 : decode cX2_candidates 12 = .ok (.iload_n 1, 1) := by decide +kernel
theorem dX2_candidates_13 : decode cX2_candidates 13 = .ok (.aload_n 0, 1) := by decide +kernel
theorem dX2_candidates_14 : decode cX2_candidates 14 = .ok (.getfield 9, 3) := by decide +kernel
theorem dX2_candidates_17 : decode cX2_candidates 17 = .ok (.iload_n 2, 1) := by decide +kernel
theorem dX2_candidates_18 : decode cX2_candidates 18 = .ok (.iaload, 1) := by decide +kernel
theorem dX2_candidates_19 : decode cX2_candidates 19 = .ok (.iadd, 1) := by decide +kernel
theorem dX2_candidates_20 : decode cX2_candidates 20 = .ok (.istore_n 1, 1) := by decide +kernel
theorem dX2_candidates_21 : decode cX2_candidates 21 = .ok (.iinc 2 1, 3) := by decide +kernel
theorem dX2_candidates_24 : decode cX2_candidates 24 = .ok (.goto (-20), 3) := by decide +kernel
theorem dX2_candidates_27 : decode cX2_candidates 27 = .ok (.iload_n 1, 1) := by decide +kernel
theorem dX2_candidates_28 : decode cX2_candidates 28 = .ok (.ireturn, 1) := by decide +kernel
theorem dX2_isLastFull_0 : decode cX2_isLastFull 0 = .ok (.aload_n 0, 1) := by decide +kernel
theorem dX2_isLastFull_1 : decode cX2_isLastFull 1 = .ok (.getfield 41, 3) := by decide +kernel
theorem dX2_isLastFull_4 : decode cX2_isLastFull 4 = .ok (.ifCond .le 22, 3) := by decide +kernel
theorem dX2_isLastFull_7 : decode cX2_isLastFull 7 = .ok (.aload_n 0, 1) := by decide +kernel
theorem dX2_isLastFull_8 : decode cX2_isLastFull 8 = .ok (.getfield 9, 3) := by decide +kernel
theorem dX2_isLastFull_11 : decode cX2_isLastFull 11 = .ok (.aload_n 0, 1) := by decide +kernel
theorem dX2_isLastFull_12 : decode cX2_isLastFull 12 = .ok (.getfield 41, 3) := by decide +kernel
theorem dX2_isLastFull_15 : decode cX2_isLastFull 15 = .ok (.iconst 1, 1) := by decide +kernel
theorem dX2_isLastFull_16 : decode cX2_isLastFull 16 = .ok (.isub, 1) := by decide +kernel
theorem dX2_isLastFull_17 : decode cX2_isLastFull 17 = .ok (.iaload, 1) := by decide +kernel
theorem dX2_isLastFull_18 : decode cX2_isLastFull 18 = .ok (.iconst 4, 1) := by decide +kernel
theorem dX2_isLastFull_19 : decode cX2_isLastFull 19 = .ok (.if_icmp .lt 7, 3) := by decide +kernel
theorem dX2_isLastFull_22 : decode cX2_isLastFull 22 = .ok (.iconst 1, 1) := by decide +kernel
theorem dX2_isLastFull_23 : decode cX2_isLastFull 23 = .ok (.goto 4, 3) := by decide +kernel
theorem dX2_isLastFull_26 : decode cX2_isLastFull 26 = .ok (.iconst 0, 1) := by decide +kernel
theorem dX2_isLastFull_27 : decode cX2_isLastFull 27 = .ok (.ireturn, 1) := by decide +kernel
theorem dX2_grow_0 : decode cX2_grow 0 = .ok (.aload_n 0, 1) := by decide +kernel
theorem dX2_grow_1 : decode cX2_grow 1 = .ok (.getfield 41, 3) := by decide +kernel
theorem dX2_grow_4 : decode cX2_grow 4 = .ok (.bipush 8, 2) := by decide +kernel
theorem dX2_grow_6 : decode cX2_grow 6 = .ok (.if_icmp .lt 5, 3) := by decide +kernel
theorem dX2_grow_9 : decode cX2_grow 9 = .ok (.iconst 0, 1) := by decide +kernel
theorem dX2_grow_10 : decode cX2_grow 10 = .ok (.ireturn, 1) := by decide +kernel
theorem dX2_grow_11 : decode cX2_grow 11 = .ok (.aload_n 0, 1) := by decide +kernel
theorem dX2_grow_12 : decode cX2_grow 12 = .ok (.getfield 9, 3) := by decide +kernel
theorem dX2_grow_15 : decode cX2_grow 15 = .ok (.aload_n 0, 1) := by decide +kernel
theorem dX2_grow_16 : decode cX2_grow 16 = .ok (.getfield 41, 3) := by decide +kernel
theorem dX2_grow_19 : decode cX2_grow 19 = .ok (.iconst 0, 1) := by decide +kernel
theorem dX2_grow_20 : decode cX2_grow 20 = .ok (.iastore, 1) := by decide +kernel
theorem dX2_grow_21 : decode cX2_grow 21 = .ok (.aload_n 0, 1) := by decide +kernel
theorem dX2_grow_22 : decode cX2_grow 22 = .ok (.dup, 1) := by decide +kernel
theorem dX2_grow_23 : decode cX2_grow 23 = .ok (.getfield 41, 3) := by decide +kernel
theorem dX2_grow_26 : decode cX2_grow 26 = .ok (.iconst 1, 1) := by decide +kernel
theorem dX2_grow_27 : decode cX2_grow 27 = .ok (.iadd, 1) := by decide +kernel
theorem dX2_grow_28 : decode cX2_grow 28 = .ok (.putfield 41, 3) := by decide +kernel
theorem dX2_grow_31 : decode cX2_grow 31 = .ok (.aload_n 0, 1) := by decide +kernel
theorem dX2_grow_32 : decode cX2_grow 32 = .ok (.aload_n 0, 1) := by decide +kernel
theorem dX2_grow_33 : decode cX2_grow 33 = .ok (.getfield 41, 3) := by decide +kernel
theorem dX2_grow_36 : decode cX2_grow 36 = .ok (.iconst 1, 1) := by decide +kernel
theorem dX2_grow_37 : decode cX2_grow 37 = .ok (.isub, 1) := by decide +kernel
theorem dX2_grow_38 : decode cX2_grow 38 = .ok (.iload_n 1, 1) := by decide +kernel
theorem dX2_grow_39 : decode cX2_grow 39 = .ok (.iload_n 2, 1) := by decide +kernel
theorem dX2_grow_40 : decode cX2_grow 40 = .ok (.invokevirtual 48, 3) := by decide +kernel
theorem dX2_grow_43 : decode cX2_grow 43 = .ok (.ireturn, 1) := by decide +kernel
theorem dX2_widen_0 : decode cX2_widen 0 = .ok (.aload_n 0, 1) := by decide +kernel
theorem dX2_widen_1 : decode cX2_widen 1 = .ok (.iload_n 1, 1) := by decide +kernel
theorem dX2_widen_2 : decode cX2_widen 2 = .ok (.invokevirtual 44, 3) := by decide +kernel
theorem dX2_widen_5 : decode cX2_widen 5 = .ok (.ifCond .eq 13, 3) := by decide +kernel
theorem dX2_widen_8 : decode cX2_widen 8 = .ok (.aload_n 0, 1) := by decide +kernel
theorem dX2_widen_9 : decode cX2_widen 9 = .ok (.getfield 9, 3) := by decide +kernel
theorem dX2_widen_12 : decode cX2_widen 12 = .ok (.iload_n 1, 1) := by decide +kernel
theorem dX2_widen_13 : decode cX2_widen 13 = .ok (.iaload, 1) := by decide +kernel
theorem dX2_widen_14 : decode cX2_widen 14 = .ok (.iconst 4, 1) := by decide +kernel
theorem dX2_widen_15 : decode cX2_widen 15 = .ok (.if_icmp .lt 5, 3) := by decide +kernel
theorem dX2_widen_18 : decode cX2_widen 18 = .ok (.iconst 0, 1) := by decide +kernel
theorem dX2_widen_19 : decode cX2_widen 19 = .ok (.ireturn, 1) := by decide +kernel
theorem dX2_widen_20 : decode cX2_widen 20 = .ok (.iload_n 1, 1) := by decide +kernel
theorem dX2_widen_21 : decode cX2_widen 21 = .ok (.iconst 4, 1) := by decide +kernel
theorem dX2_widen_22 : decode cX2_widen 22 = .ok (.imul, 1) := by decide +kernel
theorem dX2_widen_23 : decode cX2_widen 23 = .ok (.aload_n 0, 1) := by decide +kernel
theorem dX2_widen_24 : decode cX2_widen 24 = .ok (.getfield 9, 3) := by decide +kernel
theorem dX2_widen_27 : decode cX2_widen 27 = .ok (.iload_n 1, 1) := by decide +kernel
theorem dX2_widen_28 : decode cX2_widen 28 = .ok (.iaload, 1) := by decide +kernel
theorem dX2_widen_29 : decode cX2_widen 29 = .ok (.iadd, 1) := by decide +kernel
theorem dX2_widen_30 : decode cX2_widen 30 = .ok (.istore 4, 2) := by decide +kernel
theorem dX2_widen_32 : decode cX2_widen 32 = .ok (.aload_n 0, 1) := by decide +kernel
theorem dX2_widen_33 : decode cX2_widen 33 = .ok (.getfield 15, 3) := by decide +kernel
theorem dX2_widen_36 : decode cX2_widen 36 = .ok (.iload 4, 2) := by decide +kernel
theorem dX2_widen_38 : decode cX2_widen 38 = .ok (.iload_n 2, 1) := by decide +kernel
theorem dX2_widen_39 : decode cX2_widen 39 = .ok (.iastore, 1) := by decide +kernel
theorem dX2_widen_40 : decode cX2_widen 40 = .ok (.aload_n 0, 1) := by decide +kernel
theorem dX2_widen_41 : decode cX2_widen 41 = .ok (.getfield 18, 3) := by decide +kernel
theorem dX2_widen_44 : decode cX2_widen 44 = .ok (.iload 4, 2) := by decide +kernel
theorem dX2_widen_46 : decode cX2_widen 46 = .ok (.iload_n 3, 1) := by decide +kernel
theorem dX2_widen_47 : decode cX2_widen 47 = .ok (.iastore, 1) := by decide +kernel
theorem dX2_widen_48 : decode cX2_widen 48 = .ok (.aload_n 0, 1) := by decide +kernel
theorem dX2_widen_49 : decode cX2_widen 49 = .ok (.getfield 9, 3) := by decide +kernel
theorem dX2_widen_52 : decode cX2_widen 52 = .ok (.iload_n 1, 1) := by decide +kernel
theorem dX2_widen_53 : decode cX2_widen 53 = .ok (.dup2, 1) := by decide +kernel
theorem dX2_widen_54 : decode cX2_widen 54 = .ok (.iaload, 1) := by decide +kernel
theorem dX2_widen_55 : decode cX2_widen 55 = .ok (.iconst 1, 1) := by decide +kernel
theorem dX2_widen_56 : decode cX2_widen 56 = .ok (.iadd, 1) := by decide +kernel
theorem dX2_widen_57 : decode cX2_widen 57 = .ok (.iastore, 1) := by decide +kernel
theorem dX2_widen_58 : decode cX2_widen 58 = .ok (.iconst 1, 1) := by decide +kernel
theorem dX2_widen_59 : decode cX2_widen 59 = .ok (.ireturn, 1) := by decide +kernel
theorem dX2_cut_0 : decode cX2_cut 0 = .ok (.aload_n 0, 1) := by decide +kernel
theorem dX2_cut_1 : decode cX2_cut 1 = .ok (.iload_n 1, 1) := by decide +kernel
theorem dX2_cut_2 : decode cX2_cut 2 = .ok (.invokevirtual 44, 3) := by decide +kernel
theorem dX2_cut_5 : decode cX2_cut 5 = .ok (.ifCond .ne 4, 3) := by decide +kernel
theorem dX2_cut_8 : decode cX2_cut 8 = .ok (.return_, 1) := by decide +kernel
theorem dX2_cut_9 : decode cX2_cut 9 = .ok (.aload_n 0, 1) := by decide +kernel
theorem dX2_cut_10 : decode cX2_cut 10 = .ok (.getfield 41, 3) := by decide +kernel
theorem dX2_cut_13 : decode cX2_cut 13 = .ok (.iconst 1, 1) := by decide +kernel
theorem dX2_cut_14 : decode cX2_cut 14 = .ok (.isub, 1) := by decide +kernel
theorem dX2_cut_15 : decode cX2_cut 15 = .ok (.iload_n 1, 1) := by decide +kernel
theorem dX2_cut_16 : decode cX2_cut 16 = .ok (.isub, 1) := by decide +kernel
theorem dX2_cut_17 : decode cX2_cut 17 = .ok (.istore_n 2, 1) := by decide +kernel
theorem dX2_cut_18 : decode cX2_cut 18 = .ok (.iload_n 1, 1) := by decide +kernel
theorem dX2_cut_19 : decode cX2_cut 19 = .ok (.iconst 4, 1) := by decide +kernel
theorem dX2_cut_20 : decode cX2_cut 20 = .ok (.imul, 1) := by decide +kernel
theorem dX2_cut_21 : decode cX2_cut 21 = .ok (.istore_n 3, 1) := by decide +kernel
theorem dX2_cut_22 : decode cX2_cut 22 = .ok (.aload_n 0, 1) := by decide +kernel
theorem dX2_cut_23 : decode cX2_cut 23 = .ok (.getfield 9, 3) := by decide +kernel
theorem dX2_cut_26 : decode cX2_cut 26 = .ok (.iload_n 1, 1) := by decide +kernel
theorem dX2_cut_27 : decode cX2_cut 27 = .ok (.iconst 1, 1) := by decide +kernel
theorem dX2_cut_28 : decode cX2_cut 28 = .ok (.iadd, 1) := by decide +kernel
theorem dX2_cut_29 : decode cX2_cut 29 = .ok (.aload_n 0, 1) := by decide +kernel
theorem dX2_cut_30 : decode cX2_cut 30 = .ok (.getfield 9, 3) := by decide +kernel
theorem dX2_cut_33 : decode cX2_cut 33 = .ok (.iload_n 1, 1) := by decide +kernel
theorem dX2_cut_34 : decode cX2_cut 34 = .ok (.iload_n 2, 1) := by decide +kernel
theorem dX2_cut_35 : decode cX2_cut 35 = .ok (.invokestatic 35, 3) := by decide +kernel
theorem dX2_cut_38 : decode cX2_cut 38 = .ok (.aload_n 0, 1) := by decide +kernel
theorem dX2_cut_39 : decode cX2_cut 39 = .ok (.getfield 15, 3) := by decide +kernel
theorem dX2_cut_42 : decode cX2_cut 42 = .ok (.iload_n 3, 1) := by decide +kernel
theorem dX2_cut_43 : decode cX2_cut 43 = .ok (.iconst 4, 1) := by decide +kernel
theorem dX2_cut_44 : decode cX2_cut 44 = .ok (.iadd, 1) := by decide +kernel
theorem dX2_cut_45 : decode cX2_cut 45 = .ok (.aload_n 0, 1) := by decide +kernel
theorem dX2_cut_46 : decode cX2_cut 46 = .ok (.getfield 15, 3) := by decide +kernel
theorem dX2_cut_49 : decode cX2_cut 49 = .ok (.iload_n 3, 1) := by decide +kernel
theorem dX2_cut_50 : decode cX2_cut 50 = .ok (.iload_n 2, 1) := by decide +kernel
theorem dX2_cut_51 : decode cX2_cut 51 = .ok (.iconst 4, 1) := by decide +kernel
theorem dX2_cut_52 : decode cX2_cut 52 = .ok (.imul, 1) := by decide +kernel
theorem dX2_cut_53 : decode cX2_cut 53 = .ok (.invokestatic 35, 3) := by decide +kernel
theorem dX2_cut_56 : decode cX2_cut 56 = .ok (.aload_n 0, 1) := by decide +kernel
theorem dX2_cut_57 : decode cX2_cut 57 = .ok (.getfield 18, 3) := by decide +kernel
theorem dX2_cut_60 : decode cX2_cut 60 = .ok (.iload_n 3, 1) := by decide +kernel
theorem dX2_cut_61 : decode cX2_cut 61 = .ok (.iconst 4, 1) := by decide +kernel
theorem dX2_cut_62 : decode cX2_cut 62 = .ok (.iadd, 1) := by decide +kernel
theorem dX2_cut_63 : decode cX2_cut 63 = .ok (.aload_n 0, 1) := by decide +kernel
theorem dX2_cut_64 : decode cX2_cut 64 = .ok (.getfield 18, 3) := by decide +kernel
theorem dX2_cut_67 : decode cX2_cut 67 = .ok (.iload_n 3, 1) := by decide +kernel
theorem dX2_cut_68 : decode cX2_cut 68 = .ok (.iload_n 2, 1) := by decide +kernel
theorem dX2_cut_69 : decode cX2_cut 69 = .ok (.iconst 4, 1) := by decide +kernel
theorem dX2_cut_70 : decode cX2_cut 70 = .ok (.imul, 1) := by decide +kernel
theorem dX2_cut_71 : decode cX2_cut 71 = .ok (.invokestatic 35, 3) := by decide +kernel
theorem dX2_cut_74 : decode cX2_cut 74 = .ok (.aload_n 0, 1) := by decide +kernel
theorem dX2_cut_75 : decode cX2_cut 75 = .ok (.dup, 1) := by decide +kernel
theorem dX2_cut_76 : decode cX2_cut 76 = .ok (.getfield 41, 3) := by decide +kernel
theorem dX2_cut_79 : decode cX2_cut 79 = .ok (.iconst 1, 1) := by decide +kernel
theorem dX2_cut_80 : decode cX2_cut 80 = .ok (.isub, 1) := by decide +kernel
theorem dX2_cut_81 : decode cX2_cut 81 = .ok (.putfield 41, 3) := by decide +kernel
theorem dX2_cut_84 : decode cX2_cut 84 = .ok (.return_, 1) := by decide +kernel
theorem dX2_narrowTo_0 : decode cX2_narrowTo 0 = .ok (.aload_n 0, 1) := by decide +kernel
theorem dX2_narrowTo_1 : decode cX2_narrowTo 1 = .ok (.iload_n 1, 1) := by decide +kernel
theorem dX2_narrowTo_2 : decode cX2_narrowTo 2 = .ok (.invokevirtual 44, 3) := by decide +kernel
theorem dX2_narrowTo_5 : decode cX2_narrowTo 5 = .ok (.ifCond .eq 17, 3) := by decide +kernel
theorem dX2_narrowTo_8 : decode cX2_narrowTo 8 = .ok (.iload_n 2, 1) := by decide +kernel
theorem dX2_narrowTo_9 : decode cX2_narrowTo 9 = .ok (.ifCond .lt 13, 3) := by decide +kernel
theorem dX2_narrowTo_12 : decode cX2_narrowTo 12 = .ok (.iload_n 2, 1) := by decide +kernel
theorem dX2_narrowTo_13 : decode cX2_narrowTo 13 = .ok (.aload_n 0, 1) := by decide +kernel
theorem dX2_narrowTo_14 : decode cX2_narrowTo 14 = .ok (.getfield 9, 3) := by decide +kernel
theorem dX2_narrowTo_17 : decode cX2_narrowTo 17 = .ok (.iload_n 1, 1) := by decide +kernel
theorem dX2_narrowTo_18 : decode cX2_narrowTo 18 = .ok (.iaload, 1) := by decide +kernel
theorem dX2_narrowTo_19 : decode cX2_narrowTo 19 = .ok (.if_icmp .lt 4, 3) := by decide +kernel
theorem dX2_narrowTo_22 : decode cX2_narrowTo 22 = .ok (.return_, 1) := by decide +kernel
theorem dX2_narrowTo_23 : decode cX2_narrowTo 23 = .ok (.iload_n 1, 1) := by decide +kernel
theorem dX2_narrowTo_24 : decode cX2_narrowTo 24 = .ok (.iconst 4, 1) := by decide +kernel
theorem dX2_narrowTo_25 : decode cX2_narrowTo 25 = .ok (.imul, 1) := by decide +kernel
theorem dX2_narrowTo_26 : decode cX2_narrowTo 26 = .ok (.istore_n 3, 1) := by decide +kernel
theorem dX2_narrowTo_27 : decode cX2_narrowTo 27 = .ok (.aload_n 0, 1) := by decide +kernel
theorem dX2_narrowTo_28 : decode cX2_narrowTo 28 = .ok (.getfield 15, 3) := by decide +kernel
theorem dX2_narrowTo_31 : decode cX2_narrowTo 31 = .ok (.iload_n 3, 1) := by decide +kernel
theorem dX2_narrowTo_32 : decode cX2_narrowTo 32 = .ok (.aload_n 0, 1) := by decide +kernel
theorem dX2_narrowTo_33 : decode cX2_narrowTo 33 = .ok (.getfield 15, 3) := by decide +kernel
theorem dX2_narrowTo_36 : decode cX2_narrowTo 36 = .ok (.iload_n 3, 1) := by decide +kernel
theorem dX2_narrowTo_37 : decode cX2_narrowTo 37 = .ok (.iload_n 2, 1) := by decide +kernel
theorem dX2_narrowTo_38 : decode cX2_narrowTo 38 = .ok (.iadd, 1) := by decide +kernel
theorem dX2_narrowTo_39 : decode cX2_narrowTo 39 = .ok (.iaload, 1) := by decide +kernel
theorem dX2_narrowTo_40 : decode cX2_narrowTo 40 = .ok (.iastore, 1) := by decide +kernel
theorem dX2_narrowTo_41 : decode cX2_narrowTo 41 = .ok (.aload_n 0, 1) := by decide +kernel
theorem dX2_narrowTo_42 : decode cX2_narrowTo 42 = .ok (.getfield 18, 3) := by decide +kernel
theorem dX2_narrowTo_45 : decode cX2_narrowTo 45 = .ok (.iload_n 3, 1) := by decide +kernel
theorem dX2_narrowTo_46 : decode cX2_narrowTo 46 = .ok (.aload_n 0, 1) := by decide +kernel
theorem dX2_narrowTo_47 : decode cX2_narrowTo 47 = .ok (.getfield 18, 3) := by decide +kernel
theorem dX2_narrowTo_50 : decode cX2_narrowTo 50 = .ok (.iload_n 3, 1) := by decide +kernel
theorem dX2_narrowTo_51 : decode cX2_narrowTo 51 = .ok (.iload_n 2, 1) := by decide +kernel
theorem dX2_narrowTo_52 : decode cX2_narrowTo 52 = .ok (.iadd, 1) := by decide +kernel
theorem dX2_narrowTo_53 : decode cX2_narrowTo 53 = .ok (.iaload, 1) := by decide +kernel
theorem dX2_narrowTo_54 : decode cX2_narrowTo 54 = .ok (.iastore, 1) := by decide +kernel
theorem dX2_narrowTo_55 : decode cX2_narrowTo 55 = .ok (.aload_n 0, 1) := by decide +kernel
theorem dX2_narrowTo_56 : decode cX2_narrowTo 56 = .ok (.getfield 9, 3) := by decide +kernel
theorem dX2_narrowTo_59 : decode cX2_narrowTo 59 = .ok (.iload_n 1, 1) := by decide +kernel
theorem dX2_narrowTo_60 : decode cX2_narrowTo 60 = .ok (.iconst 1, 1) := by decide +kernel
theorem dX2_narrowTo_61 : decode cX2_narrowTo 61 = .ok (.iastore, 1) := by decide +kernel
theorem dX2_narrowTo_62 : decode cX2_narrowTo 62 = .ok (.return_, 1) := by decide +kernel
theorem dX2_turn_0 : decode cX2_turn 0 = .ok (.aload_n 0, 1) := by decide +kernel
theorem dX2_turn_1 : decode cX2_turn 1 = .ok (.aload_n 0, 1) := by decide +kernel
theorem dX2_turn_2 : decode cX2_turn 2 = .ok (.getfield 21, 3) := by decide +kernel
theorem dX2_turn_5 : decode cX2_turn 5 = .ok (.ldc 52, 2) := by decide +kernel
theorem dX2_turn_7 : decode cX2_turn 7 = .ok (.imul, 1) := by decide +kernel
theorem dX2_turn_8 : decode cX2_turn 8 = .ok (.sipush 12345, 3) := by decide +kernel
theorem dX2_turn_11 : decode cX2_turn 11 = .ok (.iadd, 1) := by decide +kernel
theorem dX2_turn_12 : decode cX2_turn 12 = .ok (.ldc 53, 2) := by decide +kernel
theorem dX2_turn_14 : decode cX2_turn 14 = .ok (.iand, 1) := by decide +kernel
theorem dX2_turn_15 : decode cX2_turn 15 = .ok (.putfield 21, 3) := by decide +kernel
theorem dX2_turn_18 : decode cX2_turn 18 = .ok (.aload_n 0, 1) := by decide +kernel
theorem dX2_turn_19 : decode cX2_turn 19 = .ok (.getfield 41, 3) := by decide +kernel
theorem dX2_turn_22 : decode cX2_turn 22 = .ok (.ifCond .ne 4, 3) := by decide +kernel
theorem dX2_turn_25 : decode cX2_turn 25 = .ok (.return_, 1) := by decide +kernel
theorem dX2_turn_26 : decode cX2_turn 26 = .ok (.aload_n 0, 1) := by decide +kernel
theorem dX2_turn_27 : decode cX2_turn 27 = .ok (.getfield 21, 3) := by decide +kernel
theorem dX2_turn_30 : decode cX2_turn 30 = .ok (.ldc 54, 2) := by decide +kernel
theorem dX2_turn_32 : decode cX2_turn 32 = .ok (.idiv, 1) := by decide +kernel
theorem dX2_turn_33 : decode cX2_turn 33 = .ok (.istore_n 1, 1) := by decide +kernel
theorem dX2_turn_34 : decode cX2_turn 34 = .ok (.iload_n 1, 1) := by decide +kernel
theorem dX2_turn_35 : decode cX2_turn 35 = .ok (.aload_n 0, 1) := by decide +kernel
theorem dX2_turn_36 : decode cX2_turn 36 = .ok (.getfield 41, 3) := by decide +kernel
theorem dX2_turn_39 : decode cX2_turn 39 = .ok (.irem, 1) := by decide +kernel
theorem dX2_turn_40 : decode cX2_turn 40 = .ok (.istore_n 2, 1) := by decide +kernel
theorem dX2_turn_41 : decode cX2_turn 41 = .ok (.iload_n 1, 1) := by decide +kernel
theorem dX2_turn_42 : decode cX2_turn 42 = .ok (.bipush 8, 2) := by decide +kernel
theorem dX2_turn_44 : decode cX2_turn 44 = .ok (.idiv, 1) := by decide +kernel
theorem dX2_turn_45 : decode cX2_turn 45 = .ok (.bipush 32, 2) := by decide +kernel
theorem dX2_turn_47 : decode cX2_turn 47 = .ok (.irem, 1) := by decide +kernel
theorem dX2_turn_48 : decode cX2_turn 48 = .ok (.istore_n 3, 1) := by decide +kernel
theorem dX2_turn_49 : decode cX2_turn 49 = .ok (.aload_n 0, 1) := by decide +kernel
theorem dX2_turn_50 : decode cX2_turn 50 = .ok (.iload_n 2, 1) := by decide +kernel
theorem dX2_turn_51 : decode cX2_turn 51 = .ok (.iload_n 3, 1) := by decide +kernel
theorem dX2_turn_52 : decode cX2_turn 52 = .ok (.invokevirtual 55, 3) := by decide +kernel
theorem dX2_turn_55 : decode cX2_turn 55 = .ok (.ifCond .ge 18, 3) := by decide +kernel
theorem dX2_turn_58 : decode cX2_turn 58 = .ok (.aload_n 0, 1) := by decide +kernel
theorem dX2_turn_59 : decode cX2_turn 59 = .ok (.iload_n 2, 1) := by decide +kernel
theorem dX2_turn_60 : decode cX2_turn 60 = .ok (.iload_n 3, 1) := by decide +kernel
theorem dX2_turn_61 : decode cX2_turn 61 = .ok (.iload_n 1, 1) := by decide +kernel
theorem dX2_turn_62 : decode cX2_turn 62 = .ok (.sipush 256, 3) := by decide +kernel
theorem dX2_turn_65 : decode cX2_turn 65 = .ok (.idiv, 1) := by decide +kernel
theorem dX2_turn_66 : decode cX2_turn 66 = .ok (.bipush 10, 2) := by decide +kernel
theorem dX2_turn_68 : decode cX2_turn 68 = .ok (.irem, 1) := by decide +kernel
theorem dX2_turn_69 : decode cX2_turn 69 = .ok (.invokevirtual 48, 3) := by decide +kernel
theorem dX2_turn_72 : decode cX2_turn 72 = .ok (.pop, 1) := by decide +kernel
theorem dX2_turn_73 : decode cX2_turn 73 = .ok (.return_, 1) := by decide +kernel
theorem dX2_spell_0 : decode cX2_spell 0 = .ok (.aload_n 0, 1) := by decide +kernel
theorem dX2_spell_1 : decode cX2_spell 1 = .ok (.iconst 0, 1) := by decide +kernel
theorem dX2_spell_2 : decode cX2_spell 2 = .ok (.putfield 41, 3) := by decide +kernel
theorem dX2_spell_5 : decode cX2_spell 5 = .ok (.iload_n 1, 1) := by decide +kernel
theorem dX2_spell_6 : decode cX2_spell 6 = .ok (.sipush 1000, 3) := by decide +kernel
theorem dX2_spell_9 : decode cX2_spell 9 = .ok (.if_icmp .lt 27, 3) := by decide +kernel
theorem dX2_spell_12 : decode cX2_spell 12 = .ok (.aload_n 0, 1) := by decide +kernel
theorem dX2_spell_13 : decode cX2_spell 13 = .ok (.iload_n 1, 1) := by decide +kernel
theorem dX2_spell_14 : decode cX2_spell 14 = .ok (.sipush 1000, 3) := by decide +kernel
theorem dX2_spell_17 : decode cX2_spell 17 = .ok (.idiv, 1) := by decide +kernel
theorem dX2_spell_18 : decode cX2_spell 18 = .ok (.invokevirtual 59, 3) := by decide +kernel
theorem dX2_spell_21 : decode cX2_spell 21 = .ok (.ifCond .eq 13, 3) := by decide +kernel
theorem dX2_spell_24 : decode cX2_spell 24 = .ok (.aload_n 0, 1) := by decide +kernel
theorem dX2_spell_25 : decode cX2_spell 25 = .ok (.bipush 29, 2) := by decide +kernel
theorem dX2_spell_27 : decode cX2_spell 27 = .ok (.iconst 0, 1) := by decide +kernel
theorem dX2_spell_28 : decode cX2_spell 28 = .ok (.invokevirtual 62, 3) := by decide +kernel
theorem dX2_spell_31 : decode cX2_spell 31 = .ok (.ifCond .ne 5, 3) := by decide +kernel
theorem dX2_spell_34 : decode cX2_spell 34 = .ok (.iconst 0, 1) := by decide +kernel
theorem dX2_spell_35 : decode cX2_spell 35 = .ok (.ireturn, 1) := by decide +kernel
theorem dX2_spell_36 : decode cX2_spell 36 = .ok (.aload_n 0, 1) := by decide +kernel
theorem dX2_spell_37 : decode cX2_spell 37 = .ok (.iload_n 1, 1) := by decide +kernel
theorem dX2_spell_38 : decode cX2_spell 38 = .ok (.sipush 1000, 3) := by decide +kernel
theorem dX2_spell_41 : decode cX2_spell 41 = .ok (.irem, 1) := by decide +kernel
theorem dX2_spell_42 : decode cX2_spell 42 = .ok (.invokevirtual 59, 3) := by decide +kernel
theorem dX2_spell_45 : decode cX2_spell 45 = .ok (.ireturn, 1) := by decide +kernel
theorem dX2_spellSmall_0 : decode cX2_spellSmall 0 = .ok (.iload_n 1, 1) := by decide +kernel
theorem dX2_spellSmall_1 : decode cX2_spellSmall 1 = .ok (.bipush 100, 2) := by decide +kernel
theorem dX2_spellSmall_3 : decode cX2_spellSmall 3 = .ok (.if_icmp .lt 27, 3) := by decide +kernel
theorem dX2_spellSmall_6 : decode cX2_spellSmall 6 = .ok (.aload_n 0, 1) := by decide +kernel
theorem dX2_spellSmall_7 : decode cX2_spellSmall 7 = .ok (.iload_n 1, 1) := by decide +kernel
theorem dX2_spellSmall_8 : decode cX2_spellSmall 8 = .ok (.bipush 100, 2) := by decide +kernel
theorem dX2_spellSmall_10 : decode cX2_spellSmall 10 = .ok (.idiv, 1) := by decide +kernel
theorem dX2_spellSmall_11 : decode cX2_spellSmall 11 = .ok (.iconst 0, 1) := by decide +kernel
theorem dX2_spellSmall_12 : decode cX2_spellSmall 12 = .ok (.invokevirtual 62, 3) := by decide +kernel
theorem dX2_spellSmall_15 : decode cX2_spellSmall 15 = .ok (.ifCond .eq 13, 3) := by decide +kernel
theorem dX2_spellSmall_18 : decode cX2_spellSmall 18 = .ok (.aload_n 0, 1) := by decide +kernel
theorem dX2_spellSmall_19 : decode cX2_spellSmall 19 = .ok (.bipush 28, 2) := by decide +kernel
theorem dX2_spellSmall_21 : decode cX2_spellSmall 21 = .ok (.iconst 0, 1) := by decide +kernel
theorem dX2_spellSmall_22 : decode cX2_spellSmall 22 = .ok (.invokevirtual 62, 3) := by decide +kernel
theorem dX2_spellSmall_25 : decode cX2_spellSmall 25 = .ok (.ifCond .ne 5, 3) := by decide +kernel
theorem dX2_spellSmall_28 : decode cX2_spellSmall 28 = .ok (.iconst 0, 1) := by decide +kernel
theorem dX2_spellSmall_29 : decode cX2_spellSmall 29 = .ok (.ireturn, 1) := by decide +kernel
theorem dX2_spellSmall_30 : decode cX2_spellSmall 30 = .ok (.iload_n 1, 1) := by decide +kernel
theorem dX2_spellSmall_31 : decode cX2_spellSmall 31 = .ok (.bipush 100, 2) := by decide +kernel
theorem dX2_spellSmall_33 : decode cX2_spellSmall 33 = .ok (.irem, 1) := by decide +kernel
theorem dX2_spellSmall_34 : decode cX2_spellSmall 34 = .ok (.istore_n 2, 1) := by decide +kernel
theorem dX2_spellSmall_35 : decode cX2_spellSmall 35 = .ok (.iload_n 2, 1) := by decide +kernel
theorem dX2_spellSmall_36 : decode cX2_spellSmall 36 = .ok (.bipush 20, 2) := by decide +kernel
theorem dX2_spellSmall_38 : decode cX2_spellSmall 38 = .ok (.if_icmp .lt 40, 3) := by decide +kernel
theorem dX2_spellSmall_41 : decode cX2_spellSmall 41 = .ok (.aload_n 0, 1) := by decide +kernel
theorem dX2_spellSmall_42 : decode cX2_spellSmall 42 = .ok (.iload_n 2, 1) := by decide +kernel
theorem dX2_spellSmall_43 : decode cX2_spellSmall 43 = .ok (.invokestatic 66, 3) := by decide +kernel
theorem dX2_spellSmall_46 : decode cX2_spellSmall 46 = .ok (.iconst 0, 1) := by decide +kernel
theorem dX2_spellSmall_47 : decode cX2_spellSmall 47 = .ok (.invokevirtual 62, 3) := by decide +kernel
theorem dX2_spellSmall_50 : decode cX2_spellSmall 50 = .ok (.ifCond .eq 26, 3) := by decide +kernel
theorem dX2_spellSmall_53 : decode cX2_spellSmall 53 = .ok (.iload_n 2, 1) := by decide +kernel
theorem dX2_spellSmall_54 : decode cX2_spellSmall 54 = .ok (.bipush 10, 2) := by decide +kernel
theorem dX2_spellSmall_56 : decode cX2_spellSmall 56 = .ok (.irem, 1) := by decide +kernel
theorem dX2_spellSmall_57 : decode cX2_spellSmall 57 = .ok (.ifCond .eq 15, 3) := by decide +kernel
theorem dX2_spellSmall_60 : decode cX2_spellSmall 60 = .ok (.aload_n 0, 1) := by decide +kernel
theorem dX2_spellSmall_61 : decode cX2_spellSmall 61 = .ok (.iload_n 2, 1) := by decide +kernel
theorem dX2_spellSmall_62 : decode cX2_spellSmall 62 = .ok (.bipush 10, 2) := by decide +kernel
theorem dX2_spellSmall_64 : decode cX2_spellSmall 64 = .ok (.irem, 1) := by decide +kernel
theorem dX2_spellSmall_65 : decode cX2_spellSmall 65 = .ok (.iconst 0, 1) := by decide +kernel
theorem dX2_spellSmall_66 : decode cX2_spellSmall 66 = .ok (.invokevirtual 62, 3) := by decide +kernel
theorem dX2_spellSmall_69 : decode cX2_spellSmall 69 = .ok (.ifCond .eq 7, 3) := by decide +kernel
theorem dX2_spellSmall_72 : decode cX2_spellSmall 72 = .ok (.iconst 1, 1) := by decide +kernel
theorem dX2_spellSmall_73 : decode cX2_spellSmall 73 = .ok (.goto 4, 3) := by decide +kernel
theorem dX2_spellSmall_76 : decode cX2_spellSmall 76 = .ok (.iconst 0, 1) := by decide +kernel
theorem dX2_spellSmall_77 : decode cX2_spellSmall 77 = .ok (.ireturn, 1) := by decide +kernel
theorem dX2_spellSmall_78 : decode cX2_spellSmall 78 = .ok (.iload_n 2, 1) := by decide +kernel
theorem dX2_spellSmall_79 : decode cX2_spellSmall 79 = .ok (.ifCond .eq 12, 3) := by decide +kernel
theorem dX2_spellSmall_82 : decode cX2_spellSmall 82 = .ok (.aload_n 0, 1) := by decide +kernel
theorem dX2_spellSmall_83 : decode cX2_spellSmall 83 = .ok (.iload_n 2, 1) := by decide +kernel
theorem dX2_spellSmall_84 : decode cX2_spellSmall 84 = .ok (.iconst 0, 1) := by decide +kernel
theorem dX2_spellSmall_85 : decode cX2_spellSmall 85 = .ok (.invokevirtual 62, 3) := by decide +kernel
theorem dX2_spellSmall_88 : decode cX2_spellSmall 88 = .ok (.ifCond .eq 7, 3) := by decide +kernel
theorem dX2_spellSmall_91 : decode cX2_spellSmall 91 = .ok (.iconst 1, 1) := by decide +kernel
theorem dX2_spellSmall_92 : decode cX2_spellSmall 92 = .ok (.goto 4, 3) := by decide +kernel
theorem dX2_spellSmall_95 : decode cX2_spellSmall 95 = .ok (.iconst 0, 1) := by decide +kernel
theorem dX2_spellSmall_96 : decode cX2_spellSmall 96 = .ok (.ireturn, 1) := by decide +kernel
theorem dX3_init_0 : decode cX3_init 0 = .ok (.aload_n 0, 1) := by decide +kernel
theorem dX3_init_1 : decode cX3_init 1 = .ok (.invokespecial 3, 3) := by decide +kernel
theorem dX3_init_4 : decode cX3_init 4 = .ok (.aload_n 0, 1) := by decide +kernel
theorem dX3_init_5 : decode cX3_init 5 = .ok (.bipush 8, 2) := by decide +kernel
theorem dX3_init_7 : decode cX3_init 7 = .ok (.anewarray 9, 3) := by decide +kernel
theorem dX3_init_10 : decode cX3_init 10 = .ok (.putfield 11, 3) := by decide +kernel
theorem dX3_init_13 : decode cX3_init 13 = .ok (.iconst 0, 1) := by decide +kernel
theorem dX3_init_14 : decode cX3_init 14 = .ok (.istore_n 1, 1) := by decide +kernel
theorem dX3_init_15 : decode cX3_init 15 = .ok (.iload_n 1, 1) := by decide +kernel
theorem dX3_init_16 : decode cX3_init 16 = .ok (.bipush 8, 2) := by decide +kernel
theorem dX3_init_18 : decode cX3_init 18 = .ok (.if_icmp .ge 22, 3) := by decide +kernel
theorem dX3_init_21 : decode cX3_init 21 = .ok (.aload_n 0, 1) := by decide +kernel
theorem dX3_init_22 : decode cX3_init 22 = .ok (.getfield 11, 3) := by decide +kernel
theorem dX3_init_25 : decode cX3_init 25 = .ok (.iload_n 1, 1) := by decide +kernel
theorem dX3_init_26 : decode cX3_init 26 = .ok (.new 9, 3) := by decide +kernel
theorem dX3_init_29 : decode cX3_init 29 = .ok (.dup, 1) := by decide +kernel
theorem dX3_init_30 : decode cX3_init 30 = .ok (.invokespecial 17, 3) := by decide +kernel
theorem dX3_init_33 : decode cX3_init 33 = .ok (.aastore, 1) := by decide +kernel
theorem dX3_init_34 : decode cX3_init 34 = .ok (.iinc 1 1, 3) := by decide +kernel
theorem dX3_init_37 : decode cX3_init 37 = .ok (.goto (-22), 3) := by decide +kernel
theorem dX3_init_40 : decode cX3_init 40 = .ok (.return_, 1) := by decide +kernel
theorem dX3_keep_0 : decode cX3_keep 0 = .ok (.aload_n 0, 1) := by decide +kernel
theorem dX3_keep_1 : decode cX3_keep 1 = .ok (.getfield 18, 3) := by decide +kernel
theorem dX3_keep_4 : decode cX3_keep 4 = .ok (.bipush 8, 2) := by decide +kernel
theorem dX3_keep_6 : decode cX3_keep 6 = .ok (.if_icmp .ne 26, 3) := by decide +kernel
theorem dX3_keep_9 : decode cX3_keep 9 = .ok (.aload_n 0, 1) := by decide +kernel
theorem dX3_keep_10 : decode cX3_keep 10 = .ok (.aload_n 0, 1) := by decide +kernel
theorem dX3_keep_11 : decode cX3_keep 11 = .ok (.getfield 22, 3) := by decide +kernel
theorem dX3_keep_14 : decode cX3_keep 14 = .ok (.iconst 1, 1) := by decide +kernel
theorem dX3_keep_15 : decode cX3_keep 15 = .ok (.iadd, 1) := by decide +kernel
theorem dX3_keep_16 : decode cX3_keep 16 = .ok (.bipush 8, 2) := by decide +kernel
theorem dX3_keep_18 : decode cX3_keep 18 = .ok (.irem, 1) := by decide +kernel
theorem dX3_keep_19 : decode cX3_keep 19 = .ok (.putfield 22, 3) := by decide +kernel
theorem dX3_keep_22 : decode cX3_keep 22 = .ok (.aload_n 0, 1) := by decide +kernel
theorem dX3_keep_23 : decode cX3_keep 23 = .ok (.dup, 1) := by decide +kernel
theorem dX3_keep_24 : decode cX3_keep 24 = .ok (.getfield 18, 3) := by decide +kernel
theorem dX3_keep_27 : decode cX3_keep 27 = .ok (.iconst 1, 1) := by decide +kernel
theorem dX3_keep_28 : decode cX3_keep 28 = .ok (.isub, 1) := by decide +kernel
theorem dX3_keep_29 : decode cX3_keep 29 = .ok (.putfield 18, 3) := by decide +kernel
theorem dX3_keep_32 : decode cX3_keep 32 = .ok (.aload_n 0, 1) := by decide +kernel
theorem dX3_keep_33 : decode cX3_keep 33 = .ok (.getfield 11, 3) := by decide +kernel
theorem dX3_keep_36 : decode cX3_keep 36 = .ok (.aload_n 0, 1) := by decide +kernel
theorem dX3_keep_37 : decode cX3_keep 37 = .ok (.getfield 22, 3) := by decide +kernel
theorem dX3_keep_40 : decode cX3_keep 40 = .ok (.aload_n 0, 1) := by decide +kernel
theorem dX3_keep_41 : decode cX3_keep 41 = .ok (.getfield 18, 3) := by decide +kernel
theorem dX3_keep_44 : decode cX3_keep 44 = .ok (.iadd, 1) := by decide +kernel
theorem dX3_keep_45 : decode cX3_keep 45 = .ok (.bipush 8, 2) := by decide +kernel
theorem dX3_keep_47 : decode cX3_keep 47 = .ok (.irem, 1) := by decide +kernel
theorem dX3_keep_48 : decode cX3_keep 48 = .ok (.aaload, 1) := by decide +kernel
theorem dX3_keep_49 : decode cX3_keep 49 = .ok (.aload_n 1, 1) := by decide +kernel
theorem dX3_keep_50 : decode cX3_keep 50 = .ok (.invokevirtual 25, 3) := by decide +kernel
theorem dX3_keep_53 : decode cX3_keep 53 = .ok (.aload_n 0, 1) := by decide +kernel
theorem dX3_keep_54 : decode cX3_keep 54 = .ok (.dup, 1) := by decide +kernel
theorem dX3_keep_55 : decode cX3_keep 55 = .ok (.getfield 18, 3) := by decide +kernel
theorem dX3_keep_58 : decode cX3_keep 58 = .ok (.iconst 1, 1) := by decide +kernel
theorem dX3_keep_59 : decode cX3_keep 59 = .ok (.iadd, 1) := by decide +kernel
theorem dX3_keep_60 : decode cX3_keep 60 = .ok (.putfield 18, 3) := by decide +kernel
theorem dX3_keep_63 : decode cX3_keep 63 = .ok (.return_, 1) := by decide +kernel
theorem dX3_giveBack_0 : decode cX3_giveBack 0 = .ok (.aload_n 0, 1) := by decide +kernel
theorem dX3_giveBack_1 : decode cX3_giveBack 1 = .ok (.getfield 18, 3) := by decide +kernel
theorem dX3_giveBack_4 : decode cX3_giveBack 4 = .ok (.ifCond .le 34, 3) := by decide +kernel
theorem dX3_giveBack_7 : decode cX3_giveBack 7 = .ok (.aload_n 0, 1) := by decide +kernel
theorem dX3_giveBack_8 : decode cX3_giveBack 8 = .ok (.dup, 1) := by decide +kernel
theorem dX3_giveBack_9 : decode cX3_giveBack 9 = .ok (.getfield 18, 3) := by decide +kernel
theorem dX3_giveBack_12 : decode cX3_giveBack 12 = .ok (.iconst 1, 1) := by decide +kernel
theorem dX3_giveBack_13 : decode cX3_giveBack 13 = .ok (.isub, 1) := by decide +kernel
theorem dX3_giveBack_14 : decode cX3_giveBack 14 = .ok (.putfield 18, 3) := by decide +kernel
theorem dX3_giveBack_17 : decode cX3_giveBack 17 = .ok (.aload_n 1, 1) := by decide +kernel
theorem dX3_giveBack_18 : decode cX3_giveBack 18 = .ok (.aload_n 0, 1) := by decide +kernel
theorem dX3_giveBack_19 : decode cX3_giveBack 19 = .ok (.getfield 11, 3) := by decide +kernel
theorem dX3_giveBack_22 : decode cX3_giveBack 22 = .ok (.aload_n 0, 1) := by decide +kernel
theorem dX3_giveBack_23 : decode cX3_giveBack 23 = .ok (.getfield 22, 3) := by decide +kernel
theorem dX3_giveBack_26 : decode cX3_giveBack 26 = .ok (.aload_n 0, 1) := by decide +kernel
theorem dX3_giveBack_27 : decode cX3_giveBack 27 = .ok (.getfield 18, 3) := by decide +kernel
theorem dX3_giveBack_30 : decode cX3_giveBack 30 = .ok (.iadd, 1) := by decide +kernel
theorem dX3_giveBack_31 : decode cX3_giveBack 31 = .ok (.bipush 8, 2) := by decide +kernel
theorem dX3_giveBack_33 : decode cX3_giveBack 33 = .ok (.irem, 1) := by decide +kernel
theorem dX3_giveBack_34 : decode cX3_giveBack 34 = .ok (.aaload, 1) := by decide +kernel
theorem dX3_giveBack_35 : decode cX3_giveBack 35 = .ok (.invokevirtual 25, 3) := by decide +kernel
theorem dX3_giveBack_38 : decode cX3_giveBack 38 = .ok (.return_, 1) := by decide +kernel
theorem dX3_take_0 : decode cX3_take 0 = .ok (.iconst 0, 1) := by decide +kernel
theorem dX3_take_1 : decode cX3_take 1 = .ok (.istore_n 2, 1) := by decide +kernel
theorem dX3_take_2 : decode cX3_take 2 = .ok (.iload_n 2, 1) := by decide +kernel
theorem dX3_take_3 : decode cX3_take 3 = .ok (.bipush 8, 2) := by decide +kernel
theorem dX3_take_5 : decode cX3_take 5 = .ok (.if_icmp .ge 24, 3) := by decide +kernel
theorem dX3_take_8 : decode cX3_take 8 = .ok (.aload_n 0, 1) := by decide +kernel
theorem dX3_take_9 : decode cX3_take 9 = .ok (.getfield 11, 3) := by decide +kernel
theorem dX3_take_12 : decode cX3_take 12 = .ok (.iload_n 2, 1) := by decide +kernel
theorem dX3_take_13 : decode cX3_take 13 = .ok (.aaload, 1) := by decide +kernel
theorem dX3_take_14 : decode cX3_take 14 = .ok (.aload_n 1, 1) := by decide +kernel
theorem dX3_take_15 : decode cX3_take 15 = .ok (.getfield 11, 3) := by decide +kernel
theorem dX3_take_18 : decode cX3_take 18 = .ok (.iload_n 2, 1) := by decide +kernel
theorem dX3_take_19 : decode cX3_take 19 = .ok (.aaload, 1) := by decide +kernel
theorem dX3_take_20 : decode cX3_take 20 = .ok (.invokevirtual 25, 3) := by decide +kernel
theorem dX3_take_23 : decode cX3_take 23 = .ok (.iinc 2 1, 3) := by decide +kernel
theorem dX3_take_26 : decode cX3_take 26 = .ok (.goto (-24), 3) := by decide +kernel
theorem dX3_take_29 : decode cX3_take 29 = .ok (.aload_n 0, 1) := by decide +kernel
theorem dX3_take_30 : decode cX3_take 30 = .ok (.aload_n 1, 1) := by decide +kernel
theorem dX3_take_31 : decode cX3_take 31 = .ok (.getfield 22, 3) := by decide +kernel
theorem dX3_take_34 : decode cX3_take 34 = .ok (.putfield 22, 3) := by decide +kernel
theorem dX3_take_37 : decode cX3_take 37 = .ok (.aload_n 0, 1) := by decide +kernel
theorem dX3_take_38 : decode cX3_take 38 = .ok (.aload_n 1, 1) := by decide +kernel
theorem dX3_take_39 : decode cX3_take 39 = .ok (.getfield 18, 3) := by decide +kernel
theorem dX3_take_42 : decode cX3_take 42 = .ok (.putfield 18, 3) := by decide +kernel
theorem dX3_take_45 : decode cX3_take 45 = .ok (.return_, 1) := by decide +kernel
theorem dX4_init_0 : decode cX4_init 0 = .ok (.aload_n 0, 1) := by decide +kernel
theorem dX4_init_1 : decode cX4_init 1 = .ok (.invokespecial 3, 3) := by decide +kernel
theorem dX4_init_4 : decode cX4_init 4 = .ok (.aload_n 0, 1) := by decide +kernel
theorem dX4_init_5 : decode cX4_init 5 = .ok (.bipush 120, 2) := by decide +kernel
theorem dX4_init_7 : decode cX4_init 7 = .ok (.newarray .char, 2) := by decide +kernel
theorem dX4_init_9 : decode cX4_init 9 = .ok (.putfield 9, 3) := by decide +kernel
theorem dX4_init_12 : decode cX4_init 12 = .ok (.return_, 1) := by decide +kernel
theorem dX4_write_0 : decode cX4_write 0 = .ok (.aload_n 0, 1) := by decide +kernel
theorem dX4_write_1 : decode cX4_write 1 = .ok (.getfield 15, 3) := by decide +kernel
theorem dX4_write_4 : decode cX4_write 4 = .ok (.bipush 120, 2) := by decide +kernel
theorem dX4_write_6 : decode cX4_write 6 = .ok (.if_icmp .lt 5, 3) := by decide +kernel
theorem dX4_write_9 : decode cX4_write 9 = .ok (.iconst 0, 1) := by decide +kernel
theorem dX4_write_10 : decode cX4_write 10 = .ok (.ireturn, 1) := by decide +kernel
theorem dX4_write_11 : decode cX4_write 11 = .ok (.aload_n 0, 1) := by decide +kernel
theorem dX4_write_12 : decode cX4_write 12 = .ok (.getfield 9, 3) := by decide +kernel
theorem dX4_write_15 : decode cX4_write 15 = .ok (.aload_n 0, 1) := by decide +kernel
theorem dX4_write_16 : decode cX4_write 16 = .ok (.getfield 15, 3) := by decide +kernel
theorem dX4_write_19 : decode cX4_write 19 = .ok (.iload_n 1, 1) := by decide +kernel
theorem dX4_write_20 : decode cX4_write 20 = .ok (.castore, 1) := by decide +kernel
theorem dX4_write_21 : decode cX4_write 21 = .ok (.aload_n 0, 1) := by decide +kernel
theorem dX4_write_22 : decode cX4_write 22 = .ok (.dup, 1) := by decide +kernel
theorem dX4_write_23 : decode cX4_write 23 = .ok (.getfield 15, 3) := by decide +kernel
theorem dX4_write_26 : decode cX4_write 26 = .ok (.iconst 1, 1) := by decide +kernel
theorem dX4_write_27 : decode cX4_write 27 = .ok (.iadd, 1) := by decide +kernel
theorem dX4_write_28 : decode cX4_write 28 = .ok (.putfield 15, 3) := by decide +kernel
theorem dX4_write_31 : decode cX4_write 31 = .ok (.iconst 1, 1) := by decide +kernel
theorem dX4_write_32 : decode cX4_write 32 = .ok (.ireturn, 1) := by decide +kernel
theorem dX4_read_0 : decode cX4_read 0 = .ok (.aload_n 1, 1) := by decide +kernel
theorem dX4_read_1 : decode cX4_read 1 = .ok (.iconst 0, 1) := by decide +kernel
theorem dX4_read_2 : decode cX4_read 2 = .ok (.putfield 19, 3) := by decide +kernel
theorem dX4_read_5 : decode cX4_read 5 = .ok (.aload_n 0, 1) := by decide +kernel
theorem dX4_read_6 : decode cX4_read 6 = .ok (.iconst 0, 1) := by decide +kernel
theorem dX4_read_7 : decode cX4_read 7 = .ok (.putfield 24, 3) := by decide +kernel
theorem dX4_read_10 : decode cX4_read 10 = .ok (.aload_n 0, 1) := by decide +kernel
theorem dX4_read_11 : decode cX4_read 11 = .ok (.invokevirtual 27, 3) := by decide +kernel
theorem dX4_read_14 : decode cX4_read 14 = .ok (.ifCond .eq 5, 3) := by decide +kernel
theorem dX4_read_17 : decode cX4_read 17 = .ok (.iconst (-1), 1) := by decide +kernel
theorem dX4_read_18 : decode cX4_read 18 = .ok (.ireturn, 1) := by decide +kernel
theorem dX4_read_19 : decode cX4_read 19 = .ok (.iconst 1, 1) := by decide +kernel
theorem dX4_read_20 : decode cX4_read 20 = .ok (.istore_n 2, 1) := by decide +kernel
theorem dX4_read_21 : decode cX4_read 21 = .ok (.bipush 32, 2) := by decide +kernel
theorem dX4_read_23 : decode cX4_read 23 = .ok (.istore_n 3, 1) := by decide +kernel
theorem dX4_read_24 : decode cX4_read 24 = .ok (.iload_n 3, 1) := by decide +kernel
theorem dX4_read_25 : decode cX4_read 25 = .ok (.ifCond .le 105, 3) := by decide +kernel
theorem dX4_read_28 : decode cX4_read 28 = .ok (.aload_n 0, 1) := by decide +kernel
theorem dX4_read_29 : decode cX4_read 29 = .ok (.aload_n 1, 1) := by decide +kernel
theorem dX4_read_30 : decode cX4_read 30 = .ok (.iload_n 2, 1) := by decide +kernel
theorem dX4_read_31 : decode cX4_read 31 = .ok (.invokevirtual 31, 3) := by decide +kernel
theorem dX4_read_34 : decode cX4_read 34 = .ok (.istore 4, 2) := by decide +kernel
theorem dX4_read_36 : decode cX4_read 36 = .ok (.iload 4, 2) := by decide +kernel
theorem dX4_read_38 : decode cX4_read 38 = .ok (.iconst (-1), 1) := by decide +kernel
theorem dX4_read_39 : decode cX4_read 39 = .ok (.if_icmp .ne 10, 3) := by decide +kernel
theorem dX4_read_42 : decode cX4_read 42 = .ok (.aload_n 0, 1) := by decide +kernel
theorem dX4_read_43 : decode cX4_read 43 = .ok (.invokevirtual 27, 3) := by decide +kernel
theorem dX4_read_46 : decode cX4_read 46 = .ok (.ifCond .eq 6, 3) := by decide +kernel
theorem dX4_read_49 : decode cX4_read 49 = .ok (.iload 4, 2) := by decide +kernel
theorem dX4_read_51 : decode cX4_read 51 = .ok (.ireturn, 1) := by decide +kernel
theorem dX4_read_52 : decode cX4_read 52 = .ok (.aload_n 0, 1) := by decide +kernel
theorem dX4_read_53 : decode cX4_read 53 = .ok (.getfield 9, 3) := by decide +kernel
theorem dX4_read_56 : decode cX4_read 56 = .ok (.aload_n 0, 1) := by decide +kernel
theorem dX4_read_57 : decode cX4_read 57 = .ok (.getfield 24, 3) := by decide +kernel
theorem dX4_read_60 : decode cX4_read 60 = .ok (.caload, 1) := by decide +kernel
theorem dX4_read_61 : decode cX4_read 61 = .ok (.bipush 59, 2) := by decide +kernel
theorem dX4_read_63 : decode cX4_read 63 = .ok (.if_icmp .ne 7, 3) := by decide +kernel
theorem dX4_read_66 : decode cX4_read 66 = .ok (.iconst 1, 1) := by decide +kernel
theorem dX4_read_67 : decode cX4_read 67 = .ok (.goto 4, 3) := by decide +kernel
theorem dX4_read_70 : decode cX4_read 70 = .ok (.iconst 0, 1) := by decide +kernel
theorem dX4_read_71 : decode cX4_read 71 = .ok (.istore_n 2, 1) := by decide +kernel
theorem dX4_read_72 : decode cX4_read 72 = .ok (.iload_n 2, 1) := by decide +kernel
theorem dX4_read_73 : decode cX4_read 73 = .ok (.ifCond .eq 15, 3) := by decide +kernel
theorem dX4_read_76 : decode cX4_read 76 = .ok (.aload_n 1, 1) := by decide +kernel
theorem dX4_read_77 : decode cX4_read 77 = .ok (.getfield 19, 3) := by decide +kernel
theorem dX4_read_80 : decode cX4_read 80 = .ok (.bipush 8, 2) := by decide +kernel
theorem dX4_read_82 : decode cX4_read 82 = .ok (.if_icmp .lt 32, 3) := by decide +kernel
theorem dX4_read_85 : decode cX4_read 85 = .ok (.goto 24, 3) := by decide +kernel
theorem dX4_read_88 : decode cX4_read 88 = .ok (.aload_n 0, 1) := by decide +kernel
theorem dX4_read_89 : decode cX4_read 89 = .ok (.getfield 9, 3) := by decide +kernel
theorem dX4_read_92 : decode cX4_read 92 = .ok (.aload_n 0, 1) := by decide +kernel
theorem dX4_read_93 : decode cX4_read 93 = .ok (.getfield 24, 3) := by decide +kernel
theorem dX4_read_96 : decode cX4_read 96 = .ok (.caload, 1) := by decide +kernel
theorem dX4_read_97 : decode cX4_read 97 = .ok (.bipush 44, 2) := by decide +kernel
theorem dX4_read_99 : decode cX4_read 99 = .ok (.if_icmp .ne 10, 3) := by decide +kernel
theorem dX4_read_102 : decode cX4_read 102 = .ok (.aload_n 1, 1) := by decide +kernel
theorem dX4_read_103 : decode cX4_read 103 = .ok (.invokevirtual 35, 3) := by decide +kernel
theorem dX4_read_106 : decode cX4_read 106 = .ok (.ifCond .eq 8, 3) := by decide +kernel
theorem dX4_read_109 : decode cX4_read 109 = .ok (.aload_n 0, 1) := by decide +kernel
theorem dX4_read_110 : decode cX4_read 110 = .ok (.getfield 24, 3) := by decide +kernel
theorem dX4_read_113 : decode cX4_read 113 = .ok (.ireturn, 1) := by decide +kernel
theorem dX4_read_114 : decode cX4_read 114 = .ok (.aload_n 0, 1) := by decide +kernel
theorem dX4_read_115 : decode cX4_read 115 = .ok (.dup, 1) := by decide +kernel
theorem dX4_read_116 : decode cX4_read 116 = .ok (.getfield 24, 3) := by decide +kernel
theorem dX4_read_119 : decode cX4_read 119 = .ok (.iconst 1, 1) := by decide +kernel
theorem dX4_read_120 : decode cX4_read 120 = .ok (.iadd, 1) := by decide +kernel
theorem dX4_read_121 : decode cX4_read 121 = .ok (.putfield 24, 3) := by decide +kernel
theorem dX4_read_124 : decode cX4_read 124 = .ok (.iinc 3 (-1), 3) := by decide +kernel
theorem dX4_read_127 : decode cX4_read 127 = .ok (.goto (-103), 3) := by decide +kernel
theorem dX4_read_130 : decode cX4_read 130 = .ok (.aload_n 0, 1) := by decide +kernel
theorem dX4_read_131 : decode cX4_read 131 = .ok (.getfield 24, 3) := by decide +kernel
theorem dX4_read_134 : decode cX4_read 134 = .ok (.ireturn, 1) := by decide +kernel
theorem dX4_readCandidate_0 : decode cX4_readCandidate 0 = .ok (.aload_n 0, 1) := by decide +kernel
theorem dX4_readCandidate_1 : decode cX4_readCandidate 1 = .ok (.invokevirtual 27, 3) := by decide +kernel
theorem dX4_readCandidate_4 : decode cX4_readCandidate 4 = .ok (.ifCond .eq 8, 3) := by decide +kernel
theorem dX4_readCandidate_7 : decode cX4_readCandidate 7 = .ok (.aload_n 0, 1) := by decide +kernel
theorem dX4_readCandidate_8 : decode cX4_readCandidate 8 = .ok (.getfield 15, 3) := by decide +kernel
theorem dX4_readCandidate_11 : decode cX4_readCandidate 11 = .ok (.ireturn, 1) := by decide +kernel
theorem dX4_readCandidate_12 : decode cX4_readCandidate 12 = .ok (.aload_n 0, 1) := by decide +kernel
theorem dX4_readCandidate_13 : decode cX4_readCandidate 13 = .ok (.getfield 24, 3) := by decide +kernel
theorem dX4_readCandidate_16 : decode cX4_readCandidate 16 = .ok (.istore_n 3, 1) := by decide +kernel
theorem dX4_readCandidate_17 : decode cX4_readCandidate 17 = .ok (.aload_n 0, 1) := by decide +kernel
theorem dX4_readCandidate_18 : decode cX4_readCandidate 18 = .ok (.getfield 9, 3) := by decide +kernel
theorem dX4_readCandidate_21 : decode cX4_readCandidate 21 = .ok (.aload_n 0, 1) := by decide +kernel
theorem dX4_readCandidate_22 : decode cX4_readCandidate 22 = .ok (.getfield 24, 3) := by decide +kernel
theorem dX4_readCandidate_25 : decode cX4_readCandidate 25 = .ok (.caload, 1) := by decide +kernel
theorem dX4_readCandidate_26 : decode cX4_readCandidate 26 = .ok (.istore 4, 2) := by decide +kernel
theorem dX4_readCandidate_28 : decode cX4_readCandidate 28 = .ok (.aload_n 0, 1) := by decide +kernel
theorem dX4_readCandidate_29 : decode cX4_readCandidate 29 = .ok (.dup, 1) := by decide +kernel
theorem dX4_readCandidate_30 : decode cX4_readCandidate 30 = .ok (.getfield 24, 3) := by decide +kernel
theorem dX4_readCandidate_33 : decode cX4_readCandidate 33 = .ok (.iconst 1, 1) := by decide +kernel
theorem dX4_readCandidate_34 : decode cX4_readCandidate 34 = .ok (.iadd, 1) := by decide +kernel
theorem dX4_readCandidate_35 : decode cX4_readCandidate 35 = .ok (.putfield 24, 3) := by decide +kernel
theorem dX4_readCandidate_38 : decode cX4_readCandidate 38 = .ok (.iload 4, 2) := by decide +kernel
theorem dX4_readCandidate_40 : decode cX4_readCandidate 40 = .ok (.invokestatic 38, 3) := by decide +kernel
theorem dX4_readCandidate_43 : decode cX4_readCandidate 43 = .ok (.ifCond .eq 18, 3) := by decide +kernel
theorem dX4_readCandidate_46 : decode cX4_readCandidate 46 = .ok (.aload_n 0, 1) := by decide +kernel
theorem dX4_readCandidate_47 : decode cX4_readCandidate 47 = .ok (.iload 4, 2) := by decide +kernel
theorem dX4_readCandidate_49 : decode cX4_readCandidate 49 = .ok (.bipush 48, 2) := by decide +kernel
theorem dX4_readCandidate_51 : decode cX4_readCandidate 51 = .ok (.isub, 1) := by decide +kernel
theorem dX4_readCandidate_52 : decode cX4_readCandidate 52 = .ok (.invokevirtual 42, 3) := by decide +kernel
theorem dX4_readCandidate_55 : decode cX4_readCandidate 55 = .ok (.invokestatic 46, 3) := by decide +kernel
theorem dX4_readCandidate_58 : decode cX4_readCandidate 58 = .ok (.goto 8, 3) := by decide +kernel
theorem dX4_readCandidate_61 : decode cX4_readCandidate 61 = .ok (.iload 4, 2) := by decide +kernel
theorem dX4_readCandidate_63 : decode cX4_readCandidate 63 = .ok (.invokestatic 49, 3) := by decide +kernel
theorem dX4_readCandidate_66 : decode cX4_readCandidate 66 = .ok (.istore 5, 2) := by decide +kernel
theorem dX4_readCandidate_68 : decode cX4_readCandidate 68 = .ok (.iload 5, 2) := by decide +kernel
theorem dX4_readCandidate_70 : decode cX4_readCandidate 70 = .ok (.ifCond .lt 22, 3) := by decide +kernel
theorem dX4_readCandidate_73 : decode cX4_readCandidate 73 = .ok (.iload_n 2, 1) := by decide +kernel
theorem dX4_readCandidate_74 : decode cX4_readCandidate 74 = .ok (.ifCond .ne 20, 3) := by decide +kernel
theorem dX4_readCandidate_77 : decode cX4_readCandidate 77 = .ok (.aload_n 1, 1) := by decide +kernel
theorem dX4_readCandidate_78 : decode cX4_readCandidate 78 = .ok (.aload_n 1, 1) := by decide +kernel
theorem dX4_readCandidate_79 : decode cX4_readCandidate 79 = .ok (.getfield 19, 3) := by decide +kernel
theorem dX4_readCandidate_82 : decode cX4_readCandidate 82 = .ok (.iconst 1, 1) := by decide +kernel
theorem dX4_readCandidate_83 : decode cX4_readCandidate 83 = .ok (.isub, 1) := by decide +kernel
theorem dX4_readCandidate_84 : decode cX4_readCandidate 84 = .ok (.iload 5, 2) := by decide +kernel
theorem dX4_readCandidate_86 : decode cX4_readCandidate 86 = .ok (.invokevirtual 52, 3) := by decide +kernel
theorem dX4_readCandidate_89 : decode cX4_readCandidate 89 = .ok (.ifCond .lt 5, 3) := by decide +kernel
theorem dX4_readCandidate_92 : decode cX4_readCandidate 92 = .ok (.iload_n 3, 1) := by decide +kernel
theorem dX4_readCandidate_93 : decode cX4_readCandidate 93 = .ok (.ireturn, 1) := by decide +kernel
theorem dX4_readCandidate_94 : decode cX4_readCandidate 94 = .ok (.iconst 0, 1) := by decide +kernel
theorem dX4_readCandidate_95 : decode cX4_readCandidate 95 = .ok (.istore 6, 2) := by decide +kernel
theorem dX4_readCandidate_97 : decode cX4_readCandidate 97 = .ok (.aload_n 0, 1) := by decide +kernel
theorem dX4_readCandidate_98 : decode cX4_readCandidate 98 = .ok (.invokevirtual 27, 3) := by decide +kernel
theorem dX4_readCandidate_101 : decode cX4_readCandidate 101 = .ok (.ifCond .ne 78, 3) := by decide +kernel
theorem dX4_readCandidate_104 : decode cX4_readCandidate 104 = .ok (.aload_n 0, 1) := by decide +kernel
theorem dX4_readCandidate_105 : decode cX4_readCandidate 105 = .ok (.getfield 9, 3) := by decide +kernel
theorem dX4_readCandidate_108 : decode cX4_readCandidate 108 = .ok (.aload_n 0, 1) := by decide +kernel
theorem dX4_readCandidate_109 : decode cX4_readCandidate 109 = .ok (.getfield 24, 3) := by decide +kernel
theorem dX4_readCandidate_112 : decode cX4_readCandidate 112 = .ok (.caload, 1) := by decide +kernel
theorem dX4_readCandidate_113 : decode cX4_readCandidate 113 = .ok (.bipush 58, 2) := by decide +kernel
theorem dX4_readCandidate_115 : decode cX4_readCandidate 115 = .ok (.if_icmp .ne 64, 3) := by decide +kernel
theorem dX4_readCandidate_118 : decode cX4_readCandidate 118 = .ok (.aload_n 0, 1) := by decide +kernel
theorem dX4_readCandidate_119 : decode cX4_readCandidate 119 = .ok (.dup, 1) := by decide +kernel
theorem dX4_readCandidate_120 : decode cX4_readCandidate 120 = .ok (.getfield 24, 3) := by decide +kernel
theorem dX4_readCandidate_123 : decode cX4_readCandidate 123 = .ok (.iconst 1, 1) := by decide +kernel
theorem dX4_readCandidate_124 : decode cX4_readCandidate 124 = .ok (.iadd, 1) := by decide +kernel
theorem dX4_readCandidate_125 : decode cX4_readCandidate 125 = .ok (.putfield 24, 3) := by decide +kernel
theorem dX4_readCandidate_128 : decode cX4_readCandidate 128 = .ok (.aload_n 0, 1) := by decide +kernel
theorem dX4_readCandidate_129 : decode cX4_readCandidate 129 = .ok (.invokevirtual 27, 3) := by decide +kernel
theorem dX4_readCandidate_132 : decode cX4_readCandidate 132 = .ok (.ifCond .ne 18, 3) := by decide +kernel
theorem dX4_readCandidate_135 : decode cX4_readCandidate 135 = .ok (.aload_n 0, 1) := by decide +kernel
theorem dX4_readCandidate_136 : decode cX4_readCandidate 136 = .ok (.getfield 9, 3) := by decide +kernel
theorem dX4_readCandidate_139 : decode cX4_readCandidate 139 = .ok (.aload_n 0, 1) := by decide +kernel
theorem dX4_readCandidate_140 : decode cX4_readCandidate 140 = .ok (.getfield 24, 3) := by decide +kernel
theorem dX4_readCandidate_143 : decode cX4_readCandidate 143 = .ok (.caload, 1) := by decide +kernel
theorem dX4_readCandidate_144 : decode cX4_readCandidate 144 = .ok (.invokestatic 38, 3) := by decide +kernel
theorem dX4_readCandidate_147 : decode cX4_readCandidate 147 = .ok (.ifCond .ne 8, 3) := by decide +kernel
theorem dX4_readCandidate_150 : decode cX4_readCandidate 150 = .ok (.aload_n 0, 1) := by decide +kernel
theorem dX4_readCandidate_151 : decode cX4_readCandidate 151 = .ok (.getfield 24, 3) := by decide +kernel
theorem dX4_readCandidate_154 : decode cX4_readCandidate 154 = .ok (.ireturn, 1) := by decide +kernel
theorem dX4_readCandidate_155 : decode cX4_readCandidate 155 = .ok (.aload_n 0, 1) := by decide +kernel
theorem dX4_readCandidate_156 : decode cX4_readCandidate 156 = .ok (.getfield 9, 3) := by decide +kernel
theorem dX4_readCandidate_159 : decode cX4_readCandidate 159 = .ok (.aload_n 0, 1) := by decide +kernel
theorem dX4_readCandidate_160 : decode cX4_readCandidate 160 = .ok (.getfield 24, 3) := by decide +kernel
theorem dX4_readCandidate_163 : decode cX4_readCandidate 163 = .ok (.caload, 1) := by decide +kernel
theorem dX4_readCandidate_164 : decode cX4_readCandidate 164 = .ok (.bipush 48, 2) := by decide +kernel
theorem dX4_readCandidate_166 : decode cX4_readCandidate 166 = .ok (.isub, 1) := by decide +kernel
theorem dX4_readCandidate_167 : decode cX4_readCandidate 167 = .ok (.istore 6, 2) := by decide +kernel
theorem dX4_readCandidate_169 : decode cX4_readCandidate 169 = .ok (.aload_n 0, 1) := by decide +kernel
theorem dX4_readCandidate_170 : decode cX4_readCandidate 170 = .ok (.dup, 1) := by decide +kernel
theorem dX4_readCandidate_171 : decode cX4_readCandidate 171 = .ok (.getfield 24, 3) := by decide +kernel
theorem dX4_readCandidate_174 : decode cX4_readCandidate 174 = .ok (.iconst 1, 1) := by decide +kernel
theorem dX4_readCandidate_175 : decode cX4_readCandidate 175 = .ok (.iadd, 1) := by decide +kernel
theorem dX4_readCandidate_176 : decode cX4_readCandidate 176 = .ok (.putfield 24, 3) := by decide +kernel
theorem dX4_readCandidate_179 : decode cX4_readCandidate 179 = .ok (.iload_n 2, 1) := by decide +kernel
theorem dX4_readCandidate_180 : decode cX4_readCandidate 180 = .ok (.ifCond .eq 15, 3) := by decide +kernel
theorem dX4_readCandidate_183 : decode cX4_readCandidate 183 = .ok (.aload_n 1, 1) := by decide +kernel
theorem dX4_readCandidate_184 : decode cX4_readCandidate 184 = .ok (.iload 5, 2) := by decide +kernel
theorem dX4_readCandidate_186 : decode cX4_readCandidate 186 = .ok (.iload 6, 2) := by decide +kernel
theorem dX4_readCandidate_188 : decode cX4_readCandidate 188 = .ok (.invokevirtual 56, 3) := by decide +kernel
theorem dX4_readCandidate_191 : decode cX4_readCandidate 191 = .ok (.pop, 1) := by decide +kernel
theorem dX4_readCandidate_192 : decode cX4_readCandidate 192 = .ok (.goto 18, 3) := by decide +kernel
theorem dX4_readCandidate_195 : decode cX4_readCandidate 195 = .ok (.aload_n 1, 1) := by decide +kernel
theorem dX4_readCandidate_196 : decode cX4_readCandidate 196 = .ok (.aload_n 1, 1) := by decide +kernel
theorem dX4_readCandidate_197 : decode cX4_readCandidate 197 = .ok (.getfield 19, 3) := by decide +kernel
theorem dX4_readCandidate_200 : decode cX4_readCandidate 200 = .ok (.iconst 1, 1) := by decide +kernel
theorem dX4_readCandidate_201 : decode cX4_readCandidate 201 = .ok (.isub, 1) := by decide +kernel
theorem dX4_readCandidate_202 : decode cX4_readCandidate 202 = .ok (.iload 5, 2) := by decide +kernel
theorem dX4_readCandidate_204 : decode cX4_readCandidate 204 = .ok (.iload 6, 2) := by decide +kernel
theorem dX4_readCandidate_206 : decode cX4_readCandidate 206 = .ok (.invokevirtual 60, 3) := by decide +kernel
theorem dX4_readCandidate_209 : decode cX4_readCandidate 209 = .ok (.pop, 1) := by decide +kernel
theorem dX4_readCandidate_210 : decode cX4_readCandidate 210 = .ok (.iconst (-1), 1) := by decide +kernel
theorem dX4_readCandidate_211 : decode cX4_readCandidate 211 = .ok (.ireturn, 1) := by decide +kernel
theorem dX4_valueFrom_0 : decode cX4_valueFrom 0 = .ok (.aload_n 0, 1) := by decide +kernel
theorem dX4_valueFrom_1 : decode cX4_valueFrom 1 = .ok (.getfield 24, 3) := by decide +kernel
theorem dX4_valueFrom_4 : decode cX4_valueFrom 4 = .ok (.aload_n 0, 1) := by decide +kernel
theorem dX4_valueFrom_5 : decode cX4_valueFrom 5 = .ok (.getfield 15, 3) := by decide +kernel
theorem dX4_valueFrom_8 : decode cX4_valueFrom 8 = .ok (.if_icmp .ge 18, 3) := by decide +kernel
theorem dX4_valueFrom_11 : decode cX4_valueFrom 11 = .ok (.aload_n 0, 1) := by decide +kernel
theorem dX4_valueFrom_12 : decode cX4_valueFrom 12 = .ok (.getfield 9, 3) := by decide +kernel
theorem dX4_valueFrom_15 : decode cX4_valueFrom 15 = .ok (.aload_n 0, 1) := by decide +kernel
theorem dX4_valueFrom_16 : decode cX4_valueFrom 16 = .ok (.getfield 24, 3) := by decide +kernel
theorem dX4_valueFrom_19 : decode cX4_valueFrom 19 = .ok (.caload, 1) := by decide +kernel
theorem dX4_valueFrom_20 : decode cX4_valueFrom 20 = .ok (.invokestatic 38, 3) := by decide +kernel
theorem dX4_valueFrom_23 : decode cX4_valueFrom 23 = .ok (.ifCond .ne 5, 3) := by decide +kernel
theorem dX4_valueFrom_26 : decode cX4_valueFrom 26 = .ok (.iload_n 1, 1) := by decide +kernel
theorem dX4_valueFrom_27 : decode cX4_valueFrom 27 = .ok (.ireturn, 1) := by decide +kernel
theorem dX4_valueFrom_28 : decode cX4_valueFrom 28 = .ok (.iload_n 1, 1) := by decide +kernel
theorem dX4_valueFrom_29 : decode cX4_valueFrom 29 = .ok (.bipush 10, 2) := by decide +kernel
theorem dX4_valueFrom_31 : decode cX4_valueFrom 31 = .ok (.imul, 1) := by decide +kernel
theorem dX4_valueFrom_32 : decode cX4_valueFrom 32 = .ok (.aload_n 0, 1) := by decide +kernel
theorem dX4_valueFrom_33 : decode cX4_valueFrom 33 = .ok (.getfield 9, 3) := by decide +kernel
theorem dX4_valueFrom_36 : decode cX4_valueFrom 36 = .ok (.aload_n 0, 1) := by decide +kernel
theorem dX4_valueFrom_37 : decode cX4_valueFrom 37 = .ok (.getfield 24, 3) := by decide +kernel
theorem dX4_valueFrom_40 : decode cX4_valueFrom 40 = .ok (.caload, 1) := by decide +kernel
theorem dX4_valueFrom_41 : decode cX4_valueFrom 41 = .ok (.iadd, 1) := by decide +kernel
theorem dX4_valueFrom_42 : decode cX4_valueFrom 42 = .ok (.bipush 48, 2) := by decide +kernel
theorem dX4_valueFrom_44 : decode cX4_valueFrom 44 = .ok (.isub, 1) := by decide +kernel
theorem dX4_valueFrom_45 : decode cX4_valueFrom 45 = .ok (.istore_n 2, 1) := by decide +kernel
theorem dX4_valueFrom_46 : decode cX4_valueFrom 46 = .ok (.aload_n 0, 1) := by decide +kernel
theorem dX4_valueFrom_47 : decode cX4_valueFrom 47 = .ok (.dup, 1) := by decide +kernel
theorem dX4_valueFrom_48 : decode cX4_valueFrom 48 = .ok (.getfield 24, 3) := by decide +kernel
theorem dX4_valueFrom_51 : decode cX4_valueFrom 51 = .ok (.iconst 1, 1) := by decide +kernel
theorem dX4_valueFrom_52 : decode cX4_valueFrom 52 = .ok (.iadd, 1) := by decide +kernel
theorem dX4_valueFrom_53 : decode cX4_valueFrom 53 = .ok (.putfield 24, 3) := by decide +kernel
theorem dX4_valueFrom_56 : decode cX4_valueFrom 56 = .ok (.iload_n 2, 1) := by decide +kernel
theorem dX4_valueFrom_57 : decode cX4_valueFrom 57 = .ok (.ireturn, 1) := by decide +kernel
theorem dX4_isAtEnd_0 : decode cX4_isAtEnd 0 = .ok (.aload_n 0, 1) := by decide +kernel
theorem dX4_isAtEnd_1 : decode cX4_isAtEnd 1 = .ok (.getfield 24, 3) := by decide +kernel
theorem dX4_isAtEnd_4 : decode cX4_isAtEnd 4 = .ok (.aload_n 0, 1) := by decide +kernel
theorem dX4_isAtEnd_5 : decode cX4_isAtEnd 5 = .ok (.getfield 15, 3) := by decide +kernel
theorem dX4_isAtEnd_8 : decode cX4_isAtEnd 8 = .ok (.if_icmp .ge 30, 3) := by decide +kernel
theorem dX4_isAtEnd_11 : decode cX4_isAtEnd 11 = .ok (.aload_n 0, 1) := by decide +kernel
theorem dX4_isAtEnd_12 : decode cX4_isAtEnd 12 = .ok (.getfield 9, 3) := by decide +kernel
theorem dX4_isAtEnd_15 : decode cX4_isAtEnd 15 = .ok (.aload_n 0, 1) := by decide +kernel
theorem dX4_isAtEnd_16 : decode cX4_isAtEnd 16 = .ok (.getfield 24, 3) := by decide +kernel
theorem dX4_isAtEnd_19 : decode cX4_isAtEnd 19 = .ok (.caload, 1) := by decide +kernel
theorem dX4_isAtEnd_20 : decode cX4_isAtEnd 20 = .ok (.bipush 32, 2) := by decide +kernel
theorem dX4_isAtEnd_22 : decode cX4_isAtEnd 22 = .ok (.if_icmp .ne 16, 3) := by decide +kernel
theorem dX4_isAtEnd_25 : decode cX4_isAtEnd 25 = .ok (.aload_n 0, 1) := by decide +kernel
theorem dX4_isAtEnd_26 : decode cX4_isAtEnd 26 = .ok (.dup, 1) := by decide +kernel
theorem dX4_isAtEnd_27 : decode cX4_isAtEnd 27 = .ok (.getfield 24, 3) := by decide +kernel
theorem dX4_isAtEnd_30 : decode cX4_isAtEnd 30 = .ok (.iconst 1, 1) := by decide +kernel
theorem dX4_isAtEnd_31 : decode cX4_isAtEnd 31 = .ok (.iadd, 1) := by decide +kernel
theorem dX4_isAtEnd_32 : decode cX4_isAtEnd 32 = .ok (.putfield 24, 3) := by decide +kernel
theorem dX4_isAtEnd_35 : decode cX4_isAtEnd 35 = .ok (.goto (-35), 3) := by decide +kernel
theorem dX4_isAtEnd_38 : decode cX4_isAtEnd 38 = .ok (.aload_n 0, 1) := by decide +kernel
theorem dX4_isAtEnd_39 : decode cX4_isAtEnd 39 = .ok (.getfield 24, 3) := by decide +kernel
theorem dX4_isAtEnd_42 : decode cX4_isAtEnd 42 = .ok (.aload_n 0, 1) := by decide +kernel
theorem dX4_isAtEnd_43 : decode cX4_isAtEnd 43 = .ok (.getfield 15, 3) := by decide +kernel
theorem dX4_isAtEnd_46 : decode cX4_isAtEnd 46 = .ok (.if_icmp .lt 7, 3) := by decide +kernel
theorem dX4_isAtEnd_49 : decode cX4_isAtEnd 49 = .ok (.iconst 1, 1) := by decide +kernel
theorem dX4_isAtEnd_50 : decode cX4_isAtEnd 50 = .ok (.goto 4, 3) := by decide +kernel
theorem dX4_isAtEnd_53 : decode cX4_isAtEnd 53 = .ok (.iconst 0, 1) := by decide +kernel
theorem dX4_isAtEnd_54 : decode cX4_isAtEnd 54 = .ok (.ireturn, 1) := by decide +kernel
theorem dX4_isDigit_0 : decode cX4_isDigit 0 = .ok (.iload_n 0, 1) := by decide +kernel
theorem dX4_isDigit_1 : decode cX4_isDigit 1 = .ok (.bipush 48, 2) := by decide +kernel
theorem dX4_isDigit_3 : decode cX4_isDigit 3 = .ok (.if_icmp .lt 13, 3) := by decide +kernel
theorem dX4_isDigit_6 : decode cX4_isDigit 6 = .ok (.iload_n 0, 1) := by decide +kernel
theorem dX4_isDigit_7 : decode cX4_isDigit 7 = .ok (.bipush 57, 2) := by decide +kernel
theorem dX4_isDigit_9 : decode cX4_isDigit 9 = .ok (.if_icmp .gt 7, 3) := by decide +kernel
theorem dX4_isDigit_12 : decode cX4_isDigit 12 = .ok (.iconst 1, 1) := by decide +kernel
theorem dX4_isDigit_13 : decode cX4_isDigit 13 = .ok (.goto 4, 3) := by decide +kernel
theorem dX4_isDigit_16 : decode cX4_isDigit 16 = .ok (.iconst 0, 1) := by decide +kernel
theorem dX4_isDigit_17 : decode cX4_isDigit 17 = .ok (.ireturn, 1) := by decide +kernel
theorem dX4_wordOfValue_0 : decode cX4_wordOfValue 0 = .ok (.iload_n 0, 1) := by decide +kernel
theorem dX4_wordOfValue_1 : decode cX4_wordOfValue 1 = .ok (.iconst 1, 1) := by decide +kernel
theorem dX4_wordOfValue_2 : decode cX4_wordOfValue 2 = .ok (.if_icmp .lt 11, 3) := by decide +kernel
theorem dX4_wordOfValue_5 : decode cX4_wordOfValue 5 = .ok (.iload_n 0, 1) := by decide +kernel
theorem dX4_wordOfValue_6 : decode cX4_wordOfValue 6 = .ok (.bipush 19, 2) := by decide +kernel
theorem dX4_wordOfValue_8 : decode cX4_wordOfValue 8 = .ok (.if_icmp .gt 5, 3) := by decide +kernel
theorem dX4_wordOfValue_11 : decode cX4_wordOfValue 11 = .ok (.iload_n 0, 1) := by decide +kernel
theorem dX4_wordOfValue_12 : decode cX4_wordOfValue 12 = .ok (.ireturn, 1) := by decide +kernel
theorem dX4_wordOfValue_13 : decode cX4_wordOfValue 13 = .ok (.iload_n 0, 1) := by decide +kernel
theorem dX4_wordOfValue_14 : decode cX4_wordOfValue 14 = .ok (.bipush 20, 2) := by decide +kernel
theorem dX4_wordOfValue_16 : decode cX4_wordOfValue 16 = .ok (.if_icmp .lt 17, 3) := by decide +kernel
theorem dX4_wordOfValue_19 : decode cX4_wordOfValue 19 = .ok (.iload_n 0, 1) := by decide +kernel
theorem dX4_wordOfValue_20 : decode cX4_wordOfValue 20 = .ok (.bipush 10, 2) := by decide +kernel
theorem dX4_wordOfValue_22 : decode cX4_wordOfValue 22 = .ok (.irem, 1) := by decide +kernel
theorem dX4_wordOfValue_23 : decode cX4_wordOfValue 23 = .ok (.ifCond .ne 10, 3) := by decide +kernel
theorem dX4_wordOfValue_26 : decode cX4_wordOfValue 26 = .ok (.iload_n 0, 1) := by decide +kernel
theorem dX4_wordOfValue_27 : decode cX4_wordOfValue 27 = .ok (.invokestatic 64, 3) := by decide +kernel
theorem dX4_wordOfValue_30 : decode cX4_wordOfValue 30 = .ok (.goto 4, 3) := by decide +kernel
theorem dX4_wordOfValue_33 : decode cX4_wordOfValue 33 = .ok (.iconst (-1), 1) := by decide +kernel
theorem dX4_wordOfValue_34 : decode cX4_wordOfValue 34 = .ok (.ireturn, 1) := by decide +kernel
theorem dX4_tensWord_0 : decode cX4_tensWord 0 = .ok (.bipush 18, 2) := by decide +kernel
theorem dX4_tensWord_2 : decode cX4_tensWord 2 = .ok (.iload_n 0, 1) := by decide +kernel
theorem dX4_tensWord_3 : decode cX4_tensWord 3 = .ok (.bipush 10, 2) := by decide +kernel
theorem dX4_tensWord_5 : decode cX4_tensWord 5 = .ok (.idiv, 1) := by decide +kernel
theorem dX4_tensWord_6 : decode cX4_tensWord 6 = .ok (.iadd, 1) := by decide +kernel
theorem dX4_tensWord_7 : decode cX4_tensWord 7 = .ok (.ireturn, 1) := by decide +kernel
theorem dX4_wordOfLetter_0 : decode cX4_wordOfLetter 0 = .ok (.iload_n 0, 1) := by decide +kernel
theorem dX4_wordOfLetter_1 : decode cX4_wordOfLetter 1 = .ok (.lookupswitch 65 #[(97, 57), (104, 51), (110, 63), (115, 60), (116, 54)], 51) := by decide +kernel
theorem dX4_wordOfLetter_52 : decode cX4_wordOfLetter 52 = .ok (.bipush 28, 2) := by decide +kernel
theorem dX4_wordOfLetter_54 : decode cX4_wordOfLetter 54 = .ok (.ireturn, 1) := by decide +kernel
theorem dX4_wordOfLetter_55 : decode cX4_wordOfLetter 55 = .ok (.bipush 29, 2) := by decide +kernel
theorem dX4_wordOfLetter_57 : decode cX4_wordOfLetter 57 = .ok (.ireturn, 1) := by decide +kernel
theorem dX4_wordOfLetter_58 : decode cX4_wordOfLetter 58 = .ok (.bipush 30, 2) := by decide +kernel
theorem dX4_wordOfLetter_60 : decode cX4_wordOfLetter 60 = .ok (.ireturn, 1) := by decide +kernel
theorem dX4_wordOfLetter_61 : decode cX4_wordOfLetter 61 = .ok (.bipush 31, 2) := by decide +kernel
theorem dX4_wordOfLetter_63 : decode cX4_wordOfLetter 63 = .ok (.ireturn, 1) := by decide +kernel
theorem dX4_wordOfLetter_64 : decode cX4_wordOfLetter 64 = .ok (.iconst 0, 1) := by decide +kernel
theorem dX4_wordOfLetter_65 : decode cX4_wordOfLetter 65 = .ok (.ireturn, 1) := by decide +kernel
theorem dX4_wordOfLetter_66 : decode cX4_wordOfLetter 66 = .ok (.iconst (-1), 1) := by decide +kernel
theorem dX4_wordOfLetter_67 : decode cX4_wordOfLetter 67 = .ok (.ireturn, 1) := by decide +kernel
theorem dX5_init_0 : decode cX5_init 0 = .ok (.aload_n 0, 1) := by decide +kernel
theorem dX5_init_1 : decode cX5_init 1 = .ok (.invokespecial 3, 3) := by decide +kernel
theorem dX5_init_4 : decode cX5_init 4 = .ok (.aload_n 0, 1) := by decide +kernel
theorem dX5_init_5 : decode cX5_init 5 = .ok (.bipush 24, 2) := by decide +kernel
theorem dX5_init_7 : decode cX5_init 7 = .ok (.newarray .long, 2) := by decide +kernel
theorem dX5_init_9 : decode cX5_init 9 = .ok (.putfield 9, 3) := by decide +kernel
theorem dX5_init_12 : decode cX5_init 12 = .ok (.aload_n 0, 1) := by decide +kernel
theorem dX5_init_13 : decode cX5_init 13 = .ok (.iconst (-1), 1) := by decide +kernel
theorem dX5_init_14 : decode cX5_init 14 = .ok (.putfield 15, 3) := by decide +kernel
theorem dX5_init_17 : decode cX5_init 17 = .ok (.return_, 1) := by decide +kernel
theorem dX5_renew_0 : decode cX5_renew 0 = .ok (.aload_n 0, 1) := by decide +kernel
theorem dX5_renew_1 : decode cX5_renew 1 = .ok (.iload_n 1, 1) := by decide +kernel
theorem dX5_renew_2 : decode cX5_renew 2 = .ok (.putfield 15, 3) := by decide +kernel
theorem dX5_renew_5 : decode cX5_renew 5 = .ok (.aload_n 0, 1) := by decide +kernel
theorem dX5_renew_6 : decode cX5_renew 6 = .ok (.iload_n 2, 1) := by decide +kernel
theorem dX5_renew_7 : decode cX5_renew 7 = .ok (.putfield 19, 3) := by decide +kernel
theorem dX5_renew_10 : decode cX5_renew 10 = .ok (.iconst 0, 1) := by decide +kernel
theorem dX5_renew_11 : decode cX5_renew 11 = .ok (.istore_n 3, 1) := by decide +kernel
theorem dX5_renew_12 : decode cX5_renew 12 = .ok (.iload_n 3, 1) := by decide +kernel
theorem dX5_renew_13 : decode cX5_renew 13 = .ok (.bipush 24, 2) := by decide +kernel
theorem dX5_renew_15 : decode cX5_renew 15 = .ok (.if_icmp .ge 16, 3) := by decide +kernel
theorem dX5_renew_18 : decode cX5_renew 18 = .ok (.aload_n 0, 1) := by decide +kernel
theorem dX5_renew_19 : decode cX5_renew 19 = .ok (.getfield 9, 3) := by decide +kernel
theorem dX5_renew_22 : decode cX5_renew 22 = .ok (.iload_n 3, 1) := by decide +kernel
theorem dX5_renew_23 : decode cX5_renew 23 = .ok (.lconst 0, 1) := by decide +kernel
theorem dX5_renew_24 : decode cX5_renew 24 = .ok (.lastore, 1) := by decide +kernel
theorem dX5_renew_25 : decode cX5_renew 25 = .ok (.iinc 3 1, 3) := by decide +kernel
theorem dX5_renew_28 : decode cX5_renew 28 = .ok (.goto (-16), 3) := by decide +kernel
theorem dX5_renew_31 : decode cX5_renew 31 = .ok (.return_, 1) := by decide +kernel
theorem dX5_lacks_0 : decode cX5_lacks 0 = .ok (.iload_n 1, 1) := by decide +kernel
theorem dX5_lacks_1 : decode cX5_lacks 1 = .ok (.ifCond .lt 17, 3) := by decide +kernel
theorem dX5_lacks_4 : decode cX5_lacks 4 = .ok (.iload_n 2, 1) := by decide +kernel
theorem dX5_lacks_5 : decode cX5_lacks 5 = .ok (.ifCond .lt 13, 3) := by decide +kernel
theorem dX5_lacks_8 : decode cX5_lacks 8 = .ok (.iload_n 1, 1) := by decide +kernel
theorem dX5_lacks_9 : decode cX5_lacks 9 = .ok (.aload_n 0, 1) := by decide +kernel
theorem dX5_lacks_10 : decode cX5_lacks 10 = .ok (.getfield 19, 3) := by decide +kernel
theorem dX5_lacks_13 : decode cX5_lacks 13 = .ok (.iload_n 2, 1) := by decide +kernel
theorem dX5_lacks_14 : decode cX5_lacks 14 = .ok (.isub, 1) := by decide +kernel
theorem dX5_lacks_15 : decode cX5_lacks 15 = .ok (.if_icmp .le 7, 3) := by decide +kernel
theorem dX5_lacks_18 : decode cX5_lacks 18 = .ok (.iconst 1, 1) := by decide +kernel
theorem dX5_lacks_19 : decode cX5_lacks 19 = .ok (.goto 4, 3) := by decide +kernel
theorem dX5_lacks_22 : decode cX5_lacks 22 = .ok (.iconst 0, 1) := by decide +kernel
theorem dX5_lacks_23 : decode cX5_lacks 23 = .ok (.ireturn, 1) := by decide +kernel
theorem dX5_refusal_0 : decode cX5_refusal 0 = .ok (.aload_n 0, 1) := by decide +kernel
theorem dX5_refusal_1 : decode cX5_refusal 1 = .ok (.getfield 15, 3) := by decide +kernel
theorem dX5_refusal_4 : decode cX5_refusal 4 = .ok (.iconst (-1), 1) := by decide +kernel
theorem dX5_refusal_5 : decode cX5_refusal 5 = .ok (.if_icmp .ne 6, 3) := by decide +kernel
theorem dX5_refusal_8 : decode cX5_refusal 8 = .ok (.bipush (-11), 2) := by decide +kernel
theorem dX5_refusal_10 : decode cX5_refusal 10 = .ok (.ireturn, 1) := by decide +kernel
theorem dX5_refusal_11 : decode cX5_refusal 11 = .ok (.aload_n 0, 1) := by decide +kernel
theorem dX5_refusal_12 : decode cX5_refusal 12 = .ok (.getfield 15, 3) := by decide +kernel
theorem dX5_refusal_15 : decode cX5_refusal 15 = .ok (.iload_n 1, 1) := by decide +kernel
theorem dX5_refusal_16 : decode cX5_refusal 16 = .ok (.if_icmp .eq 6, 3) := by decide +kernel
theorem dX5_refusal_19 : decode cX5_refusal 19 = .ok (.bipush (-12), 2) := by decide +kernel
theorem dX5_refusal_21 : decode cX5_refusal 21 = .ok (.ireturn, 1) := by decide +kernel
theorem dX5_refusal_22 : decode cX5_refusal 22 = .ok (.aload_n 0, 1) := by decide +kernel
theorem dX5_refusal_23 : decode cX5_refusal 23 = .ok (.iload_n 2, 1) := by decide +kernel
theorem dX5_refusal_24 : decode cX5_refusal 24 = .ok (.iload_n 3, 1) := by decide +kernel
theorem dX5_refusal_25 : decode cX5_refusal 25 = .ok (.invokevirtual 22, 3) := by decide +kernel
theorem dX5_refusal_28 : decode cX5_refusal 28 = .ok (.ifCond .eq 8, 3) := by decide +kernel
theorem dX5_refusal_31 : decode cX5_refusal 31 = .ok (.bipush (-13), 2) := by decide +kernel
theorem dX5_refusal_33 : decode cX5_refusal 33 = .ok (.goto 4, 3) := by decide +kernel
theorem dX5_refusal_36 : decode cX5_refusal 36 = .ok (.iconst 0, 1) := by decide +kernel
theorem dX5_refusal_37 : decode cX5_refusal 37 = .ok (.ireturn, 1) := by decide +kernel
theorem dX5_put_0 : decode cX5_put 0 = .ok (.aload_n 0, 1) := by decide +kernel
theorem dX5_put_1 : decode cX5_put 1 = .ok (.iload_n 1, 1) := by decide +kernel
theorem dX5_put_2 : decode cX5_put 2 = .ok (.iconst 1, 1) := by decide +kernel
theorem dX5_put_3 : decode cX5_put 3 = .ok (.invokevirtual 22, 3) := by decide +kernel
theorem dX5_put_6 : decode cX5_put 6 = .ok (.ifCond .ne 14, 3) := by decide +kernel
theorem dX5_put_9 : decode cX5_put 9 = .ok (.aload_n 0, 1) := by decide +kernel
theorem dX5_put_10 : decode cX5_put 10 = .ok (.getfield 9, 3) := by decide +kernel
theorem dX5_put_13 : decode cX5_put 13 = .ok (.iload_n 1, 1) := by decide +kernel
theorem dX5_put_14 : decode cX5_put 14 = .ok (.aload_n 0, 1) := by decide +kernel
theorem dX5_put_15 : decode cX5_put 15 = .ok (.lload_n 2, 1) := by decide +kernel
theorem dX5_put_16 : decode cX5_put 16 = .ok (.invokevirtual 26, 3) := by decide +kernel
theorem dX5_put_19 : decode cX5_put 19 = .ok (.lastore, 1) := by decide +kernel
theorem dX5_put_20 : decode cX5_put 20 = .ok (.return_, 1) := by decide +kernel
theorem dX5_tells_0 : decode cX5_tells 0 = .ok (.iload 4, 2) := by decide +kernel
theorem dX5_tells_2 : decode cX5_tells 2 = .ok (.iload_n 2, 1) := by decide +kernel
theorem dX5_tells_3 : decode cX5_tells 3 = .ok (.if_icmp .ne 19, 3) := by decide +kernel
theorem dX5_tells_6 : decode cX5_tells 6 = .ok (.iload 4, 2) := by decide +kernel
theorem dX5_tells_8 : decode cX5_tells 8 = .ok (.aload_n 3, 1) := by decide +kernel
theorem dX5_tells_9 : decode cX5_tells 9 = .ok (.arraylength, 1) := by decide +kernel
theorem dX5_tells_10 : decode cX5_tells 10 = .ok (.if_icmp .gt 12, 3) := by decide +kernel
theorem dX5_tells_13 : decode cX5_tells 13 = .ok (.aload_n 0, 1) := by decide +kernel
theorem dX5_tells_14 : decode cX5_tells 14 = .ok (.iload_n 1, 1) := by decide +kernel
theorem dX5_tells_15 : decode cX5_tells 15 = .ok (.iload_n 2, 1) := by decide +kernel
theorem dX5_tells_16 : decode cX5_tells 16 = .ok (.invokevirtual 22, 3) := by decide +kernel
theorem dX5_tells_19 : decode cX5_tells 19 = .ok (.ifCond .eq 5, 3) := by decide +kernel
theorem dX5_tells_22 : decode cX5_tells 22 = .ok (.iconst 0, 1) := by decide +kernel
theorem dX5_tells_23 : decode cX5_tells 23 = .ok (.ireturn, 1) := by decide +kernel
theorem dX5_tells_24 : decode cX5_tells 24 = .ok (.iconst 0, 1) := by decide +kernel
theorem dX5_tells_25 : decode cX5_tells 25 = .ok (.istore 5, 2) := by decide +kernel
theorem dX5_tells_27 : decode cX5_tells 27 = .ok (.iload 5, 2) := by decide +kernel
theorem dX5_tells_29 : decode cX5_tells 29 = .ok (.iload_n 2, 1) := by decide +kernel
theorem dX5_tells_30 : decode cX5_tells 30 = .ok (.if_icmp .ge 29, 3) := by decide +kernel
theorem dX5_tells_33 : decode cX5_tells 33 = .ok (.aload_n 0, 1) := by decide +kernel
theorem dX5_tells_34 : decode cX5_tells 34 = .ok (.getfield 9, 3) := by decide +kernel
theorem dX5_tells_37 : decode cX5_tells 37 = .ok (.iload_n 1, 1) := by decide +kernel
theorem dX5_tells_38 : decode cX5_tells 38 = .ok (.iload 5, 2) := by decide +kernel
theorem dX5_tells_40 : decode cX5_tells 40 = .ok (.iadd, 1) := by decide +kernel
theorem dX5_tells_41 : decode cX5_tells 41 = .ok (.laload, 1) := by decide +kernel
theorem dX5_tells_42 : decode cX5_tells 42 = .ok (.aload_n 3, 1) := by decide +kernel
theorem dX5_tells_43 : decode cX5_tells 43 = .ok (.iload 5, 2) := by decide +kernel
theorem dX5_tells_45 : decode cX5_tells 45 = .ok (.iaload, 1) := by decide +kernel
theorem dX5_tells_46 : decode cX5_tells 46 = .ok (.i2l, 1) := by decide +kernel
theorem dX5_tells_47 : decode cX5_tells 47 = .ok (.lcmp, 1) := by decide +kernel
theorem dX5_tells_48 : decode cX5_tells 48 = .ok (.ifCond .eq 5, 3) := by decide +kernel
theorem dX5_tells_51 : decode cX5_tells 51 = .ok (.iconst 0, 1) := by decide +kernel
theorem dX5_tells_52 : decode cX5_tells 52 = .ok (.ireturn, 1) := by decide +kernel
theorem dX5_tells_53 : decode cX5_tells 53 = .ok (.iinc 5 1, 3) := by decide +kernel
theorem dX5_tells_56 : decode cX5_tells 56 = .ok (.goto (-29), 3) := by decide +kernel
theorem dX5_tells_59 : decode cX5_tells 59 = .ok (.iconst 1, 1) := by decide +kernel
theorem dX5_tells_60 : decode cX5_tells 60 = .ok (.ireturn, 1) := by decide +kernel
theorem dX5_cutToLane_0 : decode cX5_cutToLane 0 = .ok (.aload_n 0, 1) := by decide +kernel
theorem dX5_cutToLane_1 : decode cX5_cutToLane 1 = .ok (.getfield 15, 3) := by decide +kernel
theorem dX5_cutToLane_4 : decode cX5_cutToLane 4 = .ok (.tableswitch 42 0 2 #[28, 33, 38], 28) := by decide +kernel
theorem dX5_cutToLane_32 : decode cX5_cutToLane 32 = .ok (.lload_n 1, 1) := by decide +kernel
theorem dX5_cutToLane_33 : decode cX5_cutToLane 33 = .ok (.l2i, 1) := by decide +kernel
theorem dX5_cutToLane_34 : decode cX5_cutToLane 34 = .ok (.i2b, 1) := by decide +kernel
theorem dX5_cutToLane_35 : decode cX5_cutToLane 35 = .ok (.i2l, 1) := by decide +kernel
theorem dX5_cutToLane_36 : decode cX5_cutToLane 36 = .ok (.lreturn, 1) := by decide +kernel
theorem dX5_cutToLane_37 : decode cX5_cutToLane 37 = .ok (.lload_n 1, 1) := by decide +kernel
theorem dX5_cutToLane_38 : decode cX5_cutToLane 38 = .ok (.l2i, 1) := by decide +kernel
theorem dX5_cutToLane_39 : decode cX5_cutToLane 39 = .ok (.i2s, 1) := by decide +kernel
theorem dX5_cutToLane_40 : decode cX5_cutToLane 40 = .ok (.i2l, 1) := by decide +kernel
theorem dX5_cutToLane_41 : decode cX5_cutToLane 41 = .ok (.lreturn, 1) := by decide +kernel
theorem dX5_cutToLane_42 : decode cX5_cutToLane 42 = .ok (.lload_n 1, 1) := by decide +kernel
theorem dX5_cutToLane_43 : decode cX5_cutToLane 43 = .ok (.l2i, 1) := by decide +kernel
theorem dX5_cutToLane_44 : decode cX5_cutToLane 44 = .ok (.i2l, 1) := by decide +kernel
theorem dX5_cutToLane_45 : decode cX5_cutToLane 45 = .ok (.lreturn, 1) := by decide +kernel
theorem dX5_cutToLane_46 : decode cX5_cutToLane 46 = .ok (.lload_n 1, 1) := by decide +kernel
theorem dX5_cutToLane_47 : decode cX5_cutToLane 47 = .ok (.lreturn, 1) := by decide +kernel
theorem dX6_init_0 : decode cX6_init 0 = .ok (.aload_n 0, 1) := by decide +kernel
theorem dX6_init_1 : decode cX6_init 1 = .ok (.invokespecial 3, 3) := by decide +kernel
theorem dX6_init_4 : decode cX6_init 4 = .ok (.aload_n 0, 1) := by decide +kernel
theorem dX6_init_5 : decode cX6_init 5 = .ok (.new 9, 3) := by decide +kernel
theorem dX6_init_8 : decode cX6_init 8 = .ok (.dup, 1) := by decide +kernel
theorem dX6_init_9 : decode cX6_init 9 = .ok (.invokespecial 11, 3) := by decide +kernel
theorem dX6_init_12 : decode cX6_init 12 = .ok (.putfield 12, 3) := by decide +kernel
theorem dX6_init_15 : decode cX6_init 15 = .ok (.aload_n 0, 1) := by decide +kernel
theorem dX6_init_16 : decode cX6_init 16 = .ok (.iconst 4, 1) := by decide +kernel
theorem dX6_init_17 : decode cX6_init 17 = .ok (.newarray .int, 2) := by decide +kernel
theorem dX6_init_19 : decode cX6_init 19 = .ok (.putfield 18, 3) := by decide +kernel
theorem dX6_init_22 : decode cX6_init 22 = .ok (.aload_n 0, 1) := by decide +kernel
theorem dX6_init_23 : decode cX6_init 23 = .ok (.bipush 8, 2) := by decide +kernel
theorem dX6_init_25 : decode cX6_init 25 = .ok (.newarray .int, 2) := by decide +kernel
theorem dX6_init_27 : decode cX6_init 27 = .ok (.putfield 22, 3) := by decide +kernel
theorem dX6_init_30 : decode cX6_init 30 = .ok (.aload_n 0, 1) := by decide +kernel
theorem dX6_init_31 : decode cX6_init 31 = .ok (.bipush 8, 2) := by decide +kernel
theorem dX6_init_33 : decode cX6_init 33 = .ok (.newarray .int, 2) := by decide +kernel
theorem dX6_init_35 : decode cX6_init 35 = .ok (.putfield 25, 3) := by decide +kernel
theorem dX6_init_38 : decode cX6_init 38 = .ok (.aload_n 0, 1) := by decide +kernel
theorem dX6_init_39 : decode cX6_init 39 = .ok (.iconst 5, 1) := by decide +kernel
theorem dX6_init_40 : decode cX6_init 40 = .ok (.newarray .int, 2) := by decide +kernel
theorem dX6_init_42 : decode cX6_init 42 = .ok (.putfield 28, 3) := by decide +kernel
theorem dX6_init_45 : decode cX6_init 45 = .ok (.aload_n 0, 1) := by decide +kernel
theorem dX6_init_46 : decode cX6_init 46 = .ok (.aload_n 1, 1) := by decide +kernel
theorem dX6_init_47 : decode cX6_init 47 = .ok (.putfield 31, 3) := by decide +kernel
theorem dX6_init_50 : decode cX6_init 50 = .ok (.aload_n 0, 1) := by decide +kernel
theorem dX6_init_51 : decode cX6_init 51 = .ok (.new 35, 3) := by decide +kernel
theorem dX6_init_54 : decode cX6_init 54 = .ok (.dup, 1) := by decide +kernel
theorem dX6_init_55 : decode cX6_init 55 = .ok (.aload_n 1, 1) := by decide +kernel
theorem dX6_init_56 : decode cX6_init 56 = .ok (.invokespecial 37, 3) := by decide +kernel
theorem dX6_init_59 : decode cX6_init 59 = .ok (.putfield 40, 3) := by decide +kernel
theorem dX6_init_62 : decode cX6_init 62 = .ok (.return_, 1) := by decide +kernel
theorem dX6_forget_0 : decode cX6_forget 0 = .ok (.aload_n 0, 1) := by decide +kernel
theorem dX6_forget_1 : decode cX6_forget 1 = .ok (.iconst 0, 1) := by decide +kernel
theorem dX6_forget_2 : decode cX6_forget 2 = .ok (.putfield 44, 3) := by decide +kernel
theorem dX6_forget_5 : decode cX6_forget 5 = .ok (.aload_n 0, 1) := by decide +kernel
theorem dX6_forget_6 : decode cX6_forget 6 = .ok (.getfield 12, 3) := by decide +kernel
theorem dX6_forget_9 : decode cX6_forget 9 = .ok (.iconst 0, 1) := by decide +kernel
theorem dX6_forget_10 : decode cX6_forget 10 = .ok (.putfield 48, 3) := by decide +kernel
theorem dX6_forget_13 : decode cX6_forget 13 = .ok (.aload_n 0, 1) := by decide +kernel
theorem dX6_forget_14 : decode cX6_forget 14 = .ok (.iconst 0, 1) := by decide +kernel
theorem dX6_forget_15 : decode cX6_forget 15 = .ok (.putfield 51, 3) := by decide +kernel
theorem dX6_forget_18 : decode cX6_forget 18 = .ok (.return_, 1) := by decide +kernel
theorem dX6_saidOnes_0 : decode cX6_saidOnes 0 = .ok (.aload_n 0, 1) := by decide +kernel
theorem dX6_saidOnes_1 : decode cX6_saidOnes 1 = .ok (.invokevirtual 54, 3) := by decide +kernel
theorem dX6_saidOnes_4 : decode cX6_saidOnes 4 = .ok (.aload_n 0, 1) := by decide +kernel
theorem dX6_saidOnes_5 : decode cX6_saidOnes 5 = .ok (.getfield 57, 3) := by decide +kernel
theorem dX6_saidOnes_8 : decode cX6_saidOnes 8 = .ok (.ireturn, 1) := by decide +kernel
theorem dX6_soundOnes_0 : decode cX6_soundOnes 0 = .ok (.aload_n 0, 1) := by decide +kernel
theorem dX6_soundOnes_1 : decode cX6_soundOnes 1 = .ok (.invokevirtual 54, 3) := by decide +kernel
theorem dX6_soundOnes_4 : decode cX6_soundOnes 4 = .ok (.aload_n 0, 1) := by decide +kernel
theorem dX6_soundOnes_5 : decode cX6_soundOnes 5 = .ok (.getfield 61, 3) := by decide +kernel
theorem dX6_soundOnes_8 : decode cX6_soundOnes 8 = .ok (.ireturn, 1) := by decide +kernel
theorem dX6_bestTells_0 : decode cX6_bestTells 0 = .ok (.aload_n 0, 1) := by decide +kernel
theorem dX6_bestTells_1 : decode cX6_bestTells 1 = .ok (.invokevirtual 54, 3) := by decide +kernel
theorem dX6_bestTells_4 : decode cX6_bestTells 4 = .ok (.aload_n 0, 1) := by decide +kernel
theorem dX6_bestTells_5 : decode cX6_bestTells 5 = .ok (.getfield 61, 3) := by decide +kernel
theorem dX6_bestTells_8 : decode cX6_bestTells 8 = .ok (.ifCond .ne 6, 3) := by decide +kernel
theorem dX6_bestTells_11 : decode cX6_bestTells 11 = .ok (.bipush (-4), 2) := by decide +kernel
theorem dX6_bestTells_13 : decode cX6_bestTells 13 = .ok (.ireturn, 1) := by decide +kernel
theorem dX6_bestTells_14 : decode cX6_bestTells 14 = .ok (.iload_n 1, 1) := by decide +kernel
theorem dX6_bestTells_15 : decode cX6_bestTells 15 = .ok (.iconst (-1), 1) := by decide +kernel
theorem dX6_bestTells_16 : decode cX6_bestTells 16 = .ok (.if_icmp .ne 8, 3) := by decide +kernel
theorem dX6_bestTells_19 : decode cX6_bestTells 19 = .ok (.aload_n 0, 1) := by decide +kernel
theorem dX6_bestTells_20 : decode cX6_bestTells 20 = .ok (.getfield 64, 3) := by decide +kernel
theorem dX6_bestTells_23 : decode cX6_bestTells 23 = .ok (.ireturn, 1) := by decide +kernel
theorem dX6_bestTells_24 : decode cX6_bestTells 24 = .ok (.iload_n 1, 1) := by decide +kernel
theorem dX6_bestTells_25 : decode cX6_bestTells 25 = .ok (.bipush (-2), 2) := by decide +kernel
theorem dX6_bestTells_27 : decode cX6_bestTells 27 = .ok (.if_icmp .ne 8, 3) := by decide +kernel
theorem dX6_bestTells_30 : decode cX6_bestTells 30 = .ok (.aload_n 0, 1) := by decide +kernel
theorem dX6_bestTells_31 : decode cX6_bestTells 31 = .ok (.getfield 67, 3) := by decide +kernel
theorem dX6_bestTells_34 : decode cX6_bestTells 34 = .ok (.ireturn, 1) := by decide +kernel
theorem dX6_bestTells_35 : decode cX6_bestTells 35 = .ok (.iload_n 1, 1) := by decide +kernel
theorem dX6_bestTells_36 : decode cX6_bestTells 36 = .ok (.ifCond .lt 20, 3) := by decide +kernel
theorem dX6_bestTells_39 : decode cX6_bestTells 39 = .ok (.iload_n 1, 1) := by decide +kernel
theorem dX6_bestTells_40 : decode cX6_bestTells 40 = .ok (.aload_n 0, 1) := by decide +kernel
theorem dX6_bestTells_41 : decode cX6_bestTells 41 = .ok (.getfield 67, 3) := by decide +kernel
theorem dX6_bestTells_44 : decode cX6_bestTells 44 = .ok (.if_icmp .ge 12, 3) := by decide +kernel
theorem dX6_bestTells_47 : decode cX6_bestTells 47 = .ok (.aload_n 0, 1) := by decide +kernel
theorem dX6_bestTells_48 : decode cX6_bestTells 48 = .ok (.getfield 18, 3) := by decide +kernel
theorem dX6_bestTells_51 : decode cX6_bestTells 51 = .ok (.iload_n 1, 1) := by decide +kernel
theorem dX6_bestTells_52 : decode cX6_bestTells 52 = .ok (.iaload, 1) := by decide +kernel
theorem dX6_bestTells_53 : decode cX6_bestTells 53 = .ok (.goto 5, 3) := by decide +kernel
theorem dX6_bestTells_56 : decode cX6_bestTells 56 = .ok (.bipush (-4), 2) := by decide +kernel
theorem dX6_bestTells_58 : decode cX6_bestTells 58 = .ok (.ireturn, 1) := by decide +kernel
theorem dX6_bestWord_0 : decode cX6_bestWord 0 = .ok (.aload_n 0, 1) := by decide +kernel
theorem dX6_bestWord_1 : decode cX6_bestWord 1 = .ok (.invokevirtual 54, 3) := by decide +kernel
theorem dX6_bestWord_4 : decode cX6_bestWord 4 = .ok (.aload_n 0, 1) := by decide +kernel
theorem dX6_bestWord_5 : decode cX6_bestWord 5 = .ok (.getfield 61, 3) := by decide +kernel
theorem dX6_bestWord_8 : decode cX6_bestWord 8 = .ok (.ifCond .ne 8, 3) := by decide +kernel
theorem dX6_bestWord_11 : decode cX6_bestWord 11 = .ok (.bipush (-4), 2) := by decide +kernel
theorem dX6_bestWord_13 : decode cX6_bestWord 13 = .ok (.goto 21, 3) := by decide +kernel
theorem dX6_bestWord_16 : decode cX6_bestWord 16 = .ok (.aload_n 0, 1) := by decide +kernel
theorem dX6_bestWord_17 : decode cX6_bestWord 17 = .ok (.getfield 31, 3) := by decide +kernel
theorem dX6_bestWord_20 : decode cX6_bestWord 20 = .ok (.getfield 70, 3) := by decide +kernel
theorem dX6_bestWord_23 : decode cX6_bestWord 23 = .ok (.iload_n 1, 1) := by decide +kernel
theorem dX6_bestWord_24 : decode cX6_bestWord 24 = .ok (.iconst 4, 1) := by decide +kernel
theorem dX6_bestWord_25 : decode cX6_bestWord 25 = .ok (.imul, 1) := by decide +kernel
theorem dX6_bestWord_26 : decode cX6_bestWord 26 = .ok (.aload_n 0, 1) := by decide +kernel
theorem dX6_bestWord_27 : decode cX6_bestWord 27 = .ok (.getfield 22, 3) := by decide +kernel
theorem dX6_bestWord_30 : decode cX6_bestWord 30 = .ok (.iload_n 1, 1) := by decide +kernel
theorem dX6_bestWord_31 : decode cX6_bestWord 31 = .ok (.iaload, 1) := by decide +kernel
theorem dX6_bestWord_32 : decode cX6_bestWord 32 = .ok (.iadd, 1) := by decide +kernel
theorem dX6_bestWord_33 : decode cX6_bestWord 33 = .ok (.iaload, 1) := by decide +kernel
theorem dX6_bestWord_34 : decode cX6_bestWord 34 = .ok (.ireturn, 1) := by decide +kernel
theorem dX6_countedOnes_0 : decode cX6_countedOnes 0 = .ok (.aload_n 0, 1) := by decide +kernel
theorem dX6_countedOnes_1 : decode cX6_countedOnes 1 = .ok (.invokevirtual 75, 3) := by decide +kernel
theorem dX6_countedOnes_4 : decode cX6_countedOnes 4 = .ok (.aload_n 0, 1) := by decide +kernel
theorem dX6_countedOnes_5 : decode cX6_countedOnes 5 = .ok (.getfield 12, 3) := by decide +kernel
theorem dX6_countedOnes_8 : decode cX6_countedOnes 8 = .ok (.getfield 78, 3) := by decide +kernel
theorem dX6_countedOnes_11 : decode cX6_countedOnes 11 = .ok (.ireturn, 1) := by decide +kernel
theorem dX6_lookAt_0 : decode cX6_lookAt 0 = .ok (.aload_n 0, 1) := by decide +kernel
theorem dX6_lookAt_1 : decode cX6_lookAt 1 = .ok (.invokevirtual 75, 3) := by decide +kernel
theorem dX6_lookAt_4 : decode cX6_lookAt 4 = .ok (.aload_n 0, 1) := by decide +kernel
theorem dX6_lookAt_5 : decode cX6_lookAt 5 = .ok (.getfield 12, 3) := by decide +kernel
theorem dX6_lookAt_8 : decode cX6_lookAt 8 = .ok (.aload_n 0, 1) := by decide +kernel
theorem dX6_lookAt_9 : decode cX6_lookAt 9 = .ok (.getfield 12, 3) := by decide +kernel
theorem dX6_lookAt_12 : decode cX6_lookAt 12 = .ok (.getfield 81, 3) := by decide +kernel
theorem dX6_lookAt_15 : decode cX6_lookAt 15 = .ok (.aload_n 0, 1) := by decide +kernel
theorem dX6_lookAt_16 : decode cX6_lookAt 16 = .ok (.getfield 12, 3) := by decide +kernel
theorem dX6_lookAt_19 : decode cX6_lookAt 19 = .ok (.getfield 78, 3) := by decide +kernel
theorem dX6_lookAt_22 : decode cX6_lookAt 22 = .ok (.invokevirtual 84, 3) := by decide +kernel
theorem dX6_lookAt_25 : decode cX6_lookAt 25 = .ok (.ireturn, 1) := by decide +kernel
theorem dX6_questions_0 : decode cX6_questions 0 = .ok (.aload_n 0, 1) := by decide +kernel
theorem dX6_questions_1 : decode cX6_questions 1 = .ok (.invokevirtual 75, 3) := by decide +kernel
theorem dX6_questions_4 : decode cX6_questions 4 = .ok (.aload_n 0, 1) := by decide +kernel
theorem dX6_questions_5 : decode cX6_questions 5 = .ok (.getfield 12, 3) := by decide +kernel
theorem dX6_questions_8 : decode cX6_questions 8 = .ok (.invokevirtual 88, 3) := by decide +kernel
theorem dX6_questions_11 : decode cX6_questions 11 = .ok (.ireturn, 1) := by decide +kernel
theorem dX6_nextCost_0 : decode cX6_nextCost 0 = .ok (.aload_n 0, 1) := by decide +kernel
theorem dX6_nextCost_1 : decode cX6_nextCost 1 = .ok (.invokevirtual 75, 3) := by decide +kernel
theorem dX6_nextCost_4 : decode cX6_nextCost 4 = .ok (.aload_n 0, 1) := by decide +kernel
theorem dX6_nextCost_5 : decode cX6_nextCost 5 = .ok (.getfield 92, 3) := by decide +kernel
theorem dX6_nextCost_8 : decode cX6_nextCost 8 = .ok (.ireturn, 1) := by decide +kernel
theorem dX6_countedWords_0 : decode cX6_countedWords 0 = .ok (.aload_n 0, 1) := by decide +kernel
theorem dX6_countedWords_1 : decode cX6_countedWords 1 = .ok (.invokevirtual 75, 3) := by decide +kernel
theorem dX6_countedWords_4 : decode cX6_countedWords 4 = .ok (.lconst 0, 1) := by decide +kernel
theorem dX6_countedWords_5 : decode cX6_countedWords 5 = .ok (.lstore_n 2, 1) := by decide +kernel
theorem dX6_countedWords_6 : decode cX6_countedWords 6 = .ok (.iconst 0, 1) := by decide +kernel
theorem dX6_countedWords_7 : decode cX6_countedWords 7 = .ok (.istore 4, 2) := by decide +kernel
theorem dX6_countedWords_9 : decode cX6_countedWords 9 = .ok (.iload 4, 2) := by decide +kernel
theorem dX6_countedWords_11 : decode cX6_countedWords 11 = .ok (.aload_n 0, 1) := by decide +kernel
theorem dX6_countedWords_12 : decode cX6_countedWords 12 = .ok (.getfield 31, 3) := by decide +kernel
theorem dX6_countedWords_15 : decode cX6_countedWords 15 = .ok (.getfield 95, 3) := by decide +kernel
theorem dX6_countedWords_18 : decode cX6_countedWords 18 = .ok (.iload_n 1, 1) := by decide +kernel
theorem dX6_countedWords_19 : decode cX6_countedWords 19 = .ok (.iaload, 1) := by decide +kernel
theorem dX6_countedWords_20 : decode cX6_countedWords 20 = .ok (.if_icmp .ge 45, 3) := by decide +kernel
theorem dX6_countedWords_23 : decode cX6_countedWords 23 = .ok (.iload_n 1, 1) := by decide +kernel
theorem dX6_countedWords_24 : decode cX6_countedWords 24 = .ok (.iconst 4, 1) := by decide +kernel
theorem dX6_countedWords_25 : decode cX6_countedWords 25 = .ok (.imul, 1) := by decide +kernel
theorem dX6_countedWords_26 : decode cX6_countedWords 26 = .ok (.iload 4, 2) := by decide +kernel
theorem dX6_countedWords_28 : decode cX6_countedWords 28 = .ok (.iadd, 1) := by decide +kernel
theorem dX6_countedWords_29 : decode cX6_countedWords 29 = .ok (.istore 5, 2) := by decide +kernel
theorem dX6_countedWords_31 : decode cX6_countedWords 31 = .ok (.aload_n 0, 1) := by decide +kernel
theorem dX6_countedWords_32 : decode cX6_countedWords 32 = .ok (.getfield 12, 3) := by decide +kernel
theorem dX6_countedWords_35 : decode cX6_countedWords 35 = .ok (.getfield 81, 3) := by decide +kernel
theorem dX6_countedWords_38 : decode cX6_countedWords 38 = .ok (.iload 5, 2) := by decide +kernel
theorem dX6_countedWords_40 : decode cX6_countedWords 40 = .ok (.iaload, 1) := by decide +kernel
theorem dX6_countedWords_41 : decode cX6_countedWords 41 = .ok (.ifCond .le 18, 3) := by decide +kernel
theorem dX6_countedWords_44 : decode cX6_countedWords 44 = .ok (.lload_n 2, 1) := by decide +kernel
theorem dX6_countedWords_45 : decode cX6_countedWords 45 = .ok (.lconst 1, 1) := by decide +kernel
theorem dX6_countedWords_46 : decode cX6_countedWords 46 = .ok (.aload_n 0, 1) := by decide +kernel
theorem dX6_countedWords_47 : decode cX6_countedWords 47 = .ok (.getfield 31, 3) := by decide +kernel
theorem dX6_countedWords_50 : decode cX6_countedWords 50 = .ok (.getfield 70, 3) := by decide +kernel
theorem dX6_countedWords_53 : decode cX6_countedWords 53 = .ok (.iload 5, 2) := by decide +kernel
theorem dX6_countedWords_55 : decode cX6_countedWords 55 = .ok (.iaload, 1) := by decide +kernel
theorem dX6_countedWords_56 : decode cX6_countedWords 56 = .ok (.lshl, 1) := by decide +kernel
theorem dX6_countedWords_57 : decode cX6_countedWords 57 = .ok (.lor, 1) := by decide +kernel
theorem dX6_countedWords_58 : decode cX6_countedWords 58 = .ok (.lstore_n 2, 1) := by decide +kernel
theorem dX6_countedWords_59 : decode cX6_countedWords 59 = .ok (.iinc 4 1, 3) := by decide +kernel
theorem dX6_countedWords_62 : decode cX6_countedWords 62 = .ok (.goto (-53), 3) := by decide +kernel
theorem dX6_countedWords_65 : decode cX6_countedWords 65 = .ok (.lload_n 2, 1) := by decide +kernel
theorem dX6_countedWords_66 : decode cX6_countedWords 66 = .ok (.lreturn, 1) := by decide +kernel
theorem dX6_countedTells_0 : decode cX6_countedTells 0 = .ok (.aload_n 0, 1) := by decide +kernel
theorem dX6_countedTells_1 : decode cX6_countedTells 1 = .ok (.invokevirtual 75, 3) := by decide +kernel
theorem dX6_countedTells_4 : decode cX6_countedTells 4 = .ok (.iload_n 1, 1) := by decide +kernel
theorem dX6_countedTells_5 : decode cX6_countedTells 5 = .ok (.aload_n 0, 1) := by decide +kernel
theorem dX6_countedTells_6 : decode cX6_countedTells 6 = .ok (.getfield 12, 3) := by decide +kernel
theorem dX6_countedTells_9 : decode cX6_countedTells 9 = .ok (.getfield 78, 3) := by decide +kernel
theorem dX6_countedTells_12 : decode cX6_countedTells 12 = .ok (.if_icmp .lt 6, 3) := by decide +kernel
theorem dX6_countedTells_15 : decode cX6_countedTells 15 = .ok (.bipush (-4), 2) := by decide +kernel
theorem dX6_countedTells_17 : decode cX6_countedTells 17 = .ok (.ireturn, 1) := by decide +kernel
theorem dX6_countedTells_18 : decode cX6_countedTells 18 = .ok (.iload_n 1, 1) := by decide +kernel
theorem dX6_countedTells_19 : decode cX6_countedTells 19 = .ok (.bipush 60, 2) := by decide +kernel
theorem dX6_countedTells_21 : decode cX6_countedTells 21 = .ok (.if_icmp .ge 28, 3) := by decide +kernel
theorem dX6_countedTells_24 : decode cX6_countedTells 24 = .ok (.iload_n 2, 1) := by decide +kernel
theorem dX6_countedTells_25 : decode cX6_countedTells 25 = .ok (.ifCond .eq 14, 3) := by decide +kernel
theorem dX6_countedTells_28 : decode cX6_countedTells 28 = .ok (.aload_n 0, 1) := by decide +kernel
theorem dX6_countedTells_29 : decode cX6_countedTells 29 = .ok (.getfield 12, 3) := by decide +kernel
theorem dX6_countedTells_32 : decode cX6_countedTells 32 = .ok (.iload_n 1, 1) := by decide +kernel
theorem dX6_countedTells_33 : decode cX6_countedTells 33 = .ok (.invokevirtual 98, 3) := by decide +kernel
theorem dX6_countedTells_36 : decode cX6_countedTells 36 = .ok (.goto 12, 3) := by decide +kernel
theorem dX6_countedTells_39 : decode cX6_countedTells 39 = .ok (.aload_n 0, 1) := by decide +kernel
theorem dX6_countedTells_40 : decode cX6_countedTells 40 = .ok (.getfield 12, 3) := by decide +kernel
theorem dX6_countedTells_43 : decode cX6_countedTells 43 = .ok (.getfield 102, 3) := by decide +kernel
theorem dX6_countedTells_46 : decode cX6_countedTells 46 = .ok (.iload_n 1, 1) := by decide +kernel
theorem dX6_countedTells_47 : decode cX6_countedTells 47 = .ok (.iaload, 1) := by decide +kernel
theorem dX6_countedTells_48 : decode cX6_countedTells 48 = .ok (.ireturn, 1) := by decide +kernel
theorem dX6_countedTells_49 : decode cX6_countedTells 49 = .ok (.iload_n 1, 1) := by decide +kernel
theorem dX6_countedTells_50 : decode cX6_countedTells 50 = .ok (.istore_n 3, 1) := by decide +kernel
theorem dX6_countedTells_51 : decode cX6_countedTells 51 = .ok (.aload_n 0, 1) := by decide +kernel
theorem dX6_countedTells_52 : decode cX6_countedTells 52 = .ok (.getfield 40, 3) := by decide +kernel
theorem dX6_countedTells_55 : decode cX6_countedTells 55 = .ok (.invokevirtual 105, 3) := by decide +kernel
theorem dX6_countedTells_58 : decode cX6_countedTells 58 = .ok (.ldc 108, 2) := by decide +kernel
theorem dX6_countedTells_60 : decode cX6_countedTells 60 = .ok (.istore 4, 2) := by decide +kernel
theorem dX6_countedTells_62 : decode cX6_countedTells 62 = .ok (.iload 4, 2) := by decide +kernel
theorem dX6_countedTells_64 : decode cX6_countedTells 64 = .ok (.ifCond .le 65, 3) := by decide +kernel
theorem dX6_countedTells_67 : decode cX6_countedTells 67 = .ok (.aload_n 0, 1) := by decide +kernel
theorem dX6_countedTells_68 : decode cX6_countedTells 68 = .ok (.getfield 40, 3) := by decide +kernel
theorem dX6_countedTells_71 : decode cX6_countedTells 71 = .ok (.invokevirtual 109, 3) := by decide +kernel
theorem dX6_countedTells_74 : decode cX6_countedTells 74 = .ok (.ifCond .eq 55, 3) := by decide +kernel
theorem dX6_countedTells_77 : decode cX6_countedTells 77 = .ok (.aload_n 0, 1) := by decide +kernel
theorem dX6_countedTells_78 : decode cX6_countedTells 78 = .ok (.invokevirtual 113, 3) := by decide +kernel
theorem dX6_countedTells_81 : decode cX6_countedTells 81 = .ok (.ifCond .eq 42, 3) := by decide +kernel
theorem dX6_countedTells_84 : decode cX6_countedTells 84 = .ok (.iload_n 3, 1) := by decide +kernel
theorem dX6_countedTells_85 : decode cX6_countedTells 85 = .ok (.iinc 3 (-1), 3) := by decide +kernel
theorem dX6_countedTells_88 : decode cX6_countedTells 88 = .ok (.ifCond .ne 35, 3) := by decide +kernel
theorem dX6_countedTells_91 : decode cX6_countedTells 91 = .ok (.iload_n 2, 1) := by decide +kernel
theorem dX6_countedTells_92 : decode cX6_countedTells 92 = .ok (.ifCond .eq 23, 3) := by decide +kernel
theorem dX6_countedTells_95 : decode cX6_countedTells 95 = .ok (.aload_n 0, 1) := by decide +kernel
theorem dX6_countedTells_96 : decode cX6_countedTells 96 = .ok (.getfield 40, 3) := by decide +kernel
theorem dX6_countedTells_99 : decode cX6_countedTells 99 = .ok (.getfield 116, 3) := by decide +kernel
theorem dX6_countedTells_102 : decode cX6_countedTells 102 = .ok (.aload_n 0, 1) := by decide +kernel
theorem dX6_countedTells_103 : decode cX6_countedTells 103 = .ok (.getfield 40, 3) := by decide +kernel
theorem dX6_countedTells_106 : decode cX6_countedTells 106 = .ok (.getfield 119, 3) := by decide +kernel
theorem dX6_countedTells_109 : decode cX6_countedTells 109 = .ok (.iconst 1, 1) := by decide +kernel
theorem dX6_countedTells_110 : decode cX6_countedTells 110 = .ok (.isub, 1) := by decide +kernel
theorem dX6_countedTells_111 : decode cX6_countedTells 111 = .ok (.iaload, 1) := by decide +kernel
theorem dX6_countedTells_112 : decode cX6_countedTells 112 = .ok (.goto 10, 3) := by decide +kernel
theorem dX6_countedTells_115 : decode cX6_countedTells 115 = .ok (.aload_n 0, 1) := by decide +kernel
theorem dX6_countedTells_116 : decode cX6_countedTells 116 = .ok (.getfield 40, 3) := by decide +kernel
theorem dX6_countedTells_119 : decode cX6_countedTells 119 = .ok (.getfield 120, 3) := by decide +kernel
theorem dX6_countedTells_122 : decode cX6_countedTells 122 = .ok (.ireturn, 1) := by decide +kernel
theorem dX6_countedTells_123 : decode cX6_countedTells 123 = .ok (.iinc 4 (-1), 3) := by decide +kernel
theorem dX6_countedTells_126 : decode cX6_countedTells 126 = .ok (.goto (-64), 3) := by decide +kernel
theorem dX6_countedTells_129 : decode cX6_countedTells 129 = .ok (.bipush (-4), 2) := by decide +kernel
theorem dX6_countedTells_131 : decode cX6_countedTells 131 = .ok (.ireturn, 1) := by decide +kernel
theorem dX6_spoilt_0 : decode cX6_spoilt 0 = .ok (.aload_n 0, 1) := by decide +kernel
theorem dX6_spoilt_1 : decode cX6_spoilt 1 = .ok (.invokevirtual 54, 3) := by decide +kernel
theorem dX6_spoilt_4 : decode cX6_spoilt 4 = .ok (.aload_n 0, 1) := by decide +kernel
theorem dX6_spoilt_5 : decode cX6_spoilt 5 = .ok (.getfield 61, 3) := by decide +kernel
theorem dX6_spoilt_8 : decode cX6_spoilt 8 = .ok (.ifCond .ne 6, 3) := by decide +kernel
theorem dX6_spoilt_11 : decode cX6_spoilt 11 = .ok (.bipush (-4), 2) := by decide +kernel
theorem dX6_spoilt_13 : decode cX6_spoilt 13 = .ok (.ireturn, 1) := by decide +kernel
theorem dX6_spoilt_14 : decode cX6_spoilt 14 = .ok (.iconst 0, 1) := by decide +kernel
theorem dX6_spoilt_15 : decode cX6_spoilt 15 = .ok (.istore_n 1, 1) := by decide +kernel
theorem dX6_spoilt_16 : decode cX6_spoilt 16 = .ok (.aload_n 0, 1) := by decide +kernel
theorem dX6_spoilt_17 : decode cX6_spoilt 17 = .ok (.getfield 22, 3) := by decide +kernel
theorem dX6_spoilt_20 : decode cX6_spoilt 20 = .ok (.iconst 0, 1) := by decide +kernel
theorem dX6_spoilt_21 : decode cX6_spoilt 21 = .ok (.aload_n 0, 1) := by decide +kernel
theorem dX6_spoilt_22 : decode cX6_spoilt 22 = .ok (.getfield 25, 3) := by decide +kernel
theorem dX6_spoilt_25 : decode cX6_spoilt 25 = .ok (.iconst 0, 1) := by decide +kernel
theorem dX6_spoilt_26 : decode cX6_spoilt 26 = .ok (.bipush 8, 2) := by decide +kernel
theorem dX6_spoilt_28 : decode cX6_spoilt 28 = .ok (.invokestatic 122, 3) := by decide +kernel
theorem dX6_spoilt_31 : decode cX6_spoilt 31 = .ok (.iconst 0, 1) := by decide +kernel
theorem dX6_spoilt_32 : decode cX6_spoilt 32 = .ok (.istore_n 2, 1) := by decide +kernel
theorem dX6_spoilt_33 : decode cX6_spoilt 33 = .ok (.iload_n 2, 1) := by decide +kernel
theorem dX6_spoilt_34 : decode cX6_spoilt 34 = .ok (.aload_n 0, 1) := by decide +kernel
theorem dX6_spoilt_35 : decode cX6_spoilt 35 = .ok (.getfield 31, 3) := by decide +kernel
theorem dX6_spoilt_38 : decode cX6_spoilt 38 = .ok (.getfield 128, 3) := by decide +kernel
theorem dX6_spoilt_41 : decode cX6_spoilt 41 = .ok (.if_icmp .ge 73, 3) := by decide +kernel
theorem dX6_spoilt_44 : decode cX6_spoilt 44 = .ok (.iconst 0, 1) := by decide +kernel
theorem dX6_spoilt_45 : decode cX6_spoilt 45 = .ok (.istore_n 3, 1) := by decide +kernel
theorem dX6_spoilt_46 : decode cX6_spoilt 46 = .ok (.iload_n 3, 1) := by decide +kernel
theorem dX6_spoilt_47 : decode cX6_spoilt 47 = .ok (.aload_n 0, 1) := by decide +kernel
theorem dX6_spoilt_48 : decode cX6_spoilt 48 = .ok (.getfield 31, 3) := by decide +kernel
theorem dX6_spoilt_51 : decode cX6_spoilt 51 = .ok (.getfield 95, 3) := by decide +kernel
theorem dX6_spoilt_54 : decode cX6_spoilt 54 = .ok (.iload_n 2, 1) := by decide +kernel
theorem dX6_spoilt_55 : decode cX6_spoilt 55 = .ok (.iaload, 1) := by decide +kernel
theorem dX6_spoilt_56 : decode cX6_spoilt 56 = .ok (.if_icmp .ge 40, 3) := by decide +kernel
theorem dX6_spoilt_59 : decode cX6_spoilt 59 = .ok (.aload_n 0, 1) := by decide +kernel
theorem dX6_spoilt_60 : decode cX6_spoilt 60 = .ok (.getfield 25, 3) := by decide +kernel
theorem dX6_spoilt_63 : decode cX6_spoilt 63 = .ok (.iload_n 2, 1) := by decide +kernel
theorem dX6_spoilt_64 : decode cX6_spoilt 64 = .ok (.iload_n 3, 1) := by decide +kernel
theorem dX6_spoilt_65 : decode cX6_spoilt 65 = .ok (.iastore, 1) := by decide +kernel
theorem dX6_spoilt_66 : decode cX6_spoilt 66 = .ok (.aload_n 0, 1) := by decide +kernel
theorem dX6_spoilt_67 : decode cX6_spoilt 67 = .ok (.getfield 40, 3) := by decide +kernel
theorem dX6_spoilt_70 : decode cX6_spoilt 70 = .ok (.aload_n 0, 1) := by decide +kernel
theorem dX6_spoilt_71 : decode cX6_spoilt 71 = .ok (.getfield 25, 3) := by decide +kernel
theorem dX6_spoilt_74 : decode cX6_spoilt 74 = .ok (.invokevirtual 131, 3) := by decide +kernel
theorem dX6_spoilt_77 : decode cX6_spoilt 77 = .ok (.ifCond .eq 13, 3) := by decide +kernel
theorem dX6_spoilt_80 : decode cX6_spoilt 80 = .ok (.aload_n 0, 1) := by decide +kernel
theorem dX6_spoilt_81 : decode cX6_spoilt 81 = .ok (.invokevirtual 135, 3) := by decide +kernel
theorem dX6_spoilt_84 : decode cX6_spoilt 84 = .ok (.ifCond .ne 6, 3) := by decide +kernel
theorem dX6_spoilt_87 : decode cX6_spoilt 87 = .ok (.iinc 1 1, 3) := by decide +kernel
theorem dX6_spoilt_90 : decode cX6_spoilt 90 = .ok (.iinc 3 1, 3) := by decide +kernel
theorem dX6_spoilt_93 : decode cX6_spoilt 93 = .ok (.goto (-47), 3) := by decide +kernel
theorem dX6_spoilt_96 : decode cX6_spoilt 96 = .ok (.aload_n 0, 1) := by decide +kernel
theorem dX6_spoilt_97 : decode cX6_spoilt 97 = .ok (.getfield 25, 3) := by decide +kernel
theorem dX6_spoilt_100 : decode cX6_spoilt 100 = .ok (.iload_n 2, 1) := by decide +kernel
theorem dX6_spoilt_101 : decode cX6_spoilt 101 = .ok (.aload_n 0, 1) := by decide +kernel
theorem dX6_spoilt_102 : decode cX6_spoilt 102 = .ok (.getfield 22, 3) := by decide +kernel
theorem dX6_spoilt_105 : decode cX6_spoilt 105 = .ok (.iload_n 2, 1) := by decide +kernel
theorem dX6_spoilt_106 : decode cX6_spoilt 106 = .ok (.iaload, 1) := by decide +kernel
theorem dX6_spoilt_107 : decode cX6_spoilt 107 = .ok (.iastore, 1) := by decide +kernel
theorem dX6_spoilt_108 : decode cX6_spoilt 108 = .ok (.iinc 2 1, 3) := by decide +kernel
theorem dX6_spoilt_111 : decode cX6_spoilt 111 = .ok (.goto (-78), 3) := by decide +kernel
theorem dX6_spoilt_114 : decode cX6_spoilt 114 = .ok (.iload_n 1, 1) := by decide +kernel
theorem dX6_spoilt_115 : decode cX6_spoilt 115 = .ok (.ireturn, 1) := by decide +kernel
theorem dX6_likelihood_0 : decode cX6_likelihood 0 = .ok (.aload_n 0, 1) := by decide +kernel
theorem dX6_likelihood_1 : decode cX6_likelihood 1 = .ok (.iload_n 1, 1) := by decide +kernel
theorem dX6_likelihood_2 : decode cX6_likelihood 2 = .ok (.invokevirtual 138, 3) := by decide +kernel
theorem dX6_likelihood_5 : decode cX6_likelihood 5 = .ok (.aload_n 0, 1) := by decide +kernel
theorem dX6_likelihood_6 : decode cX6_likelihood 6 = .ok (.getfield 142, 3) := by decide +kernel
theorem dX6_likelihood_9 : decode cX6_likelihood 9 = .ok (.aload_n 0, 1) := by decide +kernel
theorem dX6_likelihood_10 : decode cX6_likelihood 10 = .ok (.getfield 146, 3) := by decide +kernel
theorem dX6_likelihood_13 : decode cX6_likelihood 13 = .ok (.invokestatic 149, 3) := by decide +kernel
theorem dX6_likelihood_16 : decode cX6_likelihood 16 = .ok (.lstore_n 3, 1) := by decide +kernel
theorem dX6_likelihood_17 : decode cX6_likelihood 17 = .ok (.aload_n 0, 1) := by decide +kernel
theorem dX6_likelihood_18 : decode cX6_likelihood 18 = .ok (.getfield 142, 3) := by decide +kernel
theorem dX6_likelihood_21 : decode cX6_likelihood 21 = .ok (.lconst 0, 1) := by decide +kernel
theorem dX6_likelihood_22 : decode cX6_likelihood 22 = .ok (.lcmp, 1) := by decide +kernel
theorem dX6_likelihood_23 : decode cX6_likelihood 23 = .ok (.ifCond .eq 9, 3) := by decide +kernel
theorem dX6_likelihood_26 : decode cX6_likelihood 26 = .ok (.lload_n 3, 1) := by decide +kernel
theorem dX6_likelihood_27 : decode cX6_likelihood 27 = .ok (.lconst 0, 1) := by decide +kernel
theorem dX6_likelihood_28 : decode cX6_likelihood 28 = .ok (.lcmp, 1) := by decide +kernel
theorem dX6_likelihood_29 : decode cX6_likelihood 29 = .ok (.ifCond .ne 7, 3) := by decide +kernel
theorem dX6_likelihood_32 : decode cX6_likelihood 32 = .ok (.ldc2_w 153, 3) := by decide +kernel
theorem dX6_likelihood_35 : decode cX6_likelihood 35 = .ok (.lreturn, 1) := by decide +kernel
theorem dX6_likelihood_36 : decode cX6_likelihood 36 = .ok (.iload_n 2, 1) := by decide +kernel
theorem dX6_likelihood_37 : decode cX6_likelihood 37 = .ok (.ifCond .eq 10, 3) := by decide +kernel
theorem dX6_likelihood_40 : decode cX6_likelihood 40 = .ok (.aload_n 0, 1) := by decide +kernel
theorem dX6_likelihood_41 : decode cX6_likelihood 41 = .ok (.getfield 142, 3) := by decide +kernel
theorem dX6_likelihood_44 : decode cX6_likelihood 44 = .ok (.goto 7, 3) := by decide +kernel
theorem dX6_likelihood_47 : decode cX6_likelihood 47 = .ok (.aload_n 0, 1) := by decide +kernel
theorem dX6_likelihood_48 : decode cX6_likelihood 48 = .ok (.getfield 146, 3) := by decide +kernel
theorem dX6_likelihood_51 : decode cX6_likelihood 51 = .ok (.lload_n 3, 1) := by decide +kernel
theorem dX6_likelihood_52 : decode cX6_likelihood 52 = .ok (.ldiv, 1) := by decide +kernel
theorem dX6_likelihood_53 : decode cX6_likelihood 53 = .ok (.lreturn, 1) := by decide +kernel
theorem dX6_kindsMeant_0 : decode cX6_kindsMeant 0 = .ok (.iconst 0, 1) := by decide +kernel
theorem dX6_kindsMeant_1 : decode cX6_kindsMeant 1 = .ok (.istore 4, 2) := by decide +kernel
theorem dX6_kindsMeant_3 : decode cX6_kindsMeant 3 = .ok (.iconst 0, 1) := by decide +kernel
theorem dX6_kindsMeant_4 : decode cX6_kindsMeant 4 = .ok (.istore 5, 2) := by decide +kernel
theorem dX6_kindsMeant_6 : decode cX6_kindsMeant 6 = .ok (.iload 5, 2) := by decide +kernel
theorem dX6_kindsMeant_8 : decode cX6_kindsMeant 8 = .ok (.iconst 5, 1) := by decide +kernel
theorem dX6_kindsMeant_9 : decode cX6_kindsMeant 9 = .ok (.if_icmp .ge 18, 3) := by decide +kernel
theorem dX6_kindsMeant_12 : decode cX6_kindsMeant 12 = .ok (.aload_n 0, 1) := by decide +kernel
theorem dX6_kindsMeant_13 : decode cX6_kindsMeant 13 = .ok (.getfield 28, 3) := by decide +kernel
theorem dX6_kindsMeant_16 : decode cX6_kindsMeant 16 = .ok (.iload 5, 2) := by decide +kernel
theorem dX6_kindsMeant_18 : decode cX6_kindsMeant 18 = .ok (.bipush 80, 2) := by decide +kernel
theorem dX6_kindsMeant_20 : decode cX6_kindsMeant 20 = .ok (.iastore, 1) := by decide +kernel
theorem dX6_kindsMeant_21 : decode cX6_kindsMeant 21 = .ok (.iinc 5 1, 3) := by decide +kernel
theorem dX6_kindsMeant_24 : decode cX6_kindsMeant 24 = .ok (.goto (-18), 3) := by decide +kernel
theorem dX6_kindsMeant_27 : decode cX6_kindsMeant 27 = .ok (.aload_n 0, 1) := by decide +kernel
theorem dX6_kindsMeant_28 : decode cX6_kindsMeant 28 = .ok (.getfield 40, 3) := by decide +kernel
theorem dX6_kindsMeant_31 : decode cX6_kindsMeant 31 = .ok (.invokevirtual 105, 3) := by decide +kernel
theorem dX6_kindsMeant_34 : decode cX6_kindsMeant 34 = .ok (.ldc 108, 2) := by decide +kernel
theorem dX6_kindsMeant_36 : decode cX6_kindsMeant 36 = .ok (.istore 5, 2) := by decide +kernel
theorem dX6_kindsMeant_38 : decode cX6_kindsMeant 38 = .ok (.iload 5, 2) := by decide +kernel
theorem dX6_kindsMeant_40 : decode cX6_kindsMeant 40 = .ok (.ifCond .le 135, 3) := by decide +kernel
theorem dX6_kindsMeant_43 : decode cX6_kindsMeant 43 = .ok (.aload_n 0, 1) := by decide +kernel
theorem dX6_kindsMeant_44 : decode cX6_kindsMeant 44 = .ok (.getfield 40, 3) := by decide +kernel
theorem dX6_kindsMeant_47 : decode cX6_kindsMeant 47 = .ok (.invokevirtual 109, 3) := by decide +kernel
theorem dX6_kindsMeant_50 : decode cX6_kindsMeant 50 = .ok (.ifCond .eq 125, 3) := by decide +kernel
theorem dX6_kindsMeant_53 : decode cX6_kindsMeant 53 = .ok (.aload_n 1, 1) := by decide +kernel
theorem dX6_kindsMeant_54 : decode cX6_kindsMeant 54 = .ok (.iload_n 2, 1) := by decide +kernel
theorem dX6_kindsMeant_55 : decode cX6_kindsMeant 55 = .ok (.iload_n 3, 1) := by decide +kernel
theorem dX6_kindsMeant_56 : decode cX6_kindsMeant 56 = .ok (.aload_n 0, 1) := by decide +kernel
theorem dX6_kindsMeant_57 : decode cX6_kindsMeant 57 = .ok (.getfield 40, 3) := by decide +kernel
theorem dX6_kindsMeant_60 : decode cX6_kindsMeant 60 = .ok (.getfield 116, 3) := by decide +kernel
theorem dX6_kindsMeant_63 : decode cX6_kindsMeant 63 = .ok (.aload_n 0, 1) := by decide +kernel
theorem dX6_kindsMeant_64 : decode cX6_kindsMeant 64 = .ok (.getfield 40, 3) := by decide +kernel
theorem dX6_kindsMeant_67 : decode cX6_kindsMeant 67 = .ok (.getfield 119, 3) := by decide +kernel
theorem dX6_kindsMeant_70 : decode cX6_kindsMeant 70 = .ok (.invokevirtual 155, 3) := by decide +kernel
theorem dX6_kindsMeant_73 : decode cX6_kindsMeant 73 = .ok (.istore 6, 2) := by decide +kernel
theorem dX6_kindsMeant_75 : decode cX6_kindsMeant 75 = .ok (.iconst 0, 1) := by decide +kernel
theorem dX6_kindsMeant_76 : decode cX6_kindsMeant 76 = .ok (.istore 7, 2) := by decide +kernel
theorem dX6_kindsMeant_78 : decode cX6_kindsMeant 78 = .ok (.iload 7, 2) := by decide +kernel
theorem dX6_kindsMeant_80 : decode cX6_kindsMeant 80 = .ok (.iconst 5, 1) := by decide +kernel
theorem dX6_kindsMeant_81 : decode cX6_kindsMeant 81 = .ok (.if_icmp .ge 88, 3) := by decide +kernel
theorem dX6_kindsMeant_84 : decode cX6_kindsMeant 84 = .ok (.aload_n 0, 1) := by decide +kernel
theorem dX6_kindsMeant_85 : decode cX6_kindsMeant 85 = .ok (.getfield 40, 3) := by decide +kernel
theorem dX6_kindsMeant_88 : decode cX6_kindsMeant 88 = .ok (.getfield 120, 3) := by decide +kernel
theorem dX6_kindsMeant_91 : decode cX6_kindsMeant 91 = .ok (.aload_n 0, 1) := by decide +kernel
theorem dX6_kindsMeant_92 : decode cX6_kindsMeant 92 = .ok (.getfield 28, 3) := by decide +kernel
theorem dX6_kindsMeant_95 : decode cX6_kindsMeant 95 = .ok (.iload 7, 2) := by decide +kernel
theorem dX6_kindsMeant_97 : decode cX6_kindsMeant 97 = .ok (.iaload, 1) := by decide +kernel
theorem dX6_kindsMeant_98 : decode cX6_kindsMeant 98 = .ok (.if_icmp .ge 65, 3) := by decide +kernel
theorem dX6_kindsMeant_101 : decode cX6_kindsMeant 101 = .ok (.iload 7, 2) := by decide +kernel
theorem dX6_kindsMeant_103 : decode cX6_kindsMeant 103 = .ok (.aload_n 0, 1) := by decide +kernel
theorem dX6_kindsMeant_104 : decode cX6_kindsMeant 104 = .ok (.getfield 40, 3) := by decide +kernel
theorem dX6_kindsMeant_107 : decode cX6_kindsMeant 107 = .ok (.getfield 116, 3) := by decide +kernel
theorem dX6_kindsMeant_110 : decode cX6_kindsMeant 110 = .ok (.aload_n 0, 1) := by decide +kernel
theorem dX6_kindsMeant_111 : decode cX6_kindsMeant 111 = .ok (.getfield 40, 3) := by decide +kernel
theorem dX6_kindsMeant_114 : decode cX6_kindsMeant 114 = .ok (.getfield 119, 3) := by decide +kernel
theorem dX6_kindsMeant_117 : decode cX6_kindsMeant 117 = .ok (.invokestatic 161, 3) := by decide +kernel
theorem dX6_kindsMeant_120 : decode cX6_kindsMeant 120 = .ok (.ifCond .eq 43, 3) := by decide +kernel
theorem dX6_kindsMeant_123 : decode cX6_kindsMeant 123 = .ok (.aload_n 0, 1) := by decide +kernel
theorem dX6_kindsMeant_124 : decode cX6_kindsMeant 124 = .ok (.getfield 28, 3) := by decide +kernel
theorem dX6_kindsMeant_127 : decode cX6_kindsMeant 127 = .ok (.iload 7, 2) := by decide +kernel
theorem dX6_kindsMeant_129 : decode cX6_kindsMeant 129 = .ok (.aload_n 0, 1) := by decide +kernel
theorem dX6_kindsMeant_130 : decode cX6_kindsMeant 130 = .ok (.getfield 40, 3) := by decide +kernel
theorem dX6_kindsMeant_133 : decode cX6_kindsMeant 133 = .ok (.getfield 120, 3) := by decide +kernel
theorem dX6_kindsMeant_136 : decode cX6_kindsMeant 136 = .ok (.iastore, 1) := by decide +kernel
theorem dX6_kindsMeant_137 : decode cX6_kindsMeant 137 = .ok (.iload 6, 2) := by decide +kernel
theorem dX6_kindsMeant_139 : decode cX6_kindsMeant 139 = .ok (.ifCond .eq 13, 3) := by decide +kernel
theorem dX6_kindsMeant_142 : decode cX6_kindsMeant 142 = .ok (.iload 4, 2) := by decide +kernel
theorem dX6_kindsMeant_144 : decode cX6_kindsMeant 144 = .ok (.iconst 1, 1) := by decide +kernel
theorem dX6_kindsMeant_145 : decode cX6_kindsMeant 145 = .ok (.iload 7, 2) := by decide +kernel
theorem dX6_kindsMeant_147 : decode cX6_kindsMeant 147 = .ok (.ishl, 1) := by decide +kernel
theorem dX6_kindsMeant_148 : decode cX6_kindsMeant 148 = .ok (.ior, 1) := by decide +kernel
theorem dX6_kindsMeant_149 : decode cX6_kindsMeant 149 = .ok (.goto 12, 3) := by decide +kernel
theorem dX6_kindsMeant_152 : decode cX6_kindsMeant 152 = .ok (.iload 4, 2) := by decide +kernel
theorem dX6_kindsMeant_154 : decode cX6_kindsMeant 154 = .ok (.iconst 1, 1) := by decide +kernel
theorem dX6_kindsMeant_155 : decode cX6_kindsMeant 155 = .ok (.iload 7, 2) := by decide +kernel
theorem dX6_kindsMeant_157 : decode cX6_kindsMeant 157 = .ok (.ishl, 1) := by decide +kernel
theorem dX6_kindsMeant_158 : decode cX6_kindsMeant 158 = .ok (.iconst (-1), 1) := by decide +kernel
theorem dX6_kindsMeant_159 : decode cX6_kindsMeant 159 = .ok (.ixor, 1) := by decide +kernel
theorem dX6_kindsMeant_160 : decode cX6_kindsMeant 160 = .ok (.iand, 1) := by decide +kernel
theorem dX6_kindsMeant_161 : decode cX6_kindsMeant 161 = .ok (.istore 4, 2) := by decide +kernel
theorem dX6_kindsMeant_163 : decode cX6_kindsMeant 163 = .ok (.iinc 7 1, 3) := by decide +kernel
theorem dX6_kindsMeant_166 : decode cX6_kindsMeant 166 = .ok (.goto (-88), 3) := by decide +kernel
theorem dX6_kindsMeant_169 : decode cX6_kindsMeant 169 = .ok (.iinc 5 (-1), 3) := by decide +kernel
theorem dX6_kindsMeant_172 : decode cX6_kindsMeant 172 = .ok (.goto (-134), 3) := by decide +kernel
theorem dX6_kindsMeant_175 : decode cX6_kindsMeant 175 = .ok (.iload 4, 2) := by decide +kernel
theorem dX6_kindsMeant_177 : decode cX6_kindsMeant 177 = .ok (.ireturn, 1) := by decide +kernel
theorem dX6_isSound_0 : decode cX6_isSound 0 = .ok (.aload_n 0, 1) := by decide +kernel
theorem dX6_isSound_1 : decode cX6_isSound 1 = .ok (.getfield 31, 3) := by decide +kernel
theorem dX6_isSound_4 : decode cX6_isSound 4 = .ok (.getfield 167, 3) := by decide +kernel
theorem dX6_isSound_7 : decode cX6_isSound 7 = .ok (.aload_n 0, 1) := by decide +kernel
theorem dX6_isSound_8 : decode cX6_isSound 8 = .ok (.getfield 40, 3) := by decide +kernel
theorem dX6_isSound_11 : decode cX6_isSound 11 = .ok (.getfield 116, 3) := by decide +kernel
theorem dX6_isSound_14 : decode cX6_isSound 14 = .ok (.aload_n 0, 1) := by decide +kernel
theorem dX6_isSound_15 : decode cX6_isSound 15 = .ok (.getfield 40, 3) := by decide +kernel
theorem dX6_isSound_18 : decode cX6_isSound 18 = .ok (.getfield 119, 3) := by decide +kernel
theorem dX6_isSound_21 : decode cX6_isSound 21 = .ok (.invokestatic 161, 3) := by decide +kernel
theorem dX6_isSound_24 : decode cX6_isSound 24 = .ok (.ireturn, 1) := by decide +kernel
theorem dX6_isCounted_0 : decode cX6_isCounted 0 = .ok (.aload_n 0, 1) := by decide +kernel
theorem dX6_isCounted_1 : decode cX6_isCounted 1 = .ok (.getfield 40, 3) := by decide +kernel
theorem dX6_isCounted_4 : decode cX6_isCounted 4 = .ok (.getfield 120, 3) := by decide +kernel
theorem dX6_isCounted_7 : decode cX6_isCounted 7 = .ok (.aload_n 0, 1) := by decide +kernel
theorem dX6_isCounted_8 : decode cX6_isCounted 8 = .ok (.getfield 64, 3) := by decide +kernel
theorem dX6_isCounted_11 : decode cX6_isCounted 11 = .ok (.aload_n 0, 1) := by decide +kernel
theorem dX6_isCounted_12 : decode cX6_isCounted 12 = .ok (.getfield 31, 3) := by decide +kernel
theorem dX6_isCounted_15 : decode cX6_isCounted 15 = .ok (.getfield 170, 3) := by decide +kernel
theorem dX6_isCounted_18 : decode cX6_isCounted 18 = .ok (.iadd, 1) := by decide +kernel
theorem dX6_isCounted_19 : decode cX6_isCounted 19 = .ok (.if_icmp .gt 14, 3) := by decide +kernel
theorem dX6_isCounted_22 : decode cX6_isCounted 22 = .ok (.aload_n 0, 1) := by decide +kernel
theorem dX6_isCounted_23 : decode cX6_isCounted 23 = .ok (.invokevirtual 135, 3) := by decide +kernel
theorem dX6_isCounted_26 : decode cX6_isCounted 26 = .ok (.ifCond .eq 7, 3) := by decide +kernel
theorem dX6_isCounted_29 : decode cX6_isCounted 29 = .ok (.iconst 1, 1) := by decide +kernel
theorem dX6_isCounted_30 : decode cX6_isCounted 30 = .ok (.goto 4, 3) := by decide +kernel
theorem dX6_isCounted_33 : decode cX6_isCounted 33 = .ok (.iconst 0, 1) := by decide +kernel
theorem dX6_isCounted_34 : decode cX6_isCounted 34 = .ok (.ireturn, 1) := by decide +kernel
theorem dX6_findBest_0 : decode cX6_findBest 0 = .ok (.aload_n 0, 1) := by decide +kernel
theorem dX6_findBest_1 : decode cX6_findBest 1 = .ok (.getfield 44, 3) := by decide +kernel
theorem dX6_findBest_4 : decode cX6_findBest 4 = .ok (.ifCond .eq 4, 3) := by decide +kernel
theorem dX6_findBest_7 : decode cX6_findBest 7 = .ok (.return_, 1) := by decide +kernel
theorem dX6_findBest_8 : decode cX6_findBest 8 = .ok (.aload_n 0, 1) := by decide +kernel
theorem dX6_findBest_9 : decode cX6_findBest 9 = .ok (.iconst 1, 1) := by decide +kernel
theorem dX6_findBest_10 : decode cX6_findBest 10 = .ok (.putfield 44, 3) := by decide +kernel
theorem dX6_findBest_13 : decode cX6_findBest 13 = .ok (.aload_n 0, 1) := by decide +kernel
theorem dX6_findBest_14 : decode cX6_findBest 14 = .ok (.iconst 0, 1) := by decide +kernel
theorem dX6_findBest_15 : decode cX6_findBest 15 = .ok (.putfield 57, 3) := by decide +kernel
theorem dX6_findBest_18 : decode cX6_findBest 18 = .ok (.aload_n 0, 1) := by decide +kernel
theorem dX6_findBest_19 : decode cX6_findBest 19 = .ok (.iconst 0, 1) := by decide +kernel
theorem dX6_findBest_20 : decode cX6_findBest 20 = .ok (.putfield 61, 3) := by decide +kernel
theorem dX6_findBest_23 : decode cX6_findBest 23 = .ok (.aload_n 0, 1) := by decide +kernel
theorem dX6_findBest_24 : decode cX6_findBest 24 = .ok (.getfield 40, 3) := by decide +kernel
theorem dX6_findBest_27 : decode cX6_findBest 27 = .ok (.invokevirtual 105, 3) := by decide +kernel
theorem dX6_findBest_30 : decode cX6_findBest 30 = .ok (.ldc 108, 2) := by decide +kernel
theorem dX6_findBest_32 : decode cX6_findBest 32 = .ok (.istore_n 1, 1) := by decide +kernel
theorem dX6_findBest_33 : decode cX6_findBest 33 = .ok (.iload_n 1, 1) := by decide +kernel
theorem dX6_findBest_34 : decode cX6_findBest 34 = .ok (.ifCond .le 72, 3) := by decide +kernel
theorem dX6_findBest_37 : decode cX6_findBest 37 = .ok (.aload_n 0, 1) := by decide +kernel
theorem dX6_findBest_38 : decode cX6_findBest 38 = .ok (.getfield 40, 3) := by decide +kernel
theorem dX6_findBest_41 : decode cX6_findBest 41 = .ok (.invokevirtual 109, 3) := by decide +kernel
theorem dX6_findBest_44 : decode cX6_findBest 44 = .ok (.ifCond .eq 62, 3) := by decide +kernel
theorem dX6_findBest_47 : decode cX6_findBest 47 = .ok (.aload_n 0, 1) := by decide +kernel
theorem dX6_findBest_48 : decode cX6_findBest 48 = .ok (.dup, 1) := by decide +kernel
theorem dX6_findBest_49 : decode cX6_findBest 49 = .ok (.getfield 57, 3) := by decide +kernel
theorem dX6_findBest_52 : decode cX6_findBest 52 = .ok (.iconst 1, 1) := by decide +kernel
theorem dX6_findBest_53 : decode cX6_findBest 53 = .ok (.iadd, 1) := by decide +kernel
theorem dX6_findBest_54 : decode cX6_findBest 54 = .ok (.putfield 57, 3) := by decide +kernel
theorem dX6_findBest_57 : decode cX6_findBest 57 = .ok (.aload_n 0, 1) := by decide +kernel
theorem dX6_findBest_58 : decode cX6_findBest 58 = .ok (.invokevirtual 135, 3) := by decide +kernel
theorem dX6_findBest_61 : decode cX6_findBest 61 = .ok (.ifCond .eq 39, 3) := by decide +kernel
theorem dX6_findBest_64 : decode cX6_findBest 64 = .ok (.aload_n 0, 1) := by decide +kernel
theorem dX6_findBest_65 : decode cX6_findBest 65 = .ok (.dup, 1) := by decide +kernel
theorem dX6_findBest_66 : decode cX6_findBest 66 = .ok (.getfield 61, 3) := by decide +kernel
theorem dX6_findBest_69 : decode cX6_findBest 69 = .ok (.iconst 1, 1) := by decide +kernel
theorem dX6_findBest_70 : decode cX6_findBest 70 = .ok (.iadd, 1) := by decide +kernel
theorem dX6_findBest_71 : decode cX6_findBest 71 = .ok (.putfield 61, 3) := by decide +kernel
theorem dX6_findBest_74 : decode cX6_findBest 74 = .ok (.aload_n 0, 1) := by decide +kernel
theorem dX6_findBest_75 : decode cX6_findBest 75 = .ok (.getfield 61, 3) := by decide +kernel
theorem dX6_findBest_78 : decode cX6_findBest 78 = .ok (.iconst 1, 1) := by decide +kernel
theorem dX6_findBest_79 : decode cX6_findBest 79 = .ok (.if_icmp .eq 17, 3) := by decide +kernel
theorem dX6_findBest_82 : decode cX6_findBest 82 = .ok (.aload_n 0, 1) := by decide +kernel
theorem dX6_findBest_83 : decode cX6_findBest 83 = .ok (.getfield 40, 3) := by decide +kernel
theorem dX6_findBest_86 : decode cX6_findBest 86 = .ok (.getfield 120, 3) := by decide +kernel
theorem dX6_findBest_89 : decode cX6_findBest 89 = .ok (.aload_n 0, 1) := by decide +kernel
theorem dX6_findBest_90 : decode cX6_findBest 90 = .ok (.getfield 64, 3) := by decide +kernel
theorem dX6_findBest_93 : decode cX6_findBest 93 = .ok (.if_icmp .ge 7, 3) := by decide +kernel
theorem dX6_findBest_96 : decode cX6_findBest 96 = .ok (.aload_n 0, 1) := by decide +kernel
theorem dX6_findBest_97 : decode cX6_findBest 97 = .ok (.invokevirtual 173, 3) := by decide +kernel
theorem dX6_findBest_100 : decode cX6_findBest 100 = .ok (.iinc 1 (-1), 3) := by decide +kernel
theorem dX6_findBest_103 : decode cX6_findBest 103 = .ok (.goto (-70), 3) := by decide +kernel
theorem dX6_findBest_106 : decode cX6_findBest 106 = .ok (.return_, 1) := by decide +kernel
theorem dX6_keepBest_0 : decode cX6_keepBest 0 = .ok (.aload_n 0, 1) := by decide +kernel
theorem dX6_keepBest_1 : decode cX6_keepBest 1 = .ok (.aload_n 0, 1) := by decide +kernel
theorem dX6_keepBest_2 : decode cX6_keepBest 2 = .ok (.getfield 40, 3) := by decide +kernel
theorem dX6_keepBest_5 : decode cX6_keepBest 5 = .ok (.getfield 120, 3) := by decide +kernel
theorem dX6_keepBest_8 : decode cX6_keepBest 8 = .ok (.putfield 64, 3) := by decide +kernel
theorem dX6_keepBest_11 : decode cX6_keepBest 11 = .ok (.aload_n 0, 1) := by decide +kernel
theorem dX6_keepBest_12 : decode cX6_keepBest 12 = .ok (.aload_n 0, 1) := by decide +kernel
theorem dX6_keepBest_13 : decode cX6_keepBest 13 = .ok (.getfield 40, 3) := by decide +kernel
theorem dX6_keepBest_16 : decode cX6_keepBest 16 = .ok (.getfield 119, 3) := by decide +kernel
theorem dX6_keepBest_19 : decode cX6_keepBest 19 = .ok (.putfield 67, 3) := by decide +kernel
theorem dX6_keepBest_22 : decode cX6_keepBest 22 = .ok (.aload_n 0, 1) := by decide +kernel
theorem dX6_keepBest_23 : decode cX6_keepBest 23 = .ok (.getfield 40, 3) := by decide +kernel
theorem dX6_keepBest_26 : decode cX6_keepBest 26 = .ok (.getfield 116, 3) := by decide +kernel
theorem dX6_keepBest_29 : decode cX6_keepBest 29 = .ok (.iconst 0, 1) := by decide +kernel
theorem dX6_keepBest_30 : decode cX6_keepBest 30 = .ok (.aload_n 0, 1) := by decide +kernel
theorem dX6_keepBest_31 : decode cX6_keepBest 31 = .ok (.getfield 18, 3) := by decide +kernel
theorem dX6_keepBest_34 : decode cX6_keepBest 34 = .ok (.iconst 0, 1) := by decide +kernel
theorem dX6_keepBest_35 : decode cX6_keepBest 35 = .ok (.iconst 4, 1) := by decide +kernel
theorem dX6_keepBest_36 : decode cX6_keepBest 36 = .ok (.invokestatic 122, 3) := by decide +kernel
theorem dX6_keepBest_39 : decode cX6_keepBest 39 = .ok (.iconst 0, 1) := by decide +kernel
theorem dX6_keepBest_40 : decode cX6_keepBest 40 = .ok (.istore_n 1, 1) := by decide +kernel
theorem dX6_keepBest_41 : decode cX6_keepBest 41 = .ok (.iload_n 1, 1) := by decide +kernel
theorem dX6_keepBest_42 : decode cX6_keepBest 42 = .ok (.aload_n 0, 1) := by decide +kernel
theorem dX6_keepBest_43 : decode cX6_keepBest 43 = .ok (.getfield 31, 3) := by decide +kernel
theorem dX6_keepBest_46 : decode cX6_keepBest 46 = .ok (.getfield 128, 3) := by decide +kernel
theorem dX6_keepBest_49 : decode cX6_keepBest 49 = .ok (.if_icmp .ge 23, 3) := by decide +kernel
theorem dX6_keepBest_52 : decode cX6_keepBest 52 = .ok (.aload_n 0, 1) := by decide +kernel
theorem dX6_keepBest_53 : decode cX6_keepBest 53 = .ok (.getfield 22, 3) := by decide +kernel
theorem dX6_keepBest_56 : decode cX6_keepBest 56 = .ok (.iload_n 1, 1) := by decide +kernel
theorem dX6_keepBest_57 : decode cX6_keepBest 57 = .ok (.aload_n 0, 1) := by decide +kernel
theorem dX6_keepBest_58 : decode cX6_keepBest 58 = .ok (.getfield 40, 3) := by decide +kernel
theorem dX6_keepBest_61 : decode cX6_keepBest 61 = .ok (.iload_n 1, 1) := by decide +kernel
theorem dX6_keepBest_62 : decode cX6_keepBest 62 = .ok (.invokevirtual 176, 3) := by decide +kernel
theorem dX6_keepBest_65 : decode cX6_keepBest 65 = .ok (.iastore, 1) := by decide +kernel
theorem dX6_keepBest_66 : decode cX6_keepBest 66 = .ok (.iinc 1 1, 3) := by decide +kernel
theorem dX6_keepBest_69 : decode cX6_keepBest 69 = .ok (.goto (-28), 3) := by decide +kernel
theorem dX6_keepBest_72 : decode cX6_keepBest 72 = .ok (.return_, 1) := by decide +kernel
theorem dX6_findCounted_0 : decode cX6_findCounted 0 = .ok (.aload_n 0, 1) := by decide +kernel
theorem dX6_findCounted_1 : decode cX6_findCounted 1 = .ok (.invokevirtual 54, 3) := by decide +kernel
theorem dX6_findCounted_4 : decode cX6_findCounted 4 = .ok (.aload_n 0, 1) := by decide +kernel
theorem dX6_findCounted_5 : decode cX6_findCounted 5 = .ok (.getfield 12, 3) := by decide +kernel
theorem dX6_findCounted_8 : decode cX6_findCounted 8 = .ok (.getfield 48, 3) := by decide +kernel
theorem dX6_findCounted_11 : decode cX6_findCounted 11 = .ok (.ifCond .eq 4, 3) := by decide +kernel
theorem dX6_findCounted_14 : decode cX6_findCounted 14 = .ok (.return_, 1) := by decide +kernel
theorem dX6_findCounted_15 : decode cX6_findCounted 15 = .ok (.aload_n 0, 1) := by decide +kernel
theorem dX6_findCounted_16 : decode cX6_findCounted 16 = .ok (.getfield 12, 3) := by decide +kernel
theorem dX6_findCounted_19 : decode cX6_findCounted 19 = .ok (.invokevirtual 179, 3) := by decide +kernel
theorem dX6_findCounted_22 : decode cX6_findCounted 22 = .ok (.aload_n 0, 1) := by decide +kernel
theorem dX6_findCounted_23 : decode cX6_findCounted 23 = .ok (.bipush (-4), 2) := by decide +kernel
theorem dX6_findCounted_25 : decode cX6_findCounted 25 = .ok (.putfield 92, 3) := by decide +kernel
theorem dX6_findCounted_28 : decode cX6_findCounted 28 = .ok (.aload_n 0, 1) := by decide +kernel
theorem dX6_findCounted_29 : decode cX6_findCounted 29 = .ok (.getfield 61, 3) := by decide +kernel
theorem dX6_findCounted_32 : decode cX6_findCounted 32 = .ok (.ifCond .ne 4, 3) := by decide +kernel
theorem dX6_findCounted_35 : decode cX6_findCounted 35 = .ok (.return_, 1) := by decide +kernel
theorem dX6_findCounted_36 : decode cX6_findCounted 36 = .ok (.aload_n 0, 1) := by decide +kernel
theorem dX6_findCounted_37 : decode cX6_findCounted 37 = .ok (.getfield 40, 3) := by decide +kernel
theorem dX6_findCounted_40 : decode cX6_findCounted 40 = .ok (.invokevirtual 105, 3) := by decide +kernel
theorem dX6_findCounted_43 : decode cX6_findCounted 43 = .ok (.ldc 108, 2) := by decide +kernel
theorem dX6_findCounted_45 : decode cX6_findCounted 45 = .ok (.istore_n 1, 1) := by decide +kernel
theorem dX6_findCounted_46 : decode cX6_findCounted 46 = .ok (.iload_n 1, 1) := by decide +kernel
theorem dX6_findCounted_47 : decode cX6_findCounted 47 = .ok (.ifCond .le 110, 3) := by decide +kernel
theorem dX6_findCounted_50 : decode cX6_findCounted 50 = .ok (.aload_n 0, 1) := by decide +kernel
theorem dX6_findCounted_51 : decode cX6_findCounted 51 = .ok (.getfield 40, 3) := by decide +kernel
theorem dX6_findCounted_54 : decode cX6_findCounted 54 = .ok (.invokevirtual 109, 3) := by decide +kernel
theorem dX6_findCounted_57 : decode cX6_findCounted 57 = .ok (.ifCond .eq 100, 3) := by decide +kernel
theorem dX6_findCounted_60 : decode cX6_findCounted 60 = .ok (.aload_n 0, 1) := by decide +kernel
theorem dX6_findCounted_61 : decode cX6_findCounted 61 = .ok (.invokevirtual 135, 3) := by decide +kernel
theorem dX6_findCounted_64 : decode cX6_findCounted 64 = .ok (.ifCond .ne 6, 3) := by decide +kernel
theorem dX6_findCounted_67 : decode cX6_findCounted 67 = .ok (.goto 84, 3) := by decide +kernel
theorem dX6_findCounted_70 : decode cX6_findCounted 70 = .ok (.aload_n 0, 1) := by decide +kernel
theorem dX6_findCounted_71 : decode cX6_findCounted 71 = .ok (.getfield 40, 3) := by decide +kernel
theorem dX6_findCounted_74 : decode cX6_findCounted 74 = .ok (.getfield 120, 3) := by decide +kernel
theorem dX6_findCounted_77 : decode cX6_findCounted 77 = .ok (.aload_n 0, 1) := by decide +kernel
theorem dX6_findCounted_78 : decode cX6_findCounted 78 = .ok (.getfield 64, 3) := by decide +kernel
theorem dX6_findCounted_81 : decode cX6_findCounted 81 = .ok (.aload_n 0, 1) := by decide +kernel
theorem dX6_findCounted_82 : decode cX6_findCounted 82 = .ok (.getfield 31, 3) := by decide +kernel
theorem dX6_findCounted_85 : decode cX6_findCounted 85 = .ok (.getfield 170, 3) := by decide +kernel
theorem dX6_findCounted_88 : decode cX6_findCounted 88 = .ok (.iadd, 1) := by decide +kernel
theorem dX6_findCounted_89 : decode cX6_findCounted 89 = .ok (.if_icmp .gt 21, 3) := by decide +kernel
theorem dX6_findCounted_92 : decode cX6_findCounted 92 = .ok (.aload_n 0, 1) := by decide +kernel
theorem dX6_findCounted_93 : decode cX6_findCounted 93 = .ok (.getfield 12, 3) := by decide +kernel
theorem dX6_findCounted_96 : decode cX6_findCounted 96 = .ok (.aload_n 0, 1) := by decide +kernel
theorem dX6_findCounted_97 : decode cX6_findCounted 97 = .ok (.getfield 40, 3) := by decide +kernel
theorem dX6_findCounted_100 : decode cX6_findCounted 100 = .ok (.aload_n 0, 1) := by decide +kernel
theorem dX6_findCounted_101 : decode cX6_findCounted 101 = .ok (.getfield 31, 3) := by decide +kernel
theorem dX6_findCounted_104 : decode cX6_findCounted 104 = .ok (.getfield 128, 3) := by decide +kernel
theorem dX6_findCounted_107 : decode cX6_findCounted 107 = .ok (.invokevirtual 182, 3) := by decide +kernel
theorem dX6_findCounted_110 : decode cX6_findCounted 110 = .ok (.aload_n 0, 1) := by decide +kernel
theorem dX6_findCounted_111 : decode cX6_findCounted 111 = .ok (.getfield 92, 3) := by decide +kernel
theorem dX6_findCounted_114 : decode cX6_findCounted 114 = .ok (.bipush (-4), 2) := by decide +kernel
theorem dX6_findCounted_116 : decode cX6_findCounted 116 = .ok (.if_icmp .eq 17, 3) := by decide +kernel
theorem dX6_findCounted_119 : decode cX6_findCounted 119 = .ok (.aload_n 0, 1) := by decide +kernel
theorem dX6_findCounted_120 : decode cX6_findCounted 120 = .ok (.getfield 40, 3) := by decide +kernel
theorem dX6_findCounted_123 : decode cX6_findCounted 123 = .ok (.getfield 120, 3) := by decide +kernel
theorem dX6_findCounted_126 : decode cX6_findCounted 126 = .ok (.aload_n 0, 1) := by decide +kernel
theorem dX6_findCounted_127 : decode cX6_findCounted 127 = .ok (.getfield 92, 3) := by decide +kernel
theorem dX6_findCounted_130 : decode cX6_findCounted 130 = .ok (.if_icmp .ge 21, 3) := by decide +kernel
theorem dX6_findCounted_133 : decode cX6_findCounted 133 = .ok (.aload_n 0, 1) := by decide +kernel
theorem dX6_findCounted_134 : decode cX6_findCounted 134 = .ok (.invokevirtual 186, 3) := by decide +kernel
theorem dX6_findCounted_137 : decode cX6_findCounted 137 = .ok (.ifCond .ne 14, 3) := by decide +kernel
theorem dX6_findCounted_140 : decode cX6_findCounted 140 = .ok (.aload_n 0, 1) := by decide +kernel
theorem dX6_findCounted_141 : decode cX6_findCounted 141 = .ok (.aload_n 0, 1) := by decide +kernel
theorem dX6_findCounted_142 : decode cX6_findCounted 142 = .ok (.getfield 40, 3) := by decide +kernel
theorem dX6_findCounted_145 : decode cX6_findCounted 145 = .ok (.getfield 120, 3) := by decide +kernel
theorem dX6_findCounted_148 : decode cX6_findCounted 148 = .ok (.putfield 92, 3) := by decide +kernel
theorem dX6_findCounted_151 : decode cX6_findCounted 151 = .ok (.iinc 1 (-1), 3) := by decide +kernel
theorem dX6_findCounted_154 : decode cX6_findCounted 154 = .ok (.goto (-108), 3) := by decide +kernel
theorem dX6_findCounted_157 : decode cX6_findCounted 157 = .ok (.return_, 1) := by decide +kernel
theorem dX6_tellsBest_0 : decode cX6_tellsBest 0 = .ok (.aload_n 0, 1) := by decide +kernel
theorem dX6_tellsBest_1 : decode cX6_tellsBest 1 = .ok (.getfield 40, 3) := by decide +kernel
theorem dX6_tellsBest_4 : decode cX6_tellsBest 4 = .ok (.getfield 119, 3) := by decide +kernel
theorem dX6_tellsBest_7 : decode cX6_tellsBest 7 = .ok (.aload_n 0, 1) := by decide +kernel
theorem dX6_tellsBest_8 : decode cX6_tellsBest 8 = .ok (.getfield 67, 3) := by decide +kernel
theorem dX6_tellsBest_11 : decode cX6_tellsBest 11 = .ok (.if_icmp .eq 5, 3) := by decide +kernel
theorem dX6_tellsBest_14 : decode cX6_tellsBest 14 = .ok (.iconst 0, 1) := by decide +kernel
theorem dX6_tellsBest_15 : decode cX6_tellsBest 15 = .ok (.ireturn, 1) := by decide +kernel
theorem dX6_tellsBest_16 : decode cX6_tellsBest 16 = .ok (.iconst 0, 1) := by decide +kernel
theorem dX6_tellsBest_17 : decode cX6_tellsBest 17 = .ok (.istore_n 1, 1) := by decide +kernel
theorem dX6_tellsBest_18 : decode cX6_tellsBest 18 = .ok (.iload_n 1, 1) := by decide +kernel
theorem dX6_tellsBest_19 : decode cX6_tellsBest 19 = .ok (.aload_n 0, 1) := by decide +kernel
theorem dX6_tellsBest_20 : decode cX6_tellsBest 20 = .ok (.getfield 67, 3) := by decide +kernel
theorem dX6_tellsBest_23 : decode cX6_tellsBest 23 = .ok (.if_icmp .ge 29, 3) := by decide +kernel
theorem dX6_tellsBest_26 : decode cX6_tellsBest 26 = .ok (.aload_n 0, 1) := by decide +kernel
theorem dX6_tellsBest_27 : decode cX6_tellsBest 27 = .ok (.getfield 40, 3) := by decide +kernel
theorem dX6_tellsBest_30 : decode cX6_tellsBest 30 = .ok (.getfield 116, 3) := by decide +kernel
theorem dX6_tellsBest_33 : decode cX6_tellsBest 33 = .ok (.iload_n 1, 1) := by decide +kernel
theorem dX6_tellsBest_34 : decode cX6_tellsBest 34 = .ok (.iaload, 1) := by decide +kernel
theorem dX6_tellsBest_35 : decode cX6_tellsBest 35 = .ok (.aload_n 0, 1) := by decide +kernel
theorem dX6_tellsBest_36 : decode cX6_tellsBest 36 = .ok (.getfield 18, 3) := by decide +kernel
theorem dX6_tellsBest_39 : decode cX6_tellsBest 39 = .ok (.iload_n 1, 1) := by decide +kernel
theorem dX6_tellsBest_40 : decode cX6_tellsBest 40 = .ok (.iaload, 1) := by decide +kernel
theorem dX6_tellsBest_41 : decode cX6_tellsBest 41 = .ok (.if_icmp .eq 5, 3) := by decide +kernel
theorem dX6_tellsBest_44 : decode cX6_tellsBest 44 = .ok (.iconst 0, 1) := by decide +kernel
theorem dX6_tellsBest_45 : decode cX6_tellsBest 45 = .ok (.ireturn, 1) := by decide +kernel
theorem dX6_tellsBest_46 : decode cX6_tellsBest 46 = .ok (.iinc 1 1, 3) := by decide +kernel
theorem dX6_tellsBest_49 : decode cX6_tellsBest 49 = .ok (.goto (-31), 3) := by decide +kernel
theorem dX6_tellsBest_52 : decode cX6_tellsBest 52 = .ok (.iconst 1, 1) := by decide +kernel
theorem dX6_tellsBest_53 : decode cX6_tellsBest 53 = .ok (.ireturn, 1) := by decide +kernel
theorem dX6_weigh_0 : decode cX6_weigh 0 = .ok (.aload_n 0, 1) := by decide +kernel
theorem dX6_weigh_1 : decode cX6_weigh 1 = .ok (.getfield 51, 3) := by decide +kernel
theorem dX6_weigh_4 : decode cX6_weigh 4 = .ok (.ifCond .eq 12, 3) := by decide +kernel
theorem dX6_weigh_7 : decode cX6_weigh 7 = .ok (.aload_n 0, 1) := by decide +kernel
theorem dX6_weigh_8 : decode cX6_weigh 8 = .ok (.getfield 189, 3) := by decide +kernel
theorem dX6_weigh_11 : decode cX6_weigh 11 = .ok (.iload_n 1, 1) := by decide +kernel
theorem dX6_weigh_12 : decode cX6_weigh 12 = .ok (.if_icmp .ne 4, 3) := by decide +kernel
theorem dX6_weigh_15 : decode cX6_weigh 15 = .ok (.return_, 1) := by decide +kernel
theorem dX6_weigh_16 : decode cX6_weigh 16 = .ok (.aload_n 0, 1) := by decide +kernel
theorem dX6_weigh_17 : decode cX6_weigh 17 = .ok (.iconst 1, 1) := by decide +kernel
theorem dX6_weigh_18 : decode cX6_weigh 18 = .ok (.putfield 51, 3) := by decide +kernel
theorem dX6_weigh_21 : decode cX6_weigh 21 = .ok (.aload_n 0, 1) := by decide +kernel
theorem dX6_weigh_22 : decode cX6_weigh 22 = .ok (.iload_n 1, 1) := by decide +kernel
theorem dX6_weigh_23 : decode cX6_weigh 23 = .ok (.putfield 189, 3) := by decide +kernel
theorem dX6_weigh_26 : decode cX6_weigh 26 = .ok (.aload_n 0, 1) := by decide +kernel
theorem dX6_weigh_27 : decode cX6_weigh 27 = .ok (.lconst 0, 1) := by decide +kernel
theorem dX6_weigh_28 : decode cX6_weigh 28 = .ok (.putfield 146, 3) := by decide +kernel
theorem dX6_weigh_31 : decode cX6_weigh 31 = .ok (.aload_n 0, 1) := by decide +kernel
theorem dX6_weigh_32 : decode cX6_weigh 32 = .ok (.lconst 0, 1) := by decide +kernel
theorem dX6_weigh_33 : decode cX6_weigh 33 = .ok (.putfield 142, 3) := by decide +kernel
theorem dX6_weigh_36 : decode cX6_weigh 36 = .ok (.aload_n 0, 1) := by decide +kernel
theorem dX6_weigh_37 : decode cX6_weigh 37 = .ok (.getfield 40, 3) := by decide +kernel
theorem dX6_weigh_40 : decode cX6_weigh 40 = .ok (.invokevirtual 105, 3) := by decide +kernel
theorem dX6_weigh_43 : decode cX6_weigh 43 = .ok (.ldc 108, 2) := by decide +kernel
theorem dX6_weigh_45 : decode cX6_weigh 45 = .ok (.istore_n 2, 1) := by decide +kernel
theorem dX6_weigh_46 : decode cX6_weigh 46 = .ok (.iload_n 2, 1) := by decide +kernel
theorem dX6_weigh_47 : decode cX6_weigh 47 = .ok (.ifCond .le 79, 3) := by decide +kernel
theorem dX6_weigh_50 : decode cX6_weigh 50 = .ok (.aload_n 0, 1) := by decide +kernel
theorem dX6_weigh_51 : decode cX6_weigh 51 = .ok (.getfield 40, 3) := by decide +kernel
theorem dX6_weigh_54 : decode cX6_weigh 54 = .ok (.invokevirtual 109, 3) := by decide +kernel
theorem dX6_weigh_57 : decode cX6_weigh 57 = .ok (.ifCond .eq 69, 3) := by decide +kernel
theorem dX6_weigh_60 : decode cX6_weigh 60 = .ok (.aload_n 0, 1) := by decide +kernel
theorem dX6_weigh_61 : decode cX6_weigh 61 = .ok (.invokevirtual 135, 3) := by decide +kernel
theorem dX6_weigh_64 : decode cX6_weigh 64 = .ok (.ifCond .eq 56, 3) := by decide +kernel
theorem dX6_weigh_67 : decode cX6_weigh 67 = .ok (.aload_n 0, 1) := by decide +kernel
theorem dX6_weigh_68 : decode cX6_weigh 68 = .ok (.dup, 1) := by decide +kernel
theorem dX6_weigh_69 : decode cX6_weigh 69 = .ok (.getfield 142, 3) := by decide +kernel
theorem dX6_weigh_72 : decode cX6_weigh 72 = .ok (.aload_n 0, 1) := by decide +kernel
theorem dX6_weigh_73 : decode cX6_weigh 73 = .ok (.getfield 40, 3) := by decide +kernel
theorem dX6_weigh_76 : decode cX6_weigh 76 = .ok (.getfield 192, 3) := by decide +kernel
theorem dX6_weigh_79 : decode cX6_weigh 79 = .ok (.ladd, 1) := by decide +kernel
theorem dX6_weigh_80 : decode cX6_weigh 80 = .ok (.putfield 142, 3) := by decide +kernel
theorem dX6_weigh_83 : decode cX6_weigh 83 = .ok (.aload_n 0, 1) := by decide +kernel
theorem dX6_weigh_84 : decode cX6_weigh 84 = .ok (.getfield 40, 3) := by decide +kernel
theorem dX6_weigh_87 : decode cX6_weigh 87 = .ok (.getfield 116, 3) := by decide +kernel
theorem dX6_weigh_90 : decode cX6_weigh 90 = .ok (.aload_n 0, 1) := by decide +kernel
theorem dX6_weigh_91 : decode cX6_weigh 91 = .ok (.getfield 40, 3) := by decide +kernel
theorem dX6_weigh_94 : decode cX6_weigh 94 = .ok (.getfield 119, 3) := by decide +kernel
theorem dX6_weigh_97 : decode cX6_weigh 97 = .ok (.iconst 1, 1) := by decide +kernel
theorem dX6_weigh_98 : decode cX6_weigh 98 = .ok (.isub, 1) := by decide +kernel
theorem dX6_weigh_99 : decode cX6_weigh 99 = .ok (.iaload, 1) := by decide +kernel
theorem dX6_weigh_100 : decode cX6_weigh 100 = .ok (.iload_n 1, 1) := by decide +kernel
theorem dX6_weigh_101 : decode cX6_weigh 101 = .ok (.if_icmp .ne 19, 3) := by decide +kernel
theorem dX6_weigh_104 : decode cX6_weigh 104 = .ok (.aload_n 0, 1) := by decide +kernel
theorem dX6_weigh_105 : decode cX6_weigh 105 = .ok (.dup, 1) := by decide +kernel
theorem dX6_weigh_106 : decode cX6_weigh 106 = .ok (.getfield 146, 3) := by decide +kernel
theorem dX6_weigh_109 : decode cX6_weigh 109 = .ok (.aload_n 0, 1) := by decide +kernel
theorem dX6_weigh_110 : decode cX6_weigh 110 = .ok (.getfield 40, 3) := by decide +kernel
theorem dX6_weigh_113 : decode cX6_weigh 113 = .ok (.getfield 192, 3) := by decide +kernel
theorem dX6_weigh_116 : decode cX6_weigh 116 = .ok (.ladd, 1) := by decide +kernel
theorem dX6_weigh_117 : decode cX6_weigh 117 = .ok (.putfield 146, 3) := by decide +kernel
theorem dX6_weigh_120 : decode cX6_weigh 120 = .ok (.iinc 2 (-1), 3) := by decide +kernel
theorem dX6_weigh_123 : decode cX6_weigh 123 = .ok (.goto (-77), 3) := by decide +kernel
theorem dX6_weigh_126 : decode cX6_weigh 126 = .ok (.return_, 1) := by decide +kernel
theorem dX6_divisor_0 : decode cX6_divisor 0 = .ok (.sipush 200, 3) := by decide +kernel
theorem dX6_divisor_3 : decode cX6_divisor 3 = .ok (.istore 4, 2) := by decide +kernel
theorem dX6_divisor_5 : decode cX6_divisor 5 = .ok (.iload 4, 2) := by decide +kernel
theorem dX6_divisor_7 : decode cX6_divisor 7 = .ok (.ifCond .le 25, 3) := by decide +kernel
theorem dX6_divisor_10 : decode cX6_divisor 10 = .ok (.lload_n 2, 1) := by decide +kernel
theorem dX6_divisor_11 : decode cX6_divisor 11 = .ok (.lconst 0, 1) := by decide +kernel
theorem dX6_divisor_12 : decode cX6_divisor 12 = .ok (.lcmp, 1) := by decide +kernel
theorem dX6_divisor_13 : decode cX6_divisor 13 = .ok (.ifCond .eq 19, 3) := by decide +kernel
theorem dX6_divisor_16 : decode cX6_divisor 16 = .ok (.lload_n 0, 1) := by decide +kernel
theorem dX6_divisor_17 : decode cX6_divisor 17 = .ok (.lload_n 2, 1) := by decide +kernel
theorem dX6_divisor_18 : decode cX6_divisor 18 = .ok (.lrem, 1) := by decide +kernel
theorem dX6_divisor_19 : decode cX6_divisor 19 = .ok (.lstore 5, 2) := by decide +kernel
theorem dX6_divisor_21 : decode cX6_divisor 21 = .ok (.lload_n 2, 1) := by decide +kernel
theorem dX6_divisor_22 : decode cX6_divisor 22 = .ok (.lstore_n 0, 1) := by decide +kernel
theorem dX6_divisor_23 : decode cX6_divisor 23 = .ok (.lload 5, 2) := by decide +kernel
theorem dX6_divisor_25 : decode cX6_divisor 25 = .ok (.lstore_n 2, 1) := by decide +kernel
theorem dX6_divisor_26 : decode cX6_divisor 26 = .ok (.iinc 4 (-1), 3) := by decide +kernel
theorem dX6_divisor_29 : decode cX6_divisor 29 = .ok (.goto (-24), 3) := by decide +kernel
theorem dX6_divisor_32 : decode cX6_divisor 32 = .ok (.lload_n 0, 1) := by decide +kernel
theorem dX6_divisor_33 : decode cX6_divisor 33 = .ok (.lreturn, 1) := by decide +kernel
theorem dX7_init_0 : decode cX7_init 0 = .ok (.aload_n 0, 1) := by decide +kernel
theorem dX7_init_1 : decode cX7_init 1 = .ok (.invokespecial 3, 3) := by decide +kernel
theorem dX7_init_4 : decode cX7_init 4 = .ok (.aload_n 0, 1) := by decide +kernel
theorem dX7_init_5 : decode cX7_init 5 = .ok (.bipush 9, 2) := by decide +kernel
theorem dX7_init_7 : decode cX7_init 7 = .ok (.newarray .int, 2) := by decide +kernel
theorem dX7_init_9 : decode cX7_init 9 = .ok (.putfield 9, 3) := by decide +kernel
theorem dX7_init_12 : decode cX7_init 12 = .ok (.aload_n 0, 1) := by decide +kernel
theorem dX7_init_13 : decode cX7_init 13 = .ok (.bipush 9, 2) := by decide +kernel
theorem dX7_init_15 : decode cX7_init 15 = .ok (.newarray .int, 2) := by decide +kernel
theorem dX7_init_17 : decode cX7_init 17 = .ok (.putfield 15, 3) := by decide +kernel
theorem dX7_init_20 : decode cX7_init 20 = .ok (.aload_n 0, 1) := by decide +kernel
theorem dX7_init_21 : decode cX7_init 21 = .ok (.bipush 9, 2) := by decide +kernel
theorem dX7_init_23 : decode cX7_init 23 = .ok (.newarray .int, 2) := by decide +kernel
theorem dX7_init_25 : decode cX7_init 25 = .ok (.putfield 18, 3) := by decide +kernel
theorem dX7_init_28 : decode cX7_init 28 = .ok (.aload_n 0, 1) := by decide +kernel
theorem dX7_init_29 : decode cX7_init 29 = .ok (.bipush 9, 2) := by decide +kernel
theorem dX7_init_31 : decode cX7_init 31 = .ok (.newarray .int, 2) := by decide +kernel
theorem dX7_init_33 : decode cX7_init 33 = .ok (.putfield 21, 3) := by decide +kernel
theorem dX7_init_36 : decode cX7_init 36 = .ok (.aload_n 0, 1) := by decide +kernel
theorem dX7_init_37 : decode cX7_init 37 = .ok (.bipush 9, 2) := by decide +kernel
theorem dX7_init_39 : decode cX7_init 39 = .ok (.newarray .int, 2) := by decide +kernel
theorem dX7_init_41 : decode cX7_init 41 = .ok (.putfield 24, 3) := by decide +kernel
theorem dX7_init_44 : decode cX7_init 44 = .ok (.aload_n 0, 1) := by decide +kernel
theorem dX7_init_45 : decode cX7_init 45 = .ok (.bipush 9, 2) := by decide +kernel
theorem dX7_init_47 : decode cX7_init 47 = .ok (.newarray .int, 2) := by decide +kernel
theorem dX7_init_49 : decode cX7_init 49 = .ok (.putfield 27, 3) := by decide +kernel
theorem dX7_init_52 : decode cX7_init 52 = .ok (.aload_n 0, 1) := by decide +kernel
theorem dX7_init_53 : decode cX7_init 53 = .ok (.bipush 9, 2) := by decide +kernel
theorem dX7_init_55 : decode cX7_init 55 = .ok (.newarray .long, 2) := by decide +kernel
theorem dX7_init_57 : decode cX7_init 57 = .ok (.putfield 30, 3) := by decide +kernel
theorem dX7_init_60 : decode cX7_init 60 = .ok (.aload_n 0, 1) := by decide +kernel
theorem dX7_init_61 : decode cX7_init 61 = .ok (.iconst 4, 1) := by decide +kernel
theorem dX7_init_62 : decode cX7_init 62 = .ok (.newarray .int, 2) := by decide +kernel
theorem dX7_init_64 : decode cX7_init 64 = .ok (.putfield 34, 3) := by decide +kernel
theorem dX7_init_67 : decode cX7_init 67 = .ok (.aload_n 0, 1) := by decide +kernel
theorem dX7_init_68 : decode cX7_init 68 = .ok (.aload_n 1, 1) := by decide +kernel
theorem dX7_init_69 : decode cX7_init 69 = .ok (.putfield 37, 3) := by decide +kernel
theorem dX7_init_72 : decode cX7_init 72 = .ok (.return_, 1) := by decide +kernel
theorem dX7_begin_0 : decode cX7_begin 0 = .ok (.aload_n 0, 1) := by decide +kernel
theorem dX7_begin_1 : decode cX7_begin 1 = .ok (.iconst 0, 1) := by decide +kernel
theorem dX7_begin_2 : decode cX7_begin 2 = .ok (.putfield 41, 3) := by decide +kernel
theorem dX7_begin_5 : decode cX7_begin 5 = .ok (.aload_n 0, 1) := by decide +kernel
theorem dX7_begin_6 : decode cX7_begin 6 = .ok (.getfield 9, 3) := by decide +kernel
theorem dX7_begin_9 : decode cX7_begin 9 = .ok (.iconst 0, 1) := by decide +kernel
theorem dX7_begin_10 : decode cX7_begin 10 = .ok (.iconst 0, 1) := by decide +kernel
theorem dX7_begin_11 : decode cX7_begin 11 = .ok (.iastore, 1) := by decide +kernel
theorem dX7_begin_12 : decode cX7_begin 12 = .ok (.aload_n 0, 1) := by decide +kernel
theorem dX7_begin_13 : decode cX7_begin 13 = .ok (.getfield 15, 3) := by decide +kernel
theorem dX7_begin_16 : decode cX7_begin 16 = .ok (.iconst 0, 1) := by decide +kernel
theorem dX7_begin_17 : decode cX7_begin 17 = .ok (.iconst 0, 1) := by decide +kernel
theorem dX7_begin_18 : decode cX7_begin 18 = .ok (.iastore, 1) := by decide +kernel
theorem dX7_begin_19 : decode cX7_begin 19 = .ok (.aload_n 0, 1) := by decide +kernel
theorem dX7_begin_20 : decode cX7_begin 20 = .ok (.getfield 18, 3) := by decide +kernel
theorem dX7_begin_23 : decode cX7_begin 23 = .ok (.iconst 0, 1) := by decide +kernel
theorem dX7_begin_24 : decode cX7_begin 24 = .ok (.iconst 0, 1) := by decide +kernel
theorem dX7_begin_25 : decode cX7_begin 25 = .ok (.iastore, 1) := by decide +kernel
theorem dX7_begin_26 : decode cX7_begin 26 = .ok (.aload_n 0, 1) := by decide +kernel
theorem dX7_begin_27 : decode cX7_begin 27 = .ok (.getfield 21, 3) := by decide +kernel
theorem dX7_begin_30 : decode cX7_begin 30 = .ok (.iconst 0, 1) := by decide +kernel
theorem dX7_begin_31 : decode cX7_begin 31 = .ok (.iconst 0, 1) := by decide +kernel
theorem dX7_begin_32 : decode cX7_begin 32 = .ok (.iastore, 1) := by decide +kernel
theorem dX7_begin_33 : decode cX7_begin 33 = .ok (.aload_n 0, 1) := by decide +kernel
theorem dX7_begin_34 : decode cX7_begin 34 = .ok (.getfield 24, 3) := by decide +kernel
theorem dX7_begin_37 : decode cX7_begin 37 = .ok (.iconst 0, 1) := by decide +kernel
theorem dX7_begin_38 : decode cX7_begin 38 = .ok (.iconst 0, 1) := by decide +kernel
theorem dX7_begin_39 : decode cX7_begin 39 = .ok (.iastore, 1) := by decide +kernel
theorem dX7_begin_40 : decode cX7_begin 40 = .ok (.aload_n 0, 1) := by decide +kernel
theorem dX7_begin_41 : decode cX7_begin 41 = .ok (.getfield 27, 3) := by decide +kernel
theorem dX7_begin_44 : decode cX7_begin 44 = .ok (.iconst 0, 1) := by decide +kernel
theorem dX7_begin_45 : decode cX7_begin 45 = .ok (.iconst 0, 1) := by decide +kernel
theorem dX7_begin_46 : decode cX7_begin 46 = .ok (.iastore, 1) := by decide +kernel
theorem dX7_begin_47 : decode cX7_begin 47 = .ok (.aload_n 0, 1) := by decide +kernel
theorem dX7_begin_48 : decode cX7_begin 48 = .ok (.getfield 30, 3) := by decide +kernel
theorem dX7_begin_51 : decode cX7_begin 51 = .ok (.iconst 0, 1) := by decide +kernel
theorem dX7_begin_52 : decode cX7_begin 52 = .ok (.lconst 1, 1) := by decide +kernel
theorem dX7_begin_53 : decode cX7_begin 53 = .ok (.lastore, 1) := by decide +kernel
theorem dX7_begin_54 : decode cX7_begin 54 = .ok (.return_, 1) := by decide +kernel
theorem dX7_step_0 : decode cX7_step 0 = .ok (.ldc 45, 2) := by decide +kernel
theorem dX7_step_2 : decode cX7_step 2 = .ok (.istore_n 1, 1) := by decide +kernel
theorem dX7_step_3 : decode cX7_step 3 = .ok (.iload_n 1, 1) := by decide +kernel
theorem dX7_step_4 : decode cX7_step 4 = .ok (.ifCond .le 149, 3) := by decide +kernel
theorem dX7_step_7 : decode cX7_step 7 = .ok (.aload_n 0, 1) := by decide +kernel
theorem dX7_step_8 : decode cX7_step 8 = .ok (.getfield 41, 3) := by decide +kernel
theorem dX7_step_11 : decode cX7_step 11 = .ok (.ifCond .lt 142, 3) := by decide +kernel
theorem dX7_step_14 : decode cX7_step 14 = .ok (.aload_n 0, 1) := by decide +kernel
theorem dX7_step_15 : decode cX7_step 15 = .ok (.getfield 41, 3) := by decide +kernel
theorem dX7_step_18 : decode cX7_step 18 = .ok (.aload_n 0, 1) := by decide +kernel
theorem dX7_step_19 : decode cX7_step 19 = .ok (.getfield 37, 3) := by decide +kernel
theorem dX7_step_22 : decode cX7_step 22 = .ok (.getfield 46, 3) := by decide +kernel
theorem dX7_step_25 : decode cX7_step 25 = .ok (.if_icmp .lt 31, 3) := by decide +kernel
theorem dX7_step_28 : decode cX7_step 28 = .ok (.aload_n 0, 1) := by decide +kernel
theorem dX7_step_29 : decode cX7_step 29 = .ok (.aload_n 0, 1) := by decide +kernel
theorem dX7_step_30 : decode cX7_step 30 = .ok (.getfield 41, 3) := by decide +kernel
theorem dX7_step_33 : decode cX7_step 33 = .ok (.invokevirtual 51, 3) := by decide +kernel
theorem dX7_step_36 : decode cX7_step 36 = .ok (.istore_n 2, 1) := by decide +kernel
theorem dX7_step_37 : decode cX7_step 37 = .ok (.aload_n 0, 1) := by decide +kernel
theorem dX7_step_38 : decode cX7_step 38 = .ok (.dup, 1) := by decide +kernel
theorem dX7_step_39 : decode cX7_step 39 = .ok (.getfield 41, 3) := by decide +kernel
theorem dX7_step_42 : decode cX7_step 42 = .ok (.iconst 1, 1) := by decide +kernel
theorem dX7_step_43 : decode cX7_step 43 = .ok (.isub, 1) := by decide +kernel
theorem dX7_step_44 : decode cX7_step 44 = .ok (.putfield 41, 3) := by decide +kernel
theorem dX7_step_47 : decode cX7_step 47 = .ok (.iload_n 2, 1) := by decide +kernel
theorem dX7_step_48 : decode cX7_step 48 = .ok (.ifCond .eq 5, 3) := by decide +kernel
theorem dX7_step_51 : decode cX7_step 51 = .ok (.iconst 1, 1) := by decide +kernel
theorem dX7_step_52 : decode cX7_step 52 = .ok (.ireturn, 1) := by decide +kernel
theorem dX7_step_53 : decode cX7_step 53 = .ok (.goto 94, 3) := by decide +kernel
theorem dX7_step_56 : decode cX7_step 56 = .ok (.aload_n 0, 1) := by decide +kernel
theorem dX7_step_57 : decode cX7_step 57 = .ok (.getfield 9, 3) := by decide +kernel
theorem dX7_step_60 : decode cX7_step 60 = .ok (.aload_n 0, 1) := by decide +kernel
theorem dX7_step_61 : decode cX7_step 61 = .ok (.getfield 41, 3) := by decide +kernel
theorem dX7_step_64 : decode cX7_step 64 = .ok (.iaload, 1) := by decide +kernel
theorem dX7_step_65 : decode cX7_step 65 = .ok (.aload_n 0, 1) := by decide +kernel
theorem dX7_step_66 : decode cX7_step 66 = .ok (.getfield 37, 3) := by decide +kernel
theorem dX7_step_69 : decode cX7_step 69 = .ok (.getfield 55, 3) := by decide +kernel
theorem dX7_step_72 : decode cX7_step 72 = .ok (.aload_n 0, 1) := by decide +kernel
theorem dX7_step_73 : decode cX7_step 73 = .ok (.getfield 41, 3) := by decide +kernel
theorem dX7_step_76 : decode cX7_step 76 = .ok (.iaload, 1) := by decide +kernel
theorem dX7_step_77 : decode cX7_step 77 = .ok (.if_icmp .lt 16, 3) := by decide +kernel
theorem dX7_step_80 : decode cX7_step 80 = .ok (.aload_n 0, 1) := by decide +kernel
theorem dX7_step_81 : decode cX7_step 81 = .ok (.dup, 1) := by decide +kernel
theorem dX7_step_82 : decode cX7_step 82 = .ok (.getfield 41, 3) := by decide +kernel
theorem dX7_step_85 : decode cX7_step 85 = .ok (.iconst 1, 1) := by decide +kernel
theorem dX7_step_86 : decode cX7_step 86 = .ok (.isub, 1) := by decide +kernel
theorem dX7_step_87 : decode cX7_step 87 = .ok (.putfield 41, 3) := by decide +kernel
theorem dX7_step_90 : decode cX7_step 90 = .ok (.goto 57, 3) := by decide +kernel
theorem dX7_step_93 : decode cX7_step 93 = .ok (.aload_n 0, 1) := by decide +kernel
theorem dX7_step_94 : decode cX7_step 94 = .ok (.getfield 9, 3) := by decide +kernel
theorem dX7_step_97 : decode cX7_step 97 = .ok (.aload_n 0, 1) := by decide +kernel
theorem dX7_step_98 : decode cX7_step 98 = .ok (.getfield 41, 3) := by decide +kernel
theorem dX7_step_101 : decode cX7_step 101 = .ok (.iaload, 1) := by decide +kernel
theorem dX7_step_102 : decode cX7_step 102 = .ok (.istore_n 2, 1) := by decide +kernel
theorem dX7_step_103 : decode cX7_step 103 = .ok (.aload_n 0, 1) := by decide +kernel
theorem dX7_step_104 : decode cX7_step 104 = .ok (.getfield 9, 3) := by decide +kernel
theorem dX7_step_107 : decode cX7_step 107 = .ok (.aload_n 0, 1) := by decide +kernel
theorem dX7_step_108 : decode cX7_step 108 = .ok (.getfield 41, 3) := by decide +kernel
theorem dX7_step_111 : decode cX7_step 111 = .ok (.iload_n 2, 1) := by decide +kernel
theorem dX7_step_112 : decode cX7_step 112 = .ok (.iconst 1, 1) := by decide +kernel
theorem dX7_step_113 : decode cX7_step 113 = .ok (.iadd, 1) := by decide +kernel
theorem dX7_step_114 : decode cX7_step 114 = .ok (.iastore, 1) := by decide +kernel
theorem dX7_step_115 : decode cX7_step 115 = .ok (.aload_n 0, 1) := by decide +kernel
theorem dX7_step_116 : decode cX7_step 116 = .ok (.aload_n 0, 1) := by decide +kernel
theorem dX7_step_117 : decode cX7_step 117 = .ok (.getfield 41, 3) := by decide +kernel
theorem dX7_step_120 : decode cX7_step 120 = .ok (.iload_n 2, 1) := by decide +kernel
theorem dX7_step_121 : decode cX7_step 121 = .ok (.invokevirtual 58, 3) := by decide +kernel
theorem dX7_step_124 : decode cX7_step 124 = .ok (.ifCond .eq 23, 3) := by decide +kernel
theorem dX7_step_127 : decode cX7_step 127 = .ok (.aload_n 0, 1) := by decide +kernel
theorem dX7_step_128 : decode cX7_step 128 = .ok (.dup, 1) := by decide +kernel
theorem dX7_step_129 : decode cX7_step 129 = .ok (.getfield 41, 3) := by decide +kernel
theorem dX7_step_132 : decode cX7_step 132 = .ok (.iconst 1, 1) := by decide +kernel
theorem dX7_step_133 : decode cX7_step 133 = .ok (.iadd, 1) := by decide +kernel
theorem dX7_step_134 : decode cX7_step 134 = .ok (.putfield 41, 3) := by decide +kernel
theorem dX7_step_137 : decode cX7_step 137 = .ok (.aload_n 0, 1) := by decide +kernel
theorem dX7_step_138 : decode cX7_step 138 = .ok (.getfield 9, 3) := by decide +kernel
theorem dX7_step_141 : decode cX7_step 141 = .ok (.aload_n 0, 1) := by decide +kernel
theorem dX7_step_142 : decode cX7_step 142 = .ok (.getfield 41, 3) := by decide +kernel
theorem dX7_step_145 : decode cX7_step 145 = .ok (.iconst 0, 1) := by decide +kernel
theorem dX7_step_146 : decode cX7_step 146 = .ok (.iastore, 1) := by decide +kernel
theorem dX7_step_147 : decode cX7_step 147 = .ok (.iinc 1 (-1), 3) := by decide +kernel
theorem dX7_step_150 : decode cX7_step 150 = .ok (.goto (-147), 3) := by decide +kernel
theorem dX7_step_153 : decode cX7_step 153 = .ok (.iconst 0, 1) := by decide +kernel
theorem dX7_step_154 : decode cX7_step 154 = .ok (.ireturn, 1) := by decide +kernel
theorem dX7_pick_0 : decode cX7_pick 0 = .ok (.aload_n 0, 1) := by decide +kernel
theorem dX7_pick_1 : decode cX7_pick 1 = .ok (.getfield 9, 3) := by decide +kernel
theorem dX7_pick_4 : decode cX7_pick 4 = .ok (.iload_n 1, 1) := by decide +kernel
theorem dX7_pick_5 : decode cX7_pick 5 = .ok (.iaload, 1) := by decide +kernel
theorem dX7_pick_6 : decode cX7_pick 6 = .ok (.iconst 1, 1) := by decide +kernel
theorem dX7_pick_7 : decode cX7_pick 7 = .ok (.isub, 1) := by decide +kernel
theorem dX7_pick_8 : decode cX7_pick 8 = .ok (.ireturn, 1) := by decide +kernel
theorem dX7_isSaid_0 : decode cX7_isSaid 0 = .ok (.aload_n 0, 1) := by decide +kernel
theorem dX7_isSaid_1 : decode cX7_isSaid 1 = .ok (.invokevirtual 62, 3) := by decide +kernel
theorem dX7_isSaid_4 : decode cX7_isSaid 4 = .ok (.iconst 0, 1) := by decide +kernel
theorem dX7_isSaid_5 : decode cX7_isSaid 5 = .ok (.istore_n 2, 1) := by decide +kernel
theorem dX7_isSaid_6 : decode cX7_isSaid 6 = .ok (.iload_n 2, 1) := by decide +kernel
theorem dX7_isSaid_7 : decode cX7_isSaid 7 = .ok (.aload_n 0, 1) := by decide +kernel
theorem dX7_isSaid_8 : decode cX7_isSaid 8 = .ok (.getfield 37, 3) := by decide +kernel
theorem dX7_isSaid_11 : decode cX7_isSaid 11 = .ok (.getfield 46, 3) := by decide +kernel
theorem dX7_isSaid_14 : decode cX7_isSaid 14 = .ok (.if_icmp .ge 22, 3) := by decide +kernel
theorem dX7_isSaid_17 : decode cX7_isSaid 17 = .ok (.aload_n 0, 1) := by decide +kernel
theorem dX7_isSaid_18 : decode cX7_isSaid 18 = .ok (.iload_n 2, 1) := by decide +kernel
theorem dX7_isSaid_19 : decode cX7_isSaid 19 = .ok (.aload_n 1, 1) := by decide +kernel
theorem dX7_isSaid_20 : decode cX7_isSaid 20 = .ok (.iload_n 2, 1) := by decide +kernel
theorem dX7_isSaid_21 : decode cX7_isSaid 21 = .ok (.iaload, 1) := by decide +kernel
theorem dX7_isSaid_22 : decode cX7_isSaid 22 = .ok (.invokevirtual 58, 3) := by decide +kernel
theorem dX7_isSaid_25 : decode cX7_isSaid 25 = .ok (.ifCond .ne 5, 3) := by decide +kernel
theorem dX7_isSaid_28 : decode cX7_isSaid 28 = .ok (.iconst 0, 1) := by decide +kernel
theorem dX7_isSaid_29 : decode cX7_isSaid 29 = .ok (.ireturn, 1) := by decide +kernel
theorem dX7_isSaid_30 : decode cX7_isSaid 30 = .ok (.iinc 2 1, 3) := by decide +kernel
theorem dX7_isSaid_33 : decode cX7_isSaid 33 = .ok (.goto (-27), 3) := by decide +kernel
theorem dX7_isSaid_36 : decode cX7_isSaid 36 = .ok (.aload_n 0, 1) := by decide +kernel
theorem dX7_isSaid_37 : decode cX7_isSaid 37 = .ok (.aload_n 0, 1) := by decide +kernel
theorem dX7_isSaid_38 : decode cX7_isSaid 38 = .ok (.getfield 37, 3) := by decide +kernel
theorem dX7_isSaid_41 : decode cX7_isSaid 41 = .ok (.getfield 46, 3) := by decide +kernel
theorem dX7_isSaid_44 : decode cX7_isSaid 44 = .ok (.invokevirtual 51, 3) := by decide +kernel
theorem dX7_isSaid_47 : decode cX7_isSaid 47 = .ok (.ireturn, 1) := by decide +kernel
theorem dX7_finish_0 : decode cX7_finish 0 = .ok (.aload_n 0, 1) := by decide +kernel
theorem dX7_finish_1 : decode cX7_finish 1 = .ok (.iload_n 1, 1) := by decide +kernel
theorem dX7_finish_2 : decode cX7_finish 2 = .ok (.invokevirtual 65, 3) := by decide +kernel
theorem dX7_finish_5 : decode cX7_finish 5 = .ok (.ifCond .eq 13, 3) := by decide +kernel
theorem dX7_finish_8 : decode cX7_finish 8 = .ok (.aload_n 0, 1) := by decide +kernel
theorem dX7_finish_9 : decode cX7_finish 9 = .ok (.getfield 24, 3) := by decide +kernel
theorem dX7_finish_12 : decode cX7_finish 12 = .ok (.iload_n 1, 1) := by decide +kernel
theorem dX7_finish_13 : decode cX7_finish 13 = .ok (.iaload, 1) := by decide +kernel
theorem dX7_finish_14 : decode cX7_finish 14 = .ok (.iconst 4, 1) := by decide +kernel
theorem dX7_finish_15 : decode cX7_finish 15 = .ok (.if_icmp .lt 5, 3) := by decide +kernel
theorem dX7_finish_18 : decode cX7_finish 18 = .ok (.iconst 0, 1) := by decide +kernel
theorem dX7_finish_19 : decode cX7_finish 19 = .ok (.ireturn, 1) := by decide +kernel
theorem dX7_finish_20 : decode cX7_finish 20 = .ok (.aload_n 0, 1) := by decide +kernel
theorem dX7_finish_21 : decode cX7_finish 21 = .ok (.getfield 34, 3) := by decide +kernel
theorem dX7_finish_24 : decode cX7_finish 24 = .ok (.aload_n 0, 1) := by decide +kernel
theorem dX7_finish_25 : decode cX7_finish 25 = .ok (.getfield 24, 3) := by decide +kernel
theorem dX7_finish_28 : decode cX7_finish 28 = .ok (.iload_n 1, 1) := by decide +kernel
theorem dX7_finish_29 : decode cX7_finish 29 = .ok (.iaload, 1) := by decide +kernel
theorem dX7_finish_30 : decode cX7_finish 30 = .ok (.aload_n 0, 1) := by decide +kernel
theorem dX7_finish_31 : decode cX7_finish 31 = .ok (.getfield 18, 3) := by decide +kernel
theorem dX7_finish_34 : decode cX7_finish 34 = .ok (.iload_n 1, 1) := by decide +kernel
theorem dX7_finish_35 : decode cX7_finish 35 = .ok (.iaload, 1) := by decide +kernel
theorem dX7_finish_36 : decode cX7_finish 36 = .ok (.aload_n 0, 1) := by decide +kernel
theorem dX7_finish_37 : decode cX7_finish 37 = .ok (.getfield 21, 3) := by decide +kernel
theorem dX7_finish_40 : decode cX7_finish 40 = .ok (.iload_n 1, 1) := by decide +kernel
theorem dX7_finish_41 : decode cX7_finish 41 = .ok (.iaload, 1) := by decide +kernel
theorem dX7_finish_42 : decode cX7_finish 42 = .ok (.iadd, 1) := by decide +kernel
theorem dX7_finish_43 : decode cX7_finish 43 = .ok (.iastore, 1) := by decide +kernel
theorem dX7_finish_44 : decode cX7_finish 44 = .ok (.aload_n 0, 1) := by decide +kernel
theorem dX7_finish_45 : decode cX7_finish 45 = .ok (.aload_n 0, 1) := by decide +kernel
theorem dX7_finish_46 : decode cX7_finish 46 = .ok (.getfield 24, 3) := by decide +kernel
theorem dX7_finish_49 : decode cX7_finish 49 = .ok (.iload_n 1, 1) := by decide +kernel
theorem dX7_finish_50 : decode cX7_finish 50 = .ok (.iaload, 1) := by decide +kernel
theorem dX7_finish_51 : decode cX7_finish 51 = .ok (.iconst 1, 1) := by decide +kernel
theorem dX7_finish_52 : decode cX7_finish 52 = .ok (.iadd, 1) := by decide +kernel
theorem dX7_finish_53 : decode cX7_finish 53 = .ok (.putfield 68, 3) := by decide +kernel
theorem dX7_finish_56 : decode cX7_finish 56 = .ok (.aload_n 0, 1) := by decide +kernel
theorem dX7_finish_57 : decode cX7_finish 57 = .ok (.aload_n 0, 1) := by decide +kernel
theorem dX7_finish_58 : decode cX7_finish 58 = .ok (.getfield 27, 3) := by decide +kernel
theorem dX7_finish_61 : decode cX7_finish 61 = .ok (.iload_n 1, 1) := by decide +kernel
theorem dX7_finish_62 : decode cX7_finish 62 = .ok (.iaload, 1) := by decide +kernel
theorem dX7_finish_63 : decode cX7_finish 63 = .ok (.putfield 71, 3) := by decide +kernel
theorem dX7_finish_66 : decode cX7_finish 66 = .ok (.aload_n 0, 1) := by decide +kernel
theorem dX7_finish_67 : decode cX7_finish 67 = .ok (.aload_n 0, 1) := by decide +kernel
theorem dX7_finish_68 : decode cX7_finish 68 = .ok (.getfield 30, 3) := by decide +kernel
theorem dX7_finish_71 : decode cX7_finish 71 = .ok (.iload_n 1, 1) := by decide +kernel
theorem dX7_finish_72 : decode cX7_finish 72 = .ok (.laload, 1) := by decide +kernel
theorem dX7_finish_73 : decode cX7_finish 73 = .ok (.putfield 74, 3) := by decide +kernel
theorem dX7_finish_76 : decode cX7_finish 76 = .ok (.iconst 1, 1) := by decide +kernel
theorem dX7_finish_77 : decode cX7_finish 77 = .ok (.ireturn, 1) := by decide +kernel
theorem dX7_enter_0 : decode cX7_enter 0 = .ok (.iload_n 1, 1) := by decide +kernel
theorem dX7_enter_1 : decode cX7_enter 1 = .ok (.iconst 4, 1) := by decide +kernel
theorem dX7_enter_2 : decode cX7_enter 2 = .ok (.imul, 1) := by decide +kernel
theorem dX7_enter_3 : decode cX7_enter 3 = .ok (.iload_n 2, 1) := by decide +kernel
theorem dX7_enter_4 : decode cX7_enter 4 = .ok (.iadd, 1) := by decide +kernel
theorem dX7_enter_5 : decode cX7_enter 5 = .ok (.istore_n 3, 1) := by decide +kernel
theorem dX7_enter_6 : decode cX7_enter 6 = .ok (.iload_n 1, 1) := by decide +kernel
theorem dX7_enter_7 : decode cX7_enter 7 = .ok (.iconst 1, 1) := by decide +kernel
theorem dX7_enter_8 : decode cX7_enter 8 = .ok (.iadd, 1) := by decide +kernel
theorem dX7_enter_9 : decode cX7_enter 9 = .ok (.istore 4, 2) := by decide +kernel
theorem dX7_enter_11 : decode cX7_enter 11 = .ok (.aload_n 0, 1) := by decide +kernel
theorem dX7_enter_12 : decode cX7_enter 12 = .ok (.getfield 15, 3) := by decide +kernel
theorem dX7_enter_15 : decode cX7_enter 15 = .ok (.iload 4, 2) := by decide +kernel
theorem dX7_enter_17 : decode cX7_enter 17 = .ok (.aload_n 0, 1) := by decide +kernel
theorem dX7_enter_18 : decode cX7_enter 18 = .ok (.getfield 15, 3) := by decide +kernel
theorem dX7_enter_21 : decode cX7_enter 21 = .ok (.iload_n 1, 1) := by decide +kernel
theorem dX7_enter_22 : decode cX7_enter 22 = .ok (.iaload, 1) := by decide +kernel
theorem dX7_enter_23 : decode cX7_enter 23 = .ok (.iastore, 1) := by decide +kernel
theorem dX7_enter_24 : decode cX7_enter 24 = .ok (.aload_n 0, 1) := by decide +kernel
theorem dX7_enter_25 : decode cX7_enter 25 = .ok (.getfield 18, 3) := by decide +kernel
theorem dX7_enter_28 : decode cX7_enter 28 = .ok (.iload 4, 2) := by decide +kernel
theorem dX7_enter_30 : decode cX7_enter 30 = .ok (.aload_n 0, 1) := by decide +kernel
theorem dX7_enter_31 : decode cX7_enter 31 = .ok (.getfield 18, 3) := by decide +kernel
theorem dX7_enter_34 : decode cX7_enter 34 = .ok (.iload_n 1, 1) := by decide +kernel
theorem dX7_enter_35 : decode cX7_enter 35 = .ok (.iaload, 1) := by decide +kernel
theorem dX7_enter_36 : decode cX7_enter 36 = .ok (.iastore, 1) := by decide +kernel
theorem dX7_enter_37 : decode cX7_enter 37 = .ok (.aload_n 0, 1) := by decide +kernel
theorem dX7_enter_38 : decode cX7_enter 38 = .ok (.getfield 21, 3) := by decide +kernel
theorem dX7_enter_41 : decode cX7_enter 41 = .ok (.iload 4, 2) := by decide +kernel
theorem dX7_enter_43 : decode cX7_enter 43 = .ok (.aload_n 0, 1) := by decide +kernel
theorem dX7_enter_44 : decode cX7_enter 44 = .ok (.getfield 21, 3) := by decide +kernel
theorem dX7_enter_47 : decode cX7_enter 47 = .ok (.iload_n 1, 1) := by decide +kernel
theorem dX7_enter_48 : decode cX7_enter 48 = .ok (.iaload, 1) := by decide +kernel
theorem dX7_enter_49 : decode cX7_enter 49 = .ok (.iastore, 1) := by decide +kernel
theorem dX7_enter_50 : decode cX7_enter 50 = .ok (.aload_n 0, 1) := by decide +kernel
theorem dX7_enter_51 : decode cX7_enter 51 = .ok (.getfield 24, 3) := by decide +kernel
theorem dX7_enter_54 : decode cX7_enter 54 = .ok (.iload 4, 2) := by decide +kernel
theorem dX7_enter_56 : decode cX7_enter 56 = .ok (.aload_n 0, 1) := by decide +kernel
theorem dX7_enter_57 : decode cX7_enter 57 = .ok (.getfield 24, 3) := by decide +kernel
theorem dX7_enter_60 : decode cX7_enter 60 = .ok (.iload_n 1, 1) := by decide +kernel
theorem dX7_enter_61 : decode cX7_enter 61 = .ok (.iaload, 1) := by decide +kernel
theorem dX7_enter_62 : decode cX7_enter 62 = .ok (.iastore, 1) := by decide +kernel
theorem dX7_enter_63 : decode cX7_enter 63 = .ok (.aload_n 0, 1) := by decide +kernel
theorem dX7_enter_64 : decode cX7_enter 64 = .ok (.getfield 27, 3) := by decide +kernel
theorem dX7_enter_67 : decode cX7_enter 67 = .ok (.iload 4, 2) := by decide +kernel
theorem dX7_enter_69 : decode cX7_enter 69 = .ok (.aload_n 0, 1) := by decide +kernel
theorem dX7_enter_70 : decode cX7_enter 70 = .ok (.getfield 27, 3) := by decide +kernel
theorem dX7_enter_73 : decode cX7_enter 73 = .ok (.iload_n 1, 1) := by decide +kernel
theorem dX7_enter_74 : decode cX7_enter 74 = .ok (.iaload, 1) := by decide +kernel
theorem dX7_enter_75 : decode cX7_enter 75 = .ok (.aload_n 0, 1) := by decide +kernel
theorem dX7_enter_76 : decode cX7_enter 76 = .ok (.getfield 37, 3) := by decide +kernel
theorem dX7_enter_79 : decode cX7_enter 79 = .ok (.getfield 78, 3) := by decide +kernel
theorem dX7_enter_82 : decode cX7_enter 82 = .ok (.iload_n 3, 1) := by decide +kernel
theorem dX7_enter_83 : decode cX7_enter 83 = .ok (.iaload, 1) := by decide +kernel
theorem dX7_enter_84 : decode cX7_enter 84 = .ok (.iadd, 1) := by decide +kernel
theorem dX7_enter_85 : decode cX7_enter 85 = .ok (.iastore, 1) := by decide +kernel
theorem dX7_enter_86 : decode cX7_enter 86 = .ok (.aload_n 0, 1) := by decide +kernel
theorem dX7_enter_87 : decode cX7_enter 87 = .ok (.getfield 30, 3) := by decide +kernel
theorem dX7_enter_90 : decode cX7_enter 90 = .ok (.iload 4, 2) := by decide +kernel
theorem dX7_enter_92 : decode cX7_enter 92 = .ok (.aload_n 0, 1) := by decide +kernel
theorem dX7_enter_93 : decode cX7_enter 93 = .ok (.getfield 30, 3) := by decide +kernel
theorem dX7_enter_96 : decode cX7_enter 96 = .ok (.iload_n 1, 1) := by decide +kernel
theorem dX7_enter_97 : decode cX7_enter 97 = .ok (.laload, 1) := by decide +kernel
theorem dX7_enter_98 : decode cX7_enter 98 = .ok (.bipush 10, 2) := by decide +kernel
theorem dX7_enter_100 : decode cX7_enter 100 = .ok (.aload_n 0, 1) := by decide +kernel
theorem dX7_enter_101 : decode cX7_enter 101 = .ok (.getfield 37, 3) := by decide +kernel
theorem dX7_enter_104 : decode cX7_enter 104 = .ok (.getfield 78, 3) := by decide +kernel
theorem dX7_enter_107 : decode cX7_enter 107 = .ok (.iload_n 3, 1) := by decide +kernel
theorem dX7_enter_108 : decode cX7_enter 108 = .ok (.iaload, 1) := by decide +kernel
theorem dX7_enter_109 : decode cX7_enter 109 = .ok (.isub, 1) := by decide +kernel
theorem dX7_enter_110 : decode cX7_enter 110 = .ok (.i2l, 1) := by decide +kernel
theorem dX7_enter_111 : decode cX7_enter 111 = .ok (.lmul, 1) := by decide +kernel
theorem dX7_enter_112 : decode cX7_enter 112 = .ok (.lastore, 1) := by decide +kernel
theorem dX7_enter_113 : decode cX7_enter 113 = .ok (.aload_n 0, 1) := by decide +kernel
theorem dX7_enter_114 : decode cX7_enter 114 = .ok (.getfield 37, 3) := by decide +kernel
theorem dX7_enter_117 : decode cX7_enter 117 = .ok (.getfield 80, 3) := by decide +kernel
theorem dX7_enter_120 : decode cX7_enter 120 = .ok (.iload_n 3, 1) := by decide +kernel
theorem dX7_enter_121 : decode cX7_enter 121 = .ok (.iaload, 1) := by decide +kernel
theorem dX7_enter_122 : decode cX7_enter 122 = .ok (.lookupswitch 112 #[(0, 50), (28, 82), (29, 89), (30, 75), (31, 52)], 50) := by decide +kernel
theorem dX7_enter_172 : decode cX7_enter 172 = .ok (.iconst 1, 1) := by decide +kernel
theorem dX7_enter_173 : decode cX7_enter 173 = .ok (.ireturn, 1) := by decide +kernel
theorem dX7_enter_174 : decode cX7_enter 174 = .ok (.aload_n 0, 1) := by decide +kernel
theorem dX7_enter_175 : decode cX7_enter 175 = .ok (.iload_n 1, 1) := by decide +kernel
theorem dX7_enter_176 : decode cX7_enter 176 = .ok (.invokevirtual 65, 3) := by decide +kernel
theorem dX7_enter_179 : decode cX7_enter 179 = .ok (.ifCond .eq 16, 3) := by decide +kernel
theorem dX7_enter_182 : decode cX7_enter 182 = .ok (.aload_n 0, 1) := by decide +kernel
theorem dX7_enter_183 : decode cX7_enter 183 = .ok (.iload 4, 2) := by decide +kernel
theorem dX7_enter_185 : decode cX7_enter 185 = .ok (.invokevirtual 83, 3) := by decide +kernel
theorem dX7_enter_188 : decode cX7_enter 188 = .ok (.ifCond .eq 7, 3) := by decide +kernel
theorem dX7_enter_191 : decode cX7_enter 191 = .ok (.iconst 1, 1) := by decide +kernel
theorem dX7_enter_192 : decode cX7_enter 192 = .ok (.goto 4, 3) := by decide +kernel
theorem dX7_enter_195 : decode cX7_enter 195 = .ok (.iconst 0, 1) := by decide +kernel
theorem dX7_enter_196 : decode cX7_enter 196 = .ok (.ireturn, 1) := by decide +kernel
theorem dX7_enter_197 : decode cX7_enter 197 = .ok (.aload_n 0, 1) := by decide +kernel
theorem dX7_enter_198 : decode cX7_enter 198 = .ok (.iload 4, 2) := by decide +kernel
theorem dX7_enter_200 : decode cX7_enter 200 = .ok (.invokevirtual 86, 3) := by decide +kernel
theorem dX7_enter_203 : decode cX7_enter 203 = .ok (.ireturn, 1) := by decide +kernel
theorem dX7_enter_204 : decode cX7_enter 204 = .ok (.aload_n 0, 1) := by decide +kernel
theorem dX7_enter_205 : decode cX7_enter 205 = .ok (.iload 4, 2) := by decide +kernel
theorem dX7_enter_207 : decode cX7_enter 207 = .ok (.invokevirtual 89, 3) := by decide +kernel
theorem dX7_enter_210 : decode cX7_enter 210 = .ok (.ireturn, 1) := by decide +kernel
theorem dX7_enter_211 : decode cX7_enter 211 = .ok (.aload_n 0, 1) := by decide +kernel
theorem dX7_enter_212 : decode cX7_enter 212 = .ok (.iload_n 1, 1) := by decide +kernel
theorem dX7_enter_213 : decode cX7_enter 213 = .ok (.invokevirtual 65, 3) := by decide +kernel
theorem dX7_enter_216 : decode cX7_enter 216 = .ok (.ifCond .eq 16, 3) := by decide +kernel
theorem dX7_enter_219 : decode cX7_enter 219 = .ok (.aload_n 0, 1) := by decide +kernel
theorem dX7_enter_220 : decode cX7_enter 220 = .ok (.iload 4, 2) := by decide +kernel
theorem dX7_enter_222 : decode cX7_enter 222 = .ok (.invokevirtual 92, 3) := by decide +kernel
theorem dX7_enter_225 : decode cX7_enter 225 = .ok (.ifCond .eq 7, 3) := by decide +kernel
theorem dX7_enter_228 : decode cX7_enter 228 = .ok (.iconst 1, 1) := by decide +kernel
theorem dX7_enter_229 : decode cX7_enter 229 = .ok (.goto 4, 3) := by decide +kernel
theorem dX7_enter_232 : decode cX7_enter 232 = .ok (.iconst 0, 1) := by decide +kernel
theorem dX7_enter_233 : decode cX7_enter 233 = .ok (.ireturn, 1) := by decide +kernel
theorem dX7_enter_234 : decode cX7_enter 234 = .ok (.aload_n 0, 1) := by decide +kernel
theorem dX7_enter_235 : decode cX7_enter 235 = .ok (.iload 4, 2) := by decide +kernel
theorem dX7_enter_237 : decode cX7_enter 237 = .ok (.aload_n 0, 1) := by decide +kernel
theorem dX7_enter_238 : decode cX7_enter 238 = .ok (.getfield 37, 3) := by decide +kernel
theorem dX7_enter_241 : decode cX7_enter 241 = .ok (.getfield 80, 3) := by decide +kernel
theorem dX7_enter_244 : decode cX7_enter 244 = .ok (.iload_n 3, 1) := by decide +kernel
theorem dX7_enter_245 : decode cX7_enter 245 = .ok (.iaload, 1) := by decide +kernel
theorem dX7_enter_246 : decode cX7_enter 246 = .ok (.invokevirtual 95, 3) := by decide +kernel
theorem dX7_enter_249 : decode cX7_enter 249 = .ok (.ireturn, 1) := by decide +kernel
theorem dX7_isWhole_0 : decode cX7_isWhole 0 = .ok (.aload_n 0, 1) := by decide +kernel
theorem dX7_isWhole_1 : decode cX7_isWhole 1 = .ok (.getfield 15, 3) := by decide +kernel
theorem dX7_isWhole_4 : decode cX7_isWhole 4 = .ok (.iload_n 1, 1) := by decide +kernel
theorem dX7_isWhole_5 : decode cX7_isWhole 5 = .ok (.iaload, 1) := by decide +kernel
theorem dX7_isWhole_6 : decode cX7_isWhole 6 = .ok (.ifCond .eq 17, 3) := by decide +kernel
theorem dX7_isWhole_9 : decode cX7_isWhole 9 = .ok (.aload_n 0, 1) := by decide +kernel
theorem dX7_isWhole_10 : decode cX7_isWhole 10 = .ok (.getfield 15, 3) := by decide +kernel
theorem dX7_isWhole_13 : decode cX7_isWhole 13 = .ok (.iload_n 1, 1) := by decide +kernel
theorem dX7_isWhole_14 : decode cX7_isWhole 14 = .ok (.iaload, 1) := by decide +kernel
theorem dX7_isWhole_15 : decode cX7_isWhole 15 = .ok (.iconst 5, 1) := by decide +kernel
theorem dX7_isWhole_16 : decode cX7_isWhole 16 = .ok (.if_icmp .eq 7, 3) := by decide +kernel
theorem dX7_isWhole_19 : decode cX7_isWhole 19 = .ok (.iconst 1, 1) := by decide +kernel
theorem dX7_isWhole_20 : decode cX7_isWhole 20 = .ok (.goto 4, 3) := by decide +kernel
theorem dX7_isWhole_23 : decode cX7_isWhole 23 = .ok (.iconst 0, 1) := by decide +kernel
theorem dX7_isWhole_24 : decode cX7_isWhole 24 = .ok (.ireturn, 1) := by decide +kernel
theorem dX7_passStop_0 : decode cX7_passStop 0 = .ok (.aload_n 0, 1) := by decide +kernel
theorem dX7_passStop_1 : decode cX7_passStop 1 = .ok (.getfield 24, 3) := by decide +kernel
theorem dX7_passStop_4 : decode cX7_passStop 4 = .ok (.iload_n 1, 1) := by decide +kernel
theorem dX7_passStop_5 : decode cX7_passStop 5 = .ok (.iaload, 1) := by decide +kernel
theorem dX7_passStop_6 : decode cX7_passStop 6 = .ok (.iconst 4, 1) := by decide +kernel
theorem dX7_passStop_7 : decode cX7_passStop 7 = .ok (.if_icmp .lt 5, 3) := by decide +kernel
theorem dX7_passStop_10 : decode cX7_passStop 10 = .ok (.iconst 0, 1) := by decide +kernel
theorem dX7_passStop_11 : decode cX7_passStop 11 = .ok (.ireturn, 1) := by decide +kernel
theorem dX7_passStop_12 : decode cX7_passStop 12 = .ok (.aload_n 0, 1) := by decide +kernel
theorem dX7_passStop_13 : decode cX7_passStop 13 = .ok (.getfield 34, 3) := by decide +kernel
theorem dX7_passStop_16 : decode cX7_passStop 16 = .ok (.aload_n 0, 1) := by decide +kernel
theorem dX7_passStop_17 : decode cX7_passStop 17 = .ok (.getfield 24, 3) := by decide +kernel
theorem dX7_passStop_20 : decode cX7_passStop 20 = .ok (.iload_n 1, 1) := by decide +kernel
theorem dX7_passStop_21 : decode cX7_passStop 21 = .ok (.iaload, 1) := by decide +kernel
theorem dX7_passStop_22 : decode cX7_passStop 22 = .ok (.aload_n 0, 1) := by decide +kernel
theorem dX7_passStop_23 : decode cX7_passStop 23 = .ok (.getfield 18, 3) := by decide +kernel
theorem dX7_passStop_26 : decode cX7_passStop 26 = .ok (.iload_n 1, 1) := by decide +kernel
theorem dX7_passStop_27 : decode cX7_passStop 27 = .ok (.iaload, 1) := by decide +kernel
theorem dX7_passStop_28 : decode cX7_passStop 28 = .ok (.aload_n 0, 1) := by decide +kernel
theorem dX7_passStop_29 : decode cX7_passStop 29 = .ok (.getfield 21, 3) := by decide +kernel
theorem dX7_passStop_32 : decode cX7_passStop 32 = .ok (.iload_n 1, 1) := by decide +kernel
theorem dX7_passStop_33 : decode cX7_passStop 33 = .ok (.iaload, 1) := by decide +kernel
theorem dX7_passStop_34 : decode cX7_passStop 34 = .ok (.iadd, 1) := by decide +kernel
theorem dX7_passStop_35 : decode cX7_passStop 35 = .ok (.iastore, 1) := by decide +kernel
theorem dX7_passStop_36 : decode cX7_passStop 36 = .ok (.aload_n 0, 1) := by decide +kernel
theorem dX7_passStop_37 : decode cX7_passStop 37 = .ok (.getfield 24, 3) := by decide +kernel
theorem dX7_passStop_40 : decode cX7_passStop 40 = .ok (.iload_n 1, 1) := by decide +kernel
theorem dX7_passStop_41 : decode cX7_passStop 41 = .ok (.dup2, 1) := by decide +kernel
theorem dX7_passStop_42 : decode cX7_passStop 42 = .ok (.iaload, 1) := by decide +kernel
theorem dX7_passStop_43 : decode cX7_passStop 43 = .ok (.iconst 1, 1) := by decide +kernel
theorem dX7_passStop_44 : decode cX7_passStop 44 = .ok (.iadd, 1) := by decide +kernel
theorem dX7_passStop_45 : decode cX7_passStop 45 = .ok (.iastore, 1) := by decide +kernel
theorem dX7_passStop_46 : decode cX7_passStop 46 = .ok (.aload_n 0, 1) := by decide +kernel
theorem dX7_passStop_47 : decode cX7_passStop 47 = .ok (.getfield 15, 3) := by decide +kernel
theorem dX7_passStop_50 : decode cX7_passStop 50 = .ok (.iload_n 1, 1) := by decide +kernel
theorem dX7_passStop_51 : decode cX7_passStop 51 = .ok (.iconst 0, 1) := by decide +kernel
theorem dX7_passStop_52 : decode cX7_passStop 52 = .ok (.iastore, 1) := by decide +kernel
theorem dX7_passStop_53 : decode cX7_passStop 53 = .ok (.aload_n 0, 1) := by decide +kernel
theorem dX7_passStop_54 : decode cX7_passStop 54 = .ok (.getfield 18, 3) := by decide +kernel
theorem dX7_passStop_57 : decode cX7_passStop 57 = .ok (.iload_n 1, 1) := by decide +kernel
theorem dX7_passStop_58 : decode cX7_passStop 58 = .ok (.iconst 0, 1) := by decide +kernel
theorem dX7_passStop_59 : decode cX7_passStop 59 = .ok (.iastore, 1) := by decide +kernel
theorem dX7_passStop_60 : decode cX7_passStop 60 = .ok (.aload_n 0, 1) := by decide +kernel
theorem dX7_passStop_61 : decode cX7_passStop 61 = .ok (.getfield 21, 3) := by decide +kernel
theorem dX7_passStop_64 : decode cX7_passStop 64 = .ok (.iload_n 1, 1) := by decide +kernel
theorem dX7_passStop_65 : decode cX7_passStop 65 = .ok (.iconst 0, 1) := by decide +kernel
theorem dX7_passStop_66 : decode cX7_passStop 66 = .ok (.iastore, 1) := by decide +kernel
theorem dX7_passStop_67 : decode cX7_passStop 67 = .ok (.iconst 1, 1) := by decide +kernel
theorem dX7_passStop_68 : decode cX7_passStop 68 = .ok (.ireturn, 1) := by decide +kernel
theorem dX7_passAnd_0 : decode cX7_passAnd 0 = .ok (.aload_n 0, 1) := by decide +kernel
theorem dX7_passAnd_1 : decode cX7_passAnd 1 = .ok (.getfield 15, 3) := by decide +kernel
theorem dX7_passAnd_4 : decode cX7_passAnd 4 = .ok (.iload_n 1, 1) := by decide +kernel
theorem dX7_passAnd_5 : decode cX7_passAnd 5 = .ok (.iaload, 1) := by decide +kernel
theorem dX7_passAnd_6 : decode cX7_passAnd 6 = .ok (.iconst 4, 1) := by decide +kernel
theorem dX7_passAnd_7 : decode cX7_passAnd 7 = .ok (.if_icmp .eq 16, 3) := by decide +kernel
theorem dX7_passAnd_10 : decode cX7_passAnd 10 = .ok (.aload_n 0, 1) := by decide +kernel
theorem dX7_passAnd_11 : decode cX7_passAnd 11 = .ok (.getfield 15, 3) := by decide +kernel
theorem dX7_passAnd_14 : decode cX7_passAnd 14 = .ok (.iload_n 1, 1) := by decide +kernel
theorem dX7_passAnd_15 : decode cX7_passAnd 15 = .ok (.iaload, 1) := by decide +kernel
theorem dX7_passAnd_16 : decode cX7_passAnd 16 = .ok (.bipush 6, 2) := by decide +kernel
theorem dX7_passAnd_18 : decode cX7_passAnd 18 = .ok (.if_icmp .eq 5, 3) := by decide +kernel
theorem dX7_passAnd_21 : decode cX7_passAnd 21 = .ok (.iconst 0, 1) := by decide +kernel
theorem dX7_passAnd_22 : decode cX7_passAnd 22 = .ok (.ireturn, 1) := by decide +kernel
theorem dX7_passAnd_23 : decode cX7_passAnd 23 = .ok (.aload_n 0, 1) := by decide +kernel
theorem dX7_passAnd_24 : decode cX7_passAnd 24 = .ok (.getfield 15, 3) := by decide +kernel
theorem dX7_passAnd_27 : decode cX7_passAnd 27 = .ok (.iload_n 1, 1) := by decide +kernel
theorem dX7_passAnd_28 : decode cX7_passAnd 28 = .ok (.iconst 5, 1) := by decide +kernel
theorem dX7_passAnd_29 : decode cX7_passAnd 29 = .ok (.iastore, 1) := by decide +kernel
theorem dX7_passAnd_30 : decode cX7_passAnd 30 = .ok (.iconst 1, 1) := by decide +kernel
theorem dX7_passAnd_31 : decode cX7_passAnd 31 = .ok (.ireturn, 1) := by decide +kernel
theorem dX7_passHundred_0 : decode cX7_passHundred 0 = .ok (.aload_n 0, 1) := by decide +kernel
theorem dX7_passHundred_1 : decode cX7_passHundred 1 = .ok (.getfield 15, 3) := by decide +kernel
theorem dX7_passHundred_4 : decode cX7_passHundred 4 = .ok (.iload_n 1, 1) := by decide +kernel
theorem dX7_passHundred_5 : decode cX7_passHundred 5 = .ok (.iaload, 1) := by decide +kernel
theorem dX7_passHundred_6 : decode cX7_passHundred 6 = .ok (.iconst 1, 1) := by decide +kernel
theorem dX7_passHundred_7 : decode cX7_passHundred 7 = .ok (.if_icmp .eq 5, 3) := by decide +kernel
theorem dX7_passHundred_10 : decode cX7_passHundred 10 = .ok (.iconst 0, 1) := by decide +kernel
theorem dX7_passHundred_11 : decode cX7_passHundred 11 = .ok (.ireturn, 1) := by decide +kernel
theorem dX7_passHundred_12 : decode cX7_passHundred 12 = .ok (.aload_n 0, 1) := by decide +kernel
theorem dX7_passHundred_13 : decode cX7_passHundred 13 = .ok (.getfield 21, 3) := by decide +kernel
theorem dX7_passHundred_16 : decode cX7_passHundred 16 = .ok (.iload_n 1, 1) := by decide +kernel
theorem dX7_passHundred_17 : decode cX7_passHundred 17 = .ok (.dup2, 1) := by decide +kernel
theorem dX7_passHundred_18 : decode cX7_passHundred 18 = .ok (.iaload, 1) := by decide +kernel
theorem dX7_passHundred_19 : decode cX7_passHundred 19 = .ok (.bipush 100, 2) := by decide +kernel
theorem dX7_passHundred_21 : decode cX7_passHundred 21 = .ok (.imul, 1) := by decide +kernel
theorem dX7_passHundred_22 : decode cX7_passHundred 22 = .ok (.iastore, 1) := by decide +kernel
theorem dX7_passHundred_23 : decode cX7_passHundred 23 = .ok (.aload_n 0, 1) := by decide +kernel
theorem dX7_passHundred_24 : decode cX7_passHundred 24 = .ok (.getfield 15, 3) := by decide +kernel
theorem dX7_passHundred_27 : decode cX7_passHundred 27 = .ok (.iload_n 1, 1) := by decide +kernel
theorem dX7_passHundred_28 : decode cX7_passHundred 28 = .ok (.iconst 4, 1) := by decide +kernel
theorem dX7_passHundred_29 : decode cX7_passHundred 29 = .ok (.iastore, 1) := by decide +kernel
theorem dX7_passHundred_30 : decode cX7_passHundred 30 = .ok (.iconst 1, 1) := by decide +kernel
theorem dX7_passHundred_31 : decode cX7_passHundred 31 = .ok (.ireturn, 1) := by decide +kernel
theorem dX7_passThousand_0 : decode cX7_passThousand 0 = .ok (.aload_n 0, 1) := by decide +kernel
theorem dX7_passThousand_1 : decode cX7_passThousand 1 = .ok (.getfield 18, 3) := by decide +kernel
theorem dX7_passThousand_4 : decode cX7_passThousand 4 = .ok (.iload_n 1, 1) := by decide +kernel
theorem dX7_passThousand_5 : decode cX7_passThousand 5 = .ok (.iaload, 1) := by decide +kernel
theorem dX7_passThousand_6 : decode cX7_passThousand 6 = .ok (.ifCond .eq 5, 3) := by decide +kernel
theorem dX7_passThousand_9 : decode cX7_passThousand 9 = .ok (.iconst 0, 1) := by decide +kernel
theorem dX7_passThousand_10 : decode cX7_passThousand 10 = .ok (.ireturn, 1) := by decide +kernel
theorem dX7_passThousand_11 : decode cX7_passThousand 11 = .ok (.aload_n 0, 1) := by decide +kernel
theorem dX7_passThousand_12 : decode cX7_passThousand 12 = .ok (.getfield 18, 3) := by decide +kernel
theorem dX7_passThousand_15 : decode cX7_passThousand 15 = .ok (.iload_n 1, 1) := by decide +kernel
theorem dX7_passThousand_16 : decode cX7_passThousand 16 = .ok (.aload_n 0, 1) := by decide +kernel
theorem dX7_passThousand_17 : decode cX7_passThousand 17 = .ok (.getfield 21, 3) := by decide +kernel
theorem dX7_passThousand_20 : decode cX7_passThousand 20 = .ok (.iload_n 1, 1) := by decide +kernel
theorem dX7_passThousand_21 : decode cX7_passThousand 21 = .ok (.iaload, 1) := by decide +kernel
theorem dX7_passThousand_22 : decode cX7_passThousand 22 = .ok (.sipush 1000, 3) := by decide +kernel
theorem dX7_passThousand_25 : decode cX7_passThousand 25 = .ok (.imul, 1) := by decide +kernel
theorem dX7_passThousand_26 : decode cX7_passThousand 26 = .ok (.iastore, 1) := by decide +kernel
theorem dX7_passThousand_27 : decode cX7_passThousand 27 = .ok (.aload_n 0, 1) := by decide +kernel
theorem dX7_passThousand_28 : decode cX7_passThousand 28 = .ok (.getfield 21, 3) := by decide +kernel
theorem dX7_passThousand_31 : decode cX7_passThousand 31 = .ok (.iload_n 1, 1) := by decide +kernel
theorem dX7_passThousand_32 : decode cX7_passThousand 32 = .ok (.iconst 0, 1) := by decide +kernel
theorem dX7_passThousand_33 : decode cX7_passThousand 33 = .ok (.iastore, 1) := by decide +kernel
theorem dX7_passThousand_34 : decode cX7_passThousand 34 = .ok (.aload_n 0, 1) := by decide +kernel
theorem dX7_passThousand_35 : decode cX7_passThousand 35 = .ok (.getfield 15, 3) := by decide +kernel
theorem dX7_passThousand_38 : decode cX7_passThousand 38 = .ok (.iload_n 1, 1) := by decide +kernel
theorem dX7_passThousand_39 : decode cX7_passThousand 39 = .ok (.bipush 6, 2) := by decide +kernel
theorem dX7_passThousand_41 : decode cX7_passThousand 41 = .ok (.iastore, 1) := by decide +kernel
theorem dX7_passThousand_42 : decode cX7_passThousand 42 = .ok (.iconst 1, 1) := by decide +kernel
theorem dX7_passThousand_43 : decode cX7_passThousand 43 = .ok (.ireturn, 1) := by decide +kernel
theorem dX7_passLow_0 : decode cX7_passLow 0 = .ok (.aload_n 0, 1) := by decide +kernel
theorem dX7_passLow_1 : decode cX7_passLow 1 = .ok (.getfield 15, 3) := by decide +kernel
theorem dX7_passLow_4 : decode cX7_passLow 4 = .ok (.iload_n 1, 1) := by decide +kernel
theorem dX7_passLow_5 : decode cX7_passLow 5 = .ok (.iaload, 1) := by decide +kernel
theorem dX7_passLow_6 : decode cX7_passLow 6 = .ok (.istore_n 3, 1) := by decide +kernel
theorem dX7_passLow_7 : decode cX7_passLow 7 = .ok (.iload_n 3, 1) := by decide +kernel
theorem dX7_passLow_8 : decode cX7_passLow 8 = .ok (.ifCond .eq 9, 3) := by decide +kernel
theorem dX7_passLow_11 : decode cX7_passLow 11 = .ok (.iload_n 3, 1) := by decide +kernel
theorem dX7_passLow_12 : decode cX7_passLow 12 = .ok (.bipush 6, 2) := by decide +kernel
theorem dX7_passLow_14 : decode cX7_passLow 14 = .ok (.if_icmp .ne 7, 3) := by decide +kernel
theorem dX7_passLow_17 : decode cX7_passLow 17 = .ok (.iconst 1, 1) := by decide +kernel
theorem dX7_passLow_18 : decode cX7_passLow 18 = .ok (.goto 4, 3) := by decide +kernel
theorem dX7_passLow_21 : decode cX7_passLow 21 = .ok (.iconst 0, 1) := by decide +kernel
theorem dX7_passLow_22 : decode cX7_passLow 22 = .ok (.istore 4, 2) := by decide +kernel
theorem dX7_passLow_24 : decode cX7_passLow 24 = .ok (.iload 4, 2) := by decide +kernel
theorem dX7_passLow_26 : decode cX7_passLow 26 = .ok (.ifCond .ne 13, 3) := by decide +kernel
theorem dX7_passLow_29 : decode cX7_passLow 29 = .ok (.iload_n 3, 1) := by decide +kernel
theorem dX7_passLow_30 : decode cX7_passLow 30 = .ok (.iconst 4, 1) := by decide +kernel
theorem dX7_passLow_31 : decode cX7_passLow 31 = .ok (.if_icmp .eq 8, 3) := by decide +kernel
theorem dX7_passLow_34 : decode cX7_passLow 34 = .ok (.iload_n 3, 1) := by decide +kernel
theorem dX7_passLow_35 : decode cX7_passLow 35 = .ok (.iconst 5, 1) := by decide +kernel
theorem dX7_passLow_36 : decode cX7_passLow 36 = .ok (.if_icmp .ne 7, 3) := by decide +kernel
theorem dX7_passLow_39 : decode cX7_passLow 39 = .ok (.iconst 1, 1) := by decide +kernel
theorem dX7_passLow_40 : decode cX7_passLow 40 = .ok (.goto 4, 3) := by decide +kernel
theorem dX7_passLow_43 : decode cX7_passLow 43 = .ok (.iconst 0, 1) := by decide +kernel
theorem dX7_passLow_44 : decode cX7_passLow 44 = .ok (.istore 5, 2) := by decide +kernel
theorem dX7_passLow_46 : decode cX7_passLow 46 = .ok (.iload 5, 2) := by decide +kernel
theorem dX7_passLow_48 : decode cX7_passLow 48 = .ok (.ifCond .ne 16, 3) := by decide +kernel
theorem dX7_passLow_51 : decode cX7_passLow 51 = .ok (.iload_n 3, 1) := by decide +kernel
theorem dX7_passLow_52 : decode cX7_passLow 52 = .ok (.iconst 3, 1) := by decide +kernel
theorem dX7_passLow_53 : decode cX7_passLow 53 = .ok (.if_icmp .ne 9, 3) := by decide +kernel
theorem dX7_passLow_56 : decode cX7_passLow 56 = .ok (.iload_n 2, 1) := by decide +kernel
theorem dX7_passLow_57 : decode cX7_passLow 57 = .ok (.bipush 9, 2) := by decide +kernel
theorem dX7_passLow_59 : decode cX7_passLow 59 = .ok (.if_icmp .le 5, 3) := by decide +kernel
theorem dX7_passLow_62 : decode cX7_passLow 62 = .ok (.iconst 0, 1) := by decide +kernel
theorem dX7_passLow_63 : decode cX7_passLow 63 = .ok (.ireturn, 1) := by decide +kernel
theorem dX7_passLow_64 : decode cX7_passLow 64 = .ok (.iload_n 2, 1) := by decide +kernel
theorem dX7_passLow_65 : decode cX7_passLow 65 = .ok (.bipush 19, 2) := by decide +kernel
theorem dX7_passLow_67 : decode cX7_passLow 67 = .ok (.if_icmp .gt 38, 3) := by decide +kernel
theorem dX7_passLow_70 : decode cX7_passLow 70 = .ok (.aload_n 0, 1) := by decide +kernel
theorem dX7_passLow_71 : decode cX7_passLow 71 = .ok (.getfield 21, 3) := by decide +kernel
theorem dX7_passLow_74 : decode cX7_passLow 74 = .ok (.iload_n 1, 1) := by decide +kernel
theorem dX7_passLow_75 : decode cX7_passLow 75 = .ok (.dup2, 1) := by decide +kernel
theorem dX7_passLow_76 : decode cX7_passLow 76 = .ok (.iaload, 1) := by decide +kernel
theorem dX7_passLow_77 : decode cX7_passLow 77 = .ok (.iload_n 2, 1) := by decide +kernel
theorem dX7_passLow_78 : decode cX7_passLow 78 = .ok (.iadd, 1) := by decide +kernel
theorem dX7_passLow_79 : decode cX7_passLow 79 = .ok (.iastore, 1) := by decide +kernel
theorem dX7_passLow_80 : decode cX7_passLow 80 = .ok (.aload_n 0, 1) := by decide +kernel
theorem dX7_passLow_81 : decode cX7_passLow 81 = .ok (.getfield 15, 3) := by decide +kernel
theorem dX7_passLow_84 : decode cX7_passLow 84 = .ok (.iload_n 1, 1) := by decide +kernel
theorem dX7_passLow_85 : decode cX7_passLow 85 = .ok (.iload 4, 2) := by decide +kernel
theorem dX7_passLow_87 : decode cX7_passLow 87 = .ok (.ifCond .eq 13, 3) := by decide +kernel
theorem dX7_passLow_90 : decode cX7_passLow 90 = .ok (.iload_n 2, 1) := by decide +kernel
theorem dX7_passLow_91 : decode cX7_passLow 91 = .ok (.bipush 9, 2) := by decide +kernel
theorem dX7_passLow_93 : decode cX7_passLow 93 = .ok (.if_icmp .gt 7, 3) := by decide +kernel
theorem dX7_passLow_96 : decode cX7_passLow 96 = .ok (.iconst 1, 1) := by decide +kernel
theorem dX7_passLow_97 : decode cX7_passLow 97 = .ok (.goto 4, 3) := by decide +kernel
theorem dX7_passLow_100 : decode cX7_passLow 100 = .ok (.iconst 2, 1) := by decide +kernel
theorem dX7_passLow_101 : decode cX7_passLow 101 = .ok (.iastore, 1) := by decide +kernel
theorem dX7_passLow_102 : decode cX7_passLow 102 = .ok (.goto 26, 3) := by decide +kernel
theorem dX7_passLow_105 : decode cX7_passLow 105 = .ok (.aload_n 0, 1) := by decide +kernel
theorem dX7_passLow_106 : decode cX7_passLow 106 = .ok (.getfield 21, 3) := by decide +kernel
theorem dX7_passLow_109 : decode cX7_passLow 109 = .ok (.iload_n 1, 1) := by decide +kernel
theorem dX7_passLow_110 : decode cX7_passLow 110 = .ok (.dup2, 1) := by decide +kernel
theorem dX7_passLow_111 : decode cX7_passLow 111 = .ok (.iaload, 1) := by decide +kernel
theorem dX7_passLow_112 : decode cX7_passLow 112 = .ok (.iload_n 2, 1) := by decide +kernel
theorem dX7_passLow_113 : decode cX7_passLow 113 = .ok (.bipush 18, 2) := by decide +kernel
theorem dX7_passLow_115 : decode cX7_passLow 115 = .ok (.isub, 1) := by decide +kernel
theorem dX7_passLow_116 : decode cX7_passLow 116 = .ok (.bipush 10, 2) := by decide +kernel
theorem dX7_passLow_118 : decode cX7_passLow 118 = .ok (.imul, 1) := by decide +kernel
theorem dX7_passLow_119 : decode cX7_passLow 119 = .ok (.iadd, 1) := by decide +kernel
theorem dX7_passLow_120 : decode cX7_passLow 120 = .ok (.iastore, 1) := by decide +kernel
theorem dX7_passLow_121 : decode cX7_passLow 121 = .ok (.aload_n 0, 1) := by decide +kernel
theorem dX7_passLow_122 : decode cX7_passLow 122 = .ok (.getfield 15, 3) := by decide +kernel
theorem dX7_passLow_125 : decode cX7_passLow 125 = .ok (.iload_n 1, 1) := by decide +kernel
theorem dX7_passLow_126 : decode cX7_passLow 126 = .ok (.iconst 3, 1) := by decide +kernel
theorem dX7_passLow_127 : decode cX7_passLow 127 = .ok (.iastore, 1) := by decide +kernel
theorem dX7_passLow_128 : decode cX7_passLow 128 = .ok (.iconst 1, 1) := by decide +kernel
theorem dX7_passLow_129 : decode cX7_passLow 129 = .ok (.ireturn, 1) := by decide +kernel
theorem dX8_init_0 : decode cX8_init 0 = .ok (.aload_n 0, 1) := by decide +kernel
theorem dX8_init_1 : decode cX8_init 1 = .ok (.invokespecial 3, 3) := by decide +kernel
theorem dX8_init_4 : decode cX8_init 4 = .ok (.aload_n 0, 1) := by decide +kernel
theorem dX8_init_5 : decode cX8_init 5 = .ok (.new 9, 3) := by decide +kernel
theorem dX8_init_8 : decode cX8_init 8 = .ok (.dup, 1) := by decide +kernel
theorem dX8_init_9 : decode cX8_init 9 = .ok (.invokespecial 11, 3) := by decide +kernel
theorem dX8_init_12 : decode cX8_init 12 = .ok (.putfield 12, 3) := by decide +kernel
theorem dX8_init_15 : decode cX8_init 15 = .ok (.aload_n 0, 1) := by decide +kernel
theorem dX8_init_16 : decode cX8_init 16 = .ok (.new 9, 3) := by decide +kernel
theorem dX8_init_19 : decode cX8_init 19 = .ok (.dup, 1) := by decide +kernel
theorem dX8_init_20 : decode cX8_init 20 = .ok (.invokespecial 11, 3) := by decide +kernel
theorem dX8_init_23 : decode cX8_init 23 = .ok (.putfield 16, 3) := by decide +kernel
theorem dX8_init_26 : decode cX8_init 26 = .ok (.aload_n 0, 1) := by decide +kernel
theorem dX8_init_27 : decode cX8_init 27 = .ok (.new 19, 3) := by decide +kernel
theorem dX8_init_30 : decode cX8_init 30 = .ok (.dup, 1) := by decide +kernel
theorem dX8_init_31 : decode cX8_init 31 = .ok (.invokespecial 21, 3) := by decide +kernel
theorem dX8_init_34 : decode cX8_init 34 = .ok (.putfield 22, 3) := by decide +kernel
theorem dX8_init_37 : decode cX8_init 37 = .ok (.aload_n 0, 1) := by decide +kernel
theorem dX8_init_38 : decode cX8_init 38 = .ok (.new 9, 3) := by decide +kernel
theorem dX8_init_41 : decode cX8_init 41 = .ok (.dup, 1) := by decide +kernel
theorem dX8_init_42 : decode cX8_init 42 = .ok (.invokespecial 11, 3) := by decide +kernel
theorem dX8_init_45 : decode cX8_init 45 = .ok (.putfield 26, 3) := by decide +kernel
theorem dX8_init_48 : decode cX8_init 48 = .ok (.aload_n 0, 1) := by decide +kernel
theorem dX8_init_49 : decode cX8_init 49 = .ok (.new 19, 3) := by decide +kernel
theorem dX8_init_52 : decode cX8_init 52 = .ok (.dup, 1) := by decide +kernel
theorem dX8_init_53 : decode cX8_init 53 = .ok (.invokespecial 21, 3) := by decide +kernel
theorem dX8_init_56 : decode cX8_init 56 = .ok (.putfield 29, 3) := by decide +kernel
theorem dX8_init_59 : decode cX8_init 59 = .ok (.aload_n 0, 1) := by decide +kernel
theorem dX8_init_60 : decode cX8_init 60 = .ok (.new 32, 3) := by decide +kernel
theorem dX8_init_63 : decode cX8_init 63 = .ok (.dup, 1) := by decide +kernel
theorem dX8_init_64 : decode cX8_init 64 = .ok (.invokespecial 34, 3) := by decide +kernel
theorem dX8_init_67 : decode cX8_init 67 = .ok (.putfield 35, 3) := by decide +kernel
theorem dX8_init_70 : decode cX8_init 70 = .ok (.aload_n 0, 1) := by decide +kernel
theorem dX8_init_71 : decode cX8_init 71 = .ok (.new 39, 3) := by decide +kernel
theorem dX8_init_74 : decode cX8_init 74 = .ok (.dup, 1) := by decide +kernel
theorem dX8_init_75 : decode cX8_init 75 = .ok (.aload_n 0, 1) := by decide +kernel
theorem dX8_init_76 : decode cX8_init 76 = .ok (.getfield 12, 3) := by decide +kernel
theorem dX8_init_79 : decode cX8_init 79 = .ok (.invokespecial 41, 3) := by decide +kernel
theorem dX8_init_82 : decode cX8_init 82 = .ok (.putfield 44, 3) := by decide +kernel
theorem dX8_init_85 : decode cX8_init 85 = .ok (.aload_n 0, 1) := by decide +kernel
theorem dX8_init_86 : decode cX8_init 86 = .ok (.iconst 4, 1) := by decide +kernel
theorem dX8_init_87 : decode cX8_init 87 = .ok (.anewarray 48, 3) := by decide +kernel
theorem dX8_init_90 : decode cX8_init 90 = .ok (.putfield 50, 3) := by decide +kernel
theorem dX8_init_93 : decode cX8_init 93 = .ok (.iconst 0, 1) := by decide +kernel
theorem dX8_init_94 : decode cX8_init 94 = .ok (.istore_n 1, 1) := by decide +kernel
theorem dX8_init_95 : decode cX8_init 95 = .ok (.iload_n 1, 1) := by decide +kernel
theorem dX8_init_96 : decode cX8_init 96 = .ok (.iconst 4, 1) := by decide +kernel
theorem dX8_init_97 : decode cX8_init 97 = .ok (.if_icmp .ge 22, 3) := by decide +kernel
theorem dX8_init_100 : decode cX8_init 100 = .ok (.aload_n 0, 1) := by decide +kernel
theorem dX8_init_101 : decode cX8_init 101 = .ok (.getfield 50, 3) := by decide +kernel
theorem dX8_init_104 : decode cX8_init 104 = .ok (.iload_n 1, 1) := by decide +kernel
theorem dX8_init_105 : decode cX8_init 105 = .ok (.new 48, 3) := by decide +kernel
theorem dX8_init_108 : decode cX8_init 108 = .ok (.dup, 1) := by decide +kernel
theorem dX8_init_109 : decode cX8_init 109 = .ok (.invokespecial 54, 3) := by decide +kernel
theorem dX8_init_112 : decode cX8_init 112 = .ok (.aastore, 1) := by decide +kernel
theorem dX8_init_113 : decode cX8_init 113 = .ok (.iinc 1 1, 3) := by decide +kernel
theorem dX8_init_116 : decode cX8_init 116 = .ok (.goto (-21), 3) := by decide +kernel
theorem dX8_init_119 : decode cX8_init 119 = .ok (.return_, 1) := by decide +kernel
theorem dX8_type_0 : decode cX8_type 0 = .ok (.iload_n 1, 1) := by decide +kernel
theorem dX8_type_1 : decode cX8_type 1 = .ok (.bipush 32, 2) := by decide +kernel
theorem dX8_type_3 : decode cX8_type 3 = .ok (.if_icmp .lt 9, 3) := by decide +kernel
theorem dX8_type_6 : decode cX8_type 6 = .ok (.iload_n 1, 1) := by decide +kernel
theorem dX8_type_7 : decode cX8_type 7 = .ok (.bipush 126, 2) := by decide +kernel
theorem dX8_type_9 : decode cX8_type 9 = .ok (.if_icmp .le 5, 3) := by decide +kernel
theorem dX8_type_12 : decode cX8_type 12 = .ok (.iconst (-1), 1) := by decide +kernel
theorem dX8_type_13 : decode cX8_type 13 = .ok (.ireturn, 1) := by decide +kernel
theorem dX8_type_14 : decode cX8_type 14 = .ok (.aload_n 0, 1) := by decide +kernel
theorem dX8_type_15 : decode cX8_type 15 = .ok (.getfield 35, 3) := by decide +kernel
theorem dX8_type_18 : decode cX8_type 18 = .ok (.iload_n 1, 1) := by decide +kernel
theorem dX8_type_19 : decode cX8_type 19 = .ok (.i2c, 1) := by decide +kernel
theorem dX8_type_20 : decode cX8_type 20 = .ok (.invokevirtual 55, 3) := by decide +kernel
theorem dX8_type_23 : decode cX8_type 23 = .ok (.ifCond .eq 13, 3) := by decide +kernel
theorem dX8_type_26 : decode cX8_type 26 = .ok (.aload_n 0, 1) := by decide +kernel
theorem dX8_type_27 : decode cX8_type 27 = .ok (.getfield 35, 3) := by decide +kernel
theorem dX8_type_30 : decode cX8_type 30 = .ok (.getfield 59, 3) := by decide +kernel
theorem dX8_type_33 : decode cX8_type 33 = .ok (.goto 5, 3) := by decide +kernel
theorem dX8_type_36 : decode cX8_type 36 = .ok (.bipush (-3), 2) := by decide +kernel
theorem dX8_type_38 : decode cX8_type 38 = .ok (.ireturn, 1) := by decide +kernel
theorem dX8_words_0 : decode cX8_words 0 = .ok (.aload_n 0, 1) := by decide +kernel
theorem dX8_words_1 : decode cX8_words 1 = .ok (.getfield 35, 3) := by decide +kernel
theorem dX8_words_4 : decode cX8_words 4 = .ok (.aload_n 0, 1) := by decide +kernel
theorem dX8_words_5 : decode cX8_words 5 = .ok (.getfield 16, 3) := by decide +kernel
theorem dX8_words_8 : decode cX8_words 8 = .ok (.invokevirtual 63, 3) := by decide +kernel
theorem dX8_words_11 : decode cX8_words 11 = .ok (.istore_n 1, 1) := by decide +kernel
theorem dX8_words_12 : decode cX8_words 12 = .ok (.aload_n 0, 1) := by decide +kernel
theorem dX8_words_13 : decode cX8_words 13 = .ok (.getfield 35, 3) := by decide +kernel
theorem dX8_words_16 : decode cX8_words 16 = .ok (.iconst 0, 1) := by decide +kernel
theorem dX8_words_17 : decode cX8_words 17 = .ok (.putfield 59, 3) := by decide +kernel
theorem dX8_words_20 : decode cX8_words 20 = .ok (.iload_n 1, 1) := by decide +kernel
theorem dX8_words_21 : decode cX8_words 21 = .ok (.ifCond .lt 8, 3) := by decide +kernel
theorem dX8_words_24 : decode cX8_words 24 = .ok (.bipush (-20), 2) := by decide +kernel
theorem dX8_words_26 : decode cX8_words 26 = .ok (.iload_n 1, 1) := by decide +kernel
theorem dX8_words_27 : decode cX8_words 27 = .ok (.isub, 1) := by decide +kernel
theorem dX8_words_28 : decode cX8_words 28 = .ok (.ireturn, 1) := by decide +kernel
theorem dX8_words_29 : decode cX8_words 29 = .ok (.aload_n 0, 1) := by decide +kernel
theorem dX8_words_30 : decode cX8_words 30 = .ok (.invokevirtual 67, 3) := by decide +kernel
theorem dX8_words_33 : decode cX8_words 33 = .ok (.ireturn, 1) := by decide +kernel
theorem dX8_say_0 : decode cX8_say 0 = .ok (.iload_n 1, 1) := by decide +kernel
theorem dX8_say_1 : decode cX8_say 1 = .ok (.iconst 1, 1) := by decide +kernel
theorem dX8_say_2 : decode cX8_say 2 = .ok (.if_icmp .lt 9, 3) := by decide +kernel
theorem dX8_say_5 : decode cX8_say 5 = .ok (.iload_n 1, 1) := by decide +kernel
theorem dX8_say_6 : decode cX8_say 6 = .ok (.ldc 71, 2) := by decide +kernel
theorem dX8_say_8 : decode cX8_say 8 = .ok (.if_icmp .le 5, 3) := by decide +kernel
theorem dX8_say_11 : decode cX8_say 11 = .ok (.iconst (-1), 1) := by decide +kernel
theorem dX8_say_12 : decode cX8_say 12 = .ok (.ireturn, 1) := by decide +kernel
theorem dX8_say_13 : decode cX8_say 13 = .ok (.aload_n 0, 1) := by decide +kernel
theorem dX8_say_14 : decode cX8_say 14 = .ok (.getfield 16, 3) := by decide +kernel
theorem dX8_say_17 : decode cX8_say 17 = .ok (.iload_n 1, 1) := by decide +kernel
theorem dX8_say_18 : decode cX8_say 18 = .ok (.invokevirtual 72, 3) := by decide +kernel
theorem dX8_say_21 : decode cX8_say 21 = .ok (.ifCond .eq 10, 3) := by decide +kernel
theorem dX8_say_24 : decode cX8_say 24 = .ok (.aload_n 0, 1) := by decide +kernel
theorem dX8_say_25 : decode cX8_say 25 = .ok (.invokevirtual 67, 3) := by decide +kernel
theorem dX8_say_28 : decode cX8_say 28 = .ok (.goto 5, 3) := by decide +kernel
theorem dX8_say_31 : decode cX8_say 31 = .ok (.bipush (-3), 2) := by decide +kernel
theorem dX8_say_33 : decode cX8_say 33 = .ok (.ireturn, 1) := by decide +kernel
theorem dX8_slot_0 : decode cX8_slot 0 = .ok (.aload_n 0, 1) := by decide +kernel
theorem dX8_slot_1 : decode cX8_slot 1 = .ok (.getfield 12, 3) := by decide +kernel
theorem dX8_slot_4 : decode cX8_slot 4 = .ok (.iload_n 1, 1) := by decide +kernel
theorem dX8_slot_5 : decode cX8_slot 5 = .ok (.invokevirtual 76, 3) := by decide +kernel
theorem dX8_slot_8 : decode cX8_slot 8 = .ok (.ifCond .eq 17, 3) := by decide +kernel
theorem dX8_slot_11 : decode cX8_slot 11 = .ok (.iload_n 2, 1) := by decide +kernel
theorem dX8_slot_12 : decode cX8_slot 12 = .ok (.iconst (-1), 1) := by decide +kernel
theorem dX8_slot_13 : decode cX8_slot 13 = .ok (.if_icmp .lt 12, 3) := by decide +kernel
theorem dX8_slot_16 : decode cX8_slot 16 = .ok (.iload_n 3, 1) := by decide +kernel
theorem dX8_slot_17 : decode cX8_slot 17 = .ok (.ifCond .lt 8, 3) := by decide +kernel
theorem dX8_slot_20 : decode cX8_slot 20 = .ok (.iload_n 3, 1) := by decide +kernel
theorem dX8_slot_21 : decode cX8_slot 21 = .ok (.iconst 1, 1) := by decide +kernel
theorem dX8_slot_22 : decode cX8_slot 22 = .ok (.if_icmp .le 5, 3) := by decide +kernel
theorem dX8_slot_25 : decode cX8_slot 25 = .ok (.iconst (-1), 1) := by decide +kernel
theorem dX8_slot_26 : decode cX8_slot 26 = .ok (.ireturn, 1) := by decide +kernel
theorem dX8_slot_27 : decode cX8_slot 27 = .ok (.iload_n 2, 1) := by decide +kernel
theorem dX8_slot_28 : decode cX8_slot 28 = .ok (.iconst (-1), 1) := by decide +kernel
theorem dX8_slot_29 : decode cX8_slot 29 = .ok (.if_icmp .ne 13, 3) := by decide +kernel
theorem dX8_slot_32 : decode cX8_slot 32 = .ok (.aload_n 0, 1) := by decide +kernel
theorem dX8_slot_33 : decode cX8_slot 33 = .ok (.getfield 12, 3) := by decide +kernel
theorem dX8_slot_36 : decode cX8_slot 36 = .ok (.getfield 79, 3) := by decide +kernel
theorem dX8_slot_39 : decode cX8_slot 39 = .ok (.iload_n 1, 1) := by decide +kernel
theorem dX8_slot_40 : decode cX8_slot 40 = .ok (.iaload, 1) := by decide +kernel
theorem dX8_slot_41 : decode cX8_slot 41 = .ok (.ireturn, 1) := by decide +kernel
theorem dX8_slot_42 : decode cX8_slot 42 = .ok (.iload_n 2, 1) := by decide +kernel
theorem dX8_slot_43 : decode cX8_slot 43 = .ok (.aload_n 0, 1) := by decide +kernel
theorem dX8_slot_44 : decode cX8_slot 44 = .ok (.getfield 12, 3) := by decide +kernel
theorem dX8_slot_47 : decode cX8_slot 47 = .ok (.getfield 79, 3) := by decide +kernel
theorem dX8_slot_50 : decode cX8_slot 50 = .ok (.iload_n 1, 1) := by decide +kernel
theorem dX8_slot_51 : decode cX8_slot 51 = .ok (.iaload, 1) := by decide +kernel
theorem dX8_slot_52 : decode cX8_slot 52 = .ok (.if_icmp .lt 6, 3) := by decide +kernel
theorem dX8_slot_55 : decode cX8_slot 55 = .ok (.bipush (-4), 2) := by decide +kernel
theorem dX8_slot_57 : decode cX8_slot 57 = .ok (.ireturn, 1) := by decide +kernel
theorem dX8_slot_58 : decode cX8_slot 58 = .ok (.iload_n 1, 1) := by decide +kernel
theorem dX8_slot_59 : decode cX8_slot 59 = .ok (.iconst 4, 1) := by decide +kernel
theorem dX8_slot_60 : decode cX8_slot 60 = .ok (.imul, 1) := by decide +kernel
theorem dX8_slot_61 : decode cX8_slot 61 = .ok (.iload_n 2, 1) := by decide +kernel
theorem dX8_slot_62 : decode cX8_slot 62 = .ok (.iadd, 1) := by decide +kernel
theorem dX8_slot_63 : decode cX8_slot 63 = .ok (.istore 4, 2) := by decide +kernel
theorem dX8_slot_65 : decode cX8_slot 65 = .ok (.iload_n 3, 1) := by decide +kernel
theorem dX8_slot_66 : decode cX8_slot 66 = .ok (.ifCond .ne 16, 3) := by decide +kernel
theorem dX8_slot_69 : decode cX8_slot 69 = .ok (.aload_n 0, 1) := by decide +kernel
theorem dX8_slot_70 : decode cX8_slot 70 = .ok (.getfield 12, 3) := by decide +kernel
theorem dX8_slot_73 : decode cX8_slot 73 = .ok (.getfield 83, 3) := by decide +kernel
theorem dX8_slot_76 : decode cX8_slot 76 = .ok (.iload 4, 2) := by decide +kernel
theorem dX8_slot_78 : decode cX8_slot 78 = .ok (.iaload, 1) := by decide +kernel
theorem dX8_slot_79 : decode cX8_slot 79 = .ok (.goto 13, 3) := by decide +kernel
theorem dX8_slot_82 : decode cX8_slot 82 = .ok (.aload_n 0, 1) := by decide +kernel
theorem dX8_slot_83 : decode cX8_slot 83 = .ok (.getfield 12, 3) := by decide +kernel
theorem dX8_slot_86 : decode cX8_slot 86 = .ok (.getfield 86, 3) := by decide +kernel
theorem dX8_slot_89 : decode cX8_slot 89 = .ok (.iload 4, 2) := by decide +kernel
theorem dX8_slot_91 : decode cX8_slot 91 = .ok (.iaload, 1) := by decide +kernel
theorem dX8_slot_92 : decode cX8_slot 92 = .ok (.ireturn, 1) := by decide +kernel
theorem dX8_count_0 : decode cX8_count 0 = .ok (.iload_n 1, 1) := by decide +kernel
theorem dX8_count_1 : decode cX8_count 1 = .ok (.tableswitch 147 0 10 #[59, 67, 75, 83, 91, 99, 107, 115, 123, 131, 139], 59) := by decide +kernel
theorem dX8_count_60 : decode cX8_count 60 = .ok (.aload_n 0, 1) := by decide +kernel
theorem dX8_count_61 : decode cX8_count 61 = .ok (.getfield 12, 3) := by decide +kernel
theorem dX8_count_64 : decode cX8_count 64 = .ok (.getfield 89, 3) := by decide +kernel
theorem dX8_count_67 : decode cX8_count 67 = .ok (.ireturn, 1) := by decide +kernel
theorem dX8_count_68 : decode cX8_count 68 = .ok (.aload_n 0, 1) := by decide +kernel
theorem dX8_count_69 : decode cX8_count 69 = .ok (.getfield 12, 3) := by decide +kernel
theorem dX8_count_72 : decode cX8_count 72 = .ok (.getfield 92, 3) := by decide +kernel
theorem dX8_count_75 : decode cX8_count 75 = .ok (.ireturn, 1) := by decide +kernel
theorem dX8_count_76 : decode cX8_count 76 = .ok (.aload_n 0, 1) := by decide +kernel
theorem dX8_count_77 : decode cX8_count 77 = .ok (.getfield 12, 3) := by decide +kernel
theorem dX8_count_80 : decode cX8_count 80 = .ok (.getfield 95, 3) := by decide +kernel
theorem dX8_count_83 : decode cX8_count 83 = .ok (.ireturn, 1) := by decide +kernel
theorem dX8_count_84 : decode cX8_count 84 = .ok (.aload_n 0, 1) := by decide +kernel
theorem dX8_count_85 : decode cX8_count 85 = .ok (.getfield 44, 3) := by decide +kernel
theorem dX8_count_88 : decode cX8_count 88 = .ok (.invokevirtual 98, 3) := by decide +kernel
theorem dX8_count_91 : decode cX8_count 91 = .ok (.ireturn, 1) := by decide +kernel
theorem dX8_count_92 : decode cX8_count 92 = .ok (.aload_n 0, 1) := by decide +kernel
theorem dX8_count_93 : decode cX8_count 93 = .ok (.getfield 44, 3) := by decide +kernel
theorem dX8_count_96 : decode cX8_count 96 = .ok (.invokevirtual 101, 3) := by decide +kernel
theorem dX8_count_99 : decode cX8_count 99 = .ok (.ireturn, 1) := by decide +kernel
theorem dX8_count_100 : decode cX8_count 100 = .ok (.aload_n 0, 1) := by decide +kernel
theorem dX8_count_101 : decode cX8_count 101 = .ok (.getfield 44, 3) := by decide +kernel
theorem dX8_count_104 : decode cX8_count 104 = .ok (.invokevirtual 104, 3) := by decide +kernel
theorem dX8_count_107 : decode cX8_count 107 = .ok (.ireturn, 1) := by decide +kernel
theorem dX8_count_108 : decode cX8_count 108 = .ok (.aload_n 0, 1) := by decide +kernel
theorem dX8_count_109 : decode cX8_count 109 = .ok (.getfield 44, 3) := by decide +kernel
theorem dX8_count_112 : decode cX8_count 112 = .ok (.invokevirtual 107, 3) := by decide +kernel
theorem dX8_count_115 : decode cX8_count 115 = .ok (.ireturn, 1) := by decide +kernel
theorem dX8_count_116 : decode cX8_count 116 = .ok (.aload_n 0, 1) := by decide +kernel
theorem dX8_count_117 : decode cX8_count 117 = .ok (.getfield 44, 3) := by decide +kernel
theorem dX8_count_120 : decode cX8_count 120 = .ok (.invokevirtual 110, 3) := by decide +kernel
theorem dX8_count_123 : decode cX8_count 123 = .ok (.ireturn, 1) := by decide +kernel
theorem dX8_count_124 : decode cX8_count 124 = .ok (.aload_n 0, 1) := by decide +kernel
theorem dX8_count_125 : decode cX8_count 125 = .ok (.getfield 44, 3) := by decide +kernel
theorem dX8_count_128 : decode cX8_count 128 = .ok (.invokevirtual 113, 3) := by decide +kernel
theorem dX8_count_131 : decode cX8_count 131 = .ok (.ireturn, 1) := by decide +kernel
theorem dX8_count_132 : decode cX8_count 132 = .ok (.aload_n 0, 1) := by decide +kernel
theorem dX8_count_133 : decode cX8_count 133 = .ok (.getfield 44, 3) := by decide +kernel
theorem dX8_count_136 : decode cX8_count 136 = .ok (.invokevirtual 116, 3) := by decide +kernel
theorem dX8_count_139 : decode cX8_count 139 = .ok (.ireturn, 1) := by decide +kernel
theorem dX8_count_140 : decode cX8_count 140 = .ok (.aload_n 0, 1) := by decide +kernel
theorem dX8_count_141 : decode cX8_count 141 = .ok (.getfield 22, 3) := by decide +kernel
theorem dX8_count_144 : decode cX8_count 144 = .ok (.getfield 119, 3) := by decide +kernel
theorem dX8_count_147 : decode cX8_count 147 = .ok (.ireturn, 1) := by decide +kernel
theorem dX8_count_148 : decode cX8_count 148 = .ok (.iconst (-1), 1) := by decide +kernel
theorem dX8_count_149 : decode cX8_count 149 = .ok (.ireturn, 1) := by decide +kernel
theorem dX8_hear_0 : decode cX8_hear 0 = .ok (.iload_n 1, 1) := by decide +kernel
theorem dX8_hear_1 : decode cX8_hear 1 = .ok (.invokestatic 122, 3) := by decide +kernel
theorem dX8_hear_4 : decode cX8_hear 4 = .ok (.ifCond .eq 10, 3) := by decide +kernel
theorem dX8_hear_7 : decode cX8_hear 7 = .ok (.iload_n 2, 1) := by decide +kernel
theorem dX8_hear_8 : decode cX8_hear 8 = .ok (.invokestatic 125, 3) := by decide +kernel
theorem dX8_hear_11 : decode cX8_hear 11 = .ok (.ifCond .ne 5, 3) := by decide +kernel
theorem dX8_hear_14 : decode cX8_hear 14 = .ok (.iconst (-1), 1) := by decide +kernel
theorem dX8_hear_15 : decode cX8_hear 15 = .ok (.ireturn, 1) := by decide +kernel
theorem dX8_hear_16 : decode cX8_hear 16 = .ok (.aload_n 0, 1) := by decide +kernel
theorem dX8_hear_17 : decode cX8_hear 17 = .ok (.getfield 12, 3) := by decide +kernel
theorem dX8_hear_20 : decode cX8_hear 20 = .ok (.getfield 89, 3) := by decide +kernel
theorem dX8_hear_23 : decode cX8_hear 23 = .ok (.bipush 8, 2) := by decide +kernel
theorem dX8_hear_25 : decode cX8_hear 25 = .ok (.if_icmp .lt 6, 3) := by decide +kernel
theorem dX8_hear_28 : decode cX8_hear 28 = .ok (.bipush (-3), 2) := by decide +kernel
theorem dX8_hear_30 : decode cX8_hear 30 = .ok (.ireturn, 1) := by decide +kernel
theorem dX8_hear_31 : decode cX8_hear 31 = .ok (.aload_n 0, 1) := by decide +kernel
theorem dX8_hear_32 : decode cX8_hear 32 = .ok (.invokevirtual 128, 3) := by decide +kernel
theorem dX8_hear_35 : decode cX8_hear 35 = .ok (.aload_n 0, 1) := by decide +kernel
theorem dX8_hear_36 : decode cX8_hear 36 = .ok (.getfield 12, 3) := by decide +kernel
theorem dX8_hear_39 : decode cX8_hear 39 = .ok (.iload_n 1, 1) := by decide +kernel
theorem dX8_hear_40 : decode cX8_hear 40 = .ok (.iload_n 2, 1) := by decide +kernel
theorem dX8_hear_41 : decode cX8_hear 41 = .ok (.invokevirtual 131, 3) := by decide +kernel
theorem dX8_hear_44 : decode cX8_hear 44 = .ok (.pop, 1) := by decide +kernel
theorem dX8_hear_45 : decode cX8_hear 45 = .ok (.aload_n 0, 1) := by decide +kernel
theorem dX8_hear_46 : decode cX8_hear 46 = .ok (.getfield 12, 3) := by decide +kernel
theorem dX8_hear_49 : decode cX8_hear 49 = .ok (.getfield 89, 3) := by decide +kernel
theorem dX8_hear_52 : decode cX8_hear 52 = .ok (.ireturn, 1) := by decide +kernel
theorem dX8_also_0 : decode cX8_also 0 = .ok (.aload_n 0, 1) := by decide +kernel
theorem dX8_also_1 : decode cX8_also 1 = .ok (.getfield 12, 3) := by decide +kernel
theorem dX8_also_4 : decode cX8_also 4 = .ok (.iload_n 1, 1) := by decide +kernel
theorem dX8_also_5 : decode cX8_also 5 = .ok (.invokevirtual 76, 3) := by decide +kernel
theorem dX8_also_8 : decode cX8_also 8 = .ok (.ifCond .eq 17, 3) := by decide +kernel
theorem dX8_also_11 : decode cX8_also 11 = .ok (.iload_n 2, 1) := by decide +kernel
theorem dX8_also_12 : decode cX8_also 12 = .ok (.invokestatic 122, 3) := by decide +kernel
theorem dX8_also_15 : decode cX8_also 15 = .ok (.ifCond .eq 10, 3) := by decide +kernel
theorem dX8_also_18 : decode cX8_also 18 = .ok (.iload_n 3, 1) := by decide +kernel
theorem dX8_also_19 : decode cX8_also 19 = .ok (.invokestatic 125, 3) := by decide +kernel
theorem dX8_also_22 : decode cX8_also 22 = .ok (.ifCond .ne 5, 3) := by decide +kernel
theorem dX8_also_25 : decode cX8_also 25 = .ok (.iconst (-1), 1) := by decide +kernel
theorem dX8_also_26 : decode cX8_also 26 = .ok (.ireturn, 1) := by decide +kernel
theorem dX8_also_27 : decode cX8_also 27 = .ok (.aload_n 0, 1) := by decide +kernel
theorem dX8_also_28 : decode cX8_also 28 = .ok (.getfield 12, 3) := by decide +kernel
theorem dX8_also_31 : decode cX8_also 31 = .ok (.iload_n 1, 1) := by decide +kernel
theorem dX8_also_32 : decode cX8_also 32 = .ok (.iload_n 2, 1) := by decide +kernel
theorem dX8_also_33 : decode cX8_also 33 = .ok (.invokevirtual 135, 3) := by decide +kernel
theorem dX8_also_36 : decode cX8_also 36 = .ok (.ifCond .lt 6, 3) := by decide +kernel
theorem dX8_also_39 : decode cX8_also 39 = .ok (.bipush (-2), 2) := by decide +kernel
theorem dX8_also_41 : decode cX8_also 41 = .ok (.ireturn, 1) := by decide +kernel
theorem dX8_also_42 : decode cX8_also 42 = .ok (.aload_n 0, 1) := by decide +kernel
theorem dX8_also_43 : decode cX8_also 43 = .ok (.getfield 12, 3) := by decide +kernel
theorem dX8_also_46 : decode cX8_also 46 = .ok (.getfield 79, 3) := by decide +kernel
theorem dX8_also_49 : decode cX8_also 49 = .ok (.iload_n 1, 1) := by decide +kernel
theorem dX8_also_50 : decode cX8_also 50 = .ok (.iaload, 1) := by decide +kernel
theorem dX8_also_51 : decode cX8_also 51 = .ok (.iconst 4, 1) := by decide +kernel
theorem dX8_also_52 : decode cX8_also 52 = .ok (.if_icmp .lt 6, 3) := by decide +kernel
theorem dX8_also_55 : decode cX8_also 55 = .ok (.bipush (-3), 2) := by decide +kernel
theorem dX8_also_57 : decode cX8_also 57 = .ok (.ireturn, 1) := by decide +kernel
theorem dX8_also_58 : decode cX8_also 58 = .ok (.aload_n 0, 1) := by decide +kernel
theorem dX8_also_59 : decode cX8_also 59 = .ok (.invokevirtual 128, 3) := by decide +kernel
theorem dX8_also_62 : decode cX8_also 62 = .ok (.aload_n 0, 1) := by decide +kernel
theorem dX8_also_63 : decode cX8_also 63 = .ok (.getfield 12, 3) := by decide +kernel
theorem dX8_also_66 : decode cX8_also 66 = .ok (.iload_n 1, 1) := by decide +kernel
theorem dX8_also_67 : decode cX8_also 67 = .ok (.iload_n 2, 1) := by decide +kernel
theorem dX8_also_68 : decode cX8_also 68 = .ok (.iload_n 3, 1) := by decide +kernel
theorem dX8_also_69 : decode cX8_also 69 = .ok (.invokevirtual 139, 3) := by decide +kernel
theorem dX8_also_72 : decode cX8_also 72 = .ok (.pop, 1) := by decide +kernel
theorem dX8_also_73 : decode cX8_also 73 = .ok (.aload_n 0, 1) := by decide +kernel
theorem dX8_also_74 : decode cX8_also 74 = .ok (.getfield 12, 3) := by decide +kernel
theorem dX8_also_77 : decode cX8_also 77 = .ok (.getfield 79, 3) := by decide +kernel
theorem dX8_also_80 : decode cX8_also 80 = .ok (.iload_n 1, 1) := by decide +kernel
theorem dX8_also_81 : decode cX8_also 81 = .ok (.iaload, 1) := by decide +kernel
theorem dX8_also_82 : decode cX8_also 82 = .ok (.ireturn, 1) := by decide +kernel
theorem dX8_lose_0 : decode cX8_lose 0 = .ok (.aload_n 0, 1) := by decide +kernel
theorem dX8_lose_1 : decode cX8_lose 1 = .ok (.getfield 12, 3) := by decide +kernel
theorem dX8_lose_4 : decode cX8_lose 4 = .ok (.iload_n 1, 1) := by decide +kernel
theorem dX8_lose_5 : decode cX8_lose 5 = .ok (.invokevirtual 76, 3) := by decide +kernel
theorem dX8_lose_8 : decode cX8_lose 8 = .ok (.ifCond .ne 5, 3) := by decide +kernel
theorem dX8_lose_11 : decode cX8_lose 11 = .ok (.iconst (-1), 1) := by decide +kernel
theorem dX8_lose_12 : decode cX8_lose 12 = .ok (.ireturn, 1) := by decide +kernel
theorem dX8_lose_13 : decode cX8_lose 13 = .ok (.aload_n 0, 1) := by decide +kernel
theorem dX8_lose_14 : decode cX8_lose 14 = .ok (.invokevirtual 128, 3) := by decide +kernel
theorem dX8_lose_17 : decode cX8_lose 17 = .ok (.aload_n 0, 1) := by decide +kernel
theorem dX8_lose_18 : decode cX8_lose 18 = .ok (.getfield 12, 3) := by decide +kernel
theorem dX8_lose_21 : decode cX8_lose 21 = .ok (.iload_n 1, 1) := by decide +kernel
theorem dX8_lose_22 : decode cX8_lose 22 = .ok (.invokevirtual 143, 3) := by decide +kernel
theorem dX8_lose_25 : decode cX8_lose 25 = .ok (.aload_n 0, 1) := by decide +kernel
theorem dX8_lose_26 : decode cX8_lose 26 = .ok (.getfield 12, 3) := by decide +kernel
theorem dX8_lose_29 : decode cX8_lose 29 = .ok (.getfield 89, 3) := by decide +kernel
theorem dX8_lose_32 : decode cX8_lose 32 = .ok (.ireturn, 1) := by decide +kernel
theorem dX8_settle_0 : decode cX8_settle 0 = .ok (.aload_n 0, 1) := by decide +kernel
theorem dX8_settle_1 : decode cX8_settle 1 = .ok (.getfield 12, 3) := by decide +kernel
theorem dX8_settle_4 : decode cX8_settle 4 = .ok (.iload_n 1, 1) := by decide +kernel
theorem dX8_settle_5 : decode cX8_settle 5 = .ok (.invokevirtual 76, 3) := by decide +kernel
theorem dX8_settle_8 : decode cX8_settle 8 = .ok (.ifCond .eq 10, 3) := by decide +kernel
theorem dX8_settle_11 : decode cX8_settle 11 = .ok (.iload_n 2, 1) := by decide +kernel
theorem dX8_settle_12 : decode cX8_settle 12 = .ok (.invokestatic 122, 3) := by decide +kernel
theorem dX8_settle_15 : decode cX8_settle 15 = .ok (.ifCond .ne 5, 3) := by decide +kernel
theorem dX8_settle_18 : decode cX8_settle 18 = .ok (.iconst (-1), 1) := by decide +kernel
theorem dX8_settle_19 : decode cX8_settle 19 = .ok (.ireturn, 1) := by decide +kernel
theorem dX8_settle_20 : decode cX8_settle 20 = .ok (.aload_n 0, 1) := by decide +kernel
theorem dX8_settle_21 : decode cX8_settle 21 = .ok (.getfield 12, 3) := by decide +kernel
theorem dX8_settle_24 : decode cX8_settle 24 = .ok (.iload_n 1, 1) := by decide +kernel
theorem dX8_settle_25 : decode cX8_settle 25 = .ok (.iload_n 2, 1) := by decide +kernel
theorem dX8_settle_26 : decode cX8_settle 26 = .ok (.invokevirtual 135, 3) := by decide +kernel
theorem dX8_settle_29 : decode cX8_settle 29 = .ok (.istore_n 3, 1) := by decide +kernel
theorem dX8_settle_30 : decode cX8_settle 30 = .ok (.aload_n 0, 1) := by decide +kernel
theorem dX8_settle_31 : decode cX8_settle 31 = .ok (.getfield 12, 3) := by decide +kernel
theorem dX8_settle_34 : decode cX8_settle 34 = .ok (.getfield 79, 3) := by decide +kernel
theorem dX8_settle_37 : decode cX8_settle 37 = .ok (.iload_n 1, 1) := by decide +kernel
theorem dX8_settle_38 : decode cX8_settle 38 = .ok (.iaload, 1) := by decide +kernel
theorem dX8_settle_39 : decode cX8_settle 39 = .ok (.iconst 1, 1) := by decide +kernel
theorem dX8_settle_40 : decode cX8_settle 40 = .ok (.isub, 1) := by decide +kernel
theorem dX8_settle_41 : decode cX8_settle 41 = .ok (.istore 4, 2) := by decide +kernel
theorem dX8_settle_43 : decode cX8_settle 43 = .ok (.iload_n 3, 1) := by decide +kernel
theorem dX8_settle_44 : decode cX8_settle 44 = .ok (.ifCond .lt 8, 3) := by decide +kernel
theorem dX8_settle_47 : decode cX8_settle 47 = .ok (.iload 4, 2) := by decide +kernel
theorem dX8_settle_49 : decode cX8_settle 49 = .ok (.ifCond .ne 6, 3) := by decide +kernel
theorem dX8_settle_52 : decode cX8_settle 52 = .ok (.bipush (-2), 2) := by decide +kernel
theorem dX8_settle_54 : decode cX8_settle 54 = .ok (.ireturn, 1) := by decide +kernel
theorem dX8_settle_55 : decode cX8_settle 55 = .ok (.aload_n 0, 1) := by decide +kernel
theorem dX8_settle_56 : decode cX8_settle 56 = .ok (.invokevirtual 128, 3) := by decide +kernel
theorem dX8_settle_59 : decode cX8_settle 59 = .ok (.aload_n 0, 1) := by decide +kernel
theorem dX8_settle_60 : decode cX8_settle 60 = .ok (.getfield 12, 3) := by decide +kernel
theorem dX8_settle_63 : decode cX8_settle 63 = .ok (.iload_n 1, 1) := by decide +kernel
theorem dX8_settle_64 : decode cX8_settle 64 = .ok (.iload_n 3, 1) := by decide +kernel
theorem dX8_settle_65 : decode cX8_settle 65 = .ok (.invokevirtual 147, 3) := by decide +kernel
theorem dX8_settle_68 : decode cX8_settle 68 = .ok (.iload 4, 2) := by decide +kernel
theorem dX8_settle_70 : decode cX8_settle 70 = .ok (.ireturn, 1) := by decide +kernel
theorem dX8_check_0 : decode cX8_check 0 = .ok (.iload_n 1, 1) := by decide +kernel
theorem dX8_check_1 : decode cX8_check 1 = .ok (.ifCond .lt 8, 3) := by decide +kernel
theorem dX8_check_4 : decode cX8_check 4 = .ok (.iload_n 1, 1) := by decide +kernel
theorem dX8_check_5 : decode cX8_check 5 = .ok (.iconst 5, 1) := by decide +kernel
theorem dX8_check_6 : decode cX8_check 6 = .ok (.if_icmp .lt 5, 3) := by decide +kernel
theorem dX8_check_9 : decode cX8_check 9 = .ok (.iconst (-1), 1) := by decide +kernel
theorem dX8_check_10 : decode cX8_check 10 = .ok (.ireturn, 1) := by decide +kernel
theorem dX8_check_11 : decode cX8_check 11 = .ok (.aload_n 0, 1) := by decide +kernel
theorem dX8_check_12 : decode cX8_check 12 = .ok (.getfield 12, 3) := by decide +kernel
theorem dX8_check_15 : decode cX8_check 15 = .ok (.getfield 92, 3) := by decide +kernel
theorem dX8_check_18 : decode cX8_check 18 = .ok (.istore_n 2, 1) := by decide +kernel
theorem dX8_check_19 : decode cX8_check 19 = .ok (.iload_n 2, 1) := by decide +kernel
theorem dX8_check_20 : decode cX8_check 20 = .ok (.iload_n 1, 1) := by decide +kernel
theorem dX8_check_21 : decode cX8_check 21 = .ok (.if_icmp .ne 6, 3) := by decide +kernel
theorem dX8_check_24 : decode cX8_check 24 = .ok (.bipush (-2), 2) := by decide +kernel
theorem dX8_check_26 : decode cX8_check 26 = .ok (.ireturn, 1) := by decide +kernel
theorem dX8_check_27 : decode cX8_check 27 = .ok (.aload_n 0, 1) := by decide +kernel
theorem dX8_check_28 : decode cX8_check 28 = .ok (.invokevirtual 128, 3) := by decide +kernel
theorem dX8_check_31 : decode cX8_check 31 = .ok (.aload_n 0, 1) := by decide +kernel
theorem dX8_check_32 : decode cX8_check 32 = .ok (.getfield 12, 3) := by decide +kernel
theorem dX8_check_35 : decode cX8_check 35 = .ok (.iload_n 1, 1) := by decide +kernel
theorem dX8_check_36 : decode cX8_check 36 = .ok (.putfield 92, 3) := by decide +kernel
theorem dX8_check_39 : decode cX8_check 39 = .ok (.iload_n 2, 1) := by decide +kernel
theorem dX8_check_40 : decode cX8_check 40 = .ok (.ireturn, 1) := by decide +kernel
theorem dX8_slack_0 : decode cX8_slack 0 = .ok (.iload_n 1, 1) := by decide +kernel
theorem dX8_slack_1 : decode cX8_slack 1 = .ok (.ifCond .lt 9, 3) := by decide +kernel
theorem dX8_slack_4 : decode cX8_slack 4 = .ok (.iload_n 1, 1) := by decide +kernel
theorem dX8_slack_5 : decode cX8_slack 5 = .ok (.bipush 20, 2) := by decide +kernel
theorem dX8_slack_7 : decode cX8_slack 7 = .ok (.if_icmp .le 5, 3) := by decide +kernel
theorem dX8_slack_10 : decode cX8_slack 10 = .ok (.iconst (-1), 1) := by decide +kernel
theorem dX8_slack_11 : decode cX8_slack 11 = .ok (.ireturn, 1) := by decide +kernel
theorem dX8_slack_12 : decode cX8_slack 12 = .ok (.aload_n 0, 1) := by decide +kernel
theorem dX8_slack_13 : decode cX8_slack 13 = .ok (.getfield 12, 3) := by decide +kernel
theorem dX8_slack_16 : decode cX8_slack 16 = .ok (.getfield 95, 3) := by decide +kernel
theorem dX8_slack_19 : decode cX8_slack 19 = .ok (.istore_n 2, 1) := by decide +kernel
theorem dX8_slack_20 : decode cX8_slack 20 = .ok (.iload_n 2, 1) := by decide +kernel
theorem dX8_slack_21 : decode cX8_slack 21 = .ok (.iload_n 1, 1) := by decide +kernel
theorem dX8_slack_22 : decode cX8_slack 22 = .ok (.if_icmp .ne 6, 3) := by decide +kernel
theorem dX8_slack_25 : decode cX8_slack 25 = .ok (.bipush (-2), 2) := by decide +kernel
theorem dX8_slack_27 : decode cX8_slack 27 = .ok (.ireturn, 1) := by decide +kernel
theorem dX8_slack_28 : decode cX8_slack 28 = .ok (.aload_n 0, 1) := by decide +kernel
theorem dX8_slack_29 : decode cX8_slack 29 = .ok (.invokevirtual 128, 3) := by decide +kernel
theorem dX8_slack_32 : decode cX8_slack 32 = .ok (.aload_n 0, 1) := by decide +kernel
theorem dX8_slack_33 : decode cX8_slack 33 = .ok (.getfield 12, 3) := by decide +kernel
theorem dX8_slack_36 : decode cX8_slack 36 = .ok (.iload_n 1, 1) := by decide +kernel
theorem dX8_slack_37 : decode cX8_slack 37 = .ok (.putfield 95, 3) := by decide +kernel
theorem dX8_slack_40 : decode cX8_slack 40 = .ok (.iload_n 2, 1) := by decide +kernel
theorem dX8_slack_41 : decode cX8_slack 41 = .ok (.ireturn, 1) := by decide +kernel
theorem dX8_storm_0 : decode cX8_storm 0 = .ok (.iload_n 1, 1) := by decide +kernel
theorem dX8_storm_1 : decode cX8_storm 1 = .ok (.iconst 1, 1) := by decide +kernel
theorem dX8_storm_2 : decode cX8_storm 2 = .ok (.if_icmp .lt 9, 3) := by decide +kernel
theorem dX8_storm_5 : decode cX8_storm 5 = .ok (.iload_n 1, 1) := by decide +kernel
theorem dX8_storm_6 : decode cX8_storm 6 = .ok (.bipush 40, 2) := by decide +kernel
theorem dX8_storm_8 : decode cX8_storm 8 = .ok (.if_icmp .le 5, 3) := by decide +kernel
theorem dX8_storm_11 : decode cX8_storm 11 = .ok (.iconst (-1), 1) := by decide +kernel
theorem dX8_storm_12 : decode cX8_storm 12 = .ok (.ireturn, 1) := by decide +kernel
theorem dX8_storm_13 : decode cX8_storm 13 = .ok (.iconst 0, 1) := by decide +kernel
theorem dX8_storm_14 : decode cX8_storm 14 = .ok (.istore_n 2, 1) := by decide +kernel
theorem dX8_storm_15 : decode cX8_storm 15 = .ok (.iload_n 2, 1) := by decide +kernel
theorem dX8_storm_16 : decode cX8_storm 16 = .ok (.iload_n 1, 1) := by decide +kernel
theorem dX8_storm_17 : decode cX8_storm 17 = .ok (.if_icmp .ge 20, 3) := by decide +kernel
theorem dX8_storm_20 : decode cX8_storm 20 = .ok (.aload_n 0, 1) := by decide +kernel
theorem dX8_storm_21 : decode cX8_storm 21 = .ok (.invokevirtual 128, 3) := by decide +kernel
theorem dX8_storm_24 : decode cX8_storm 24 = .ok (.aload_n 0, 1) := by decide +kernel
theorem dX8_storm_25 : decode cX8_storm 25 = .ok (.getfield 12, 3) := by decide +kernel
theorem dX8_storm_28 : decode cX8_storm 28 = .ok (.invokevirtual 151, 3) := by decide +kernel
theorem dX8_storm_31 : decode cX8_storm 31 = .ok (.iinc 2 1, 3) := by decide +kernel
theorem dX8_storm_34 : decode cX8_storm 34 = .ok (.goto (-19), 3) := by decide +kernel
theorem dX8_storm_37 : decode cX8_storm 37 = .ok (.aload_n 0, 1) := by decide +kernel
theorem dX8_storm_38 : decode cX8_storm 38 = .ok (.getfield 12, 3) := by decide +kernel
theorem dX8_storm_41 : decode cX8_storm 41 = .ok (.invokevirtual 154, 3) := by decide +kernel
theorem dX8_storm_44 : decode cX8_storm 44 = .ok (.ireturn, 1) := by decide +kernel
theorem dX8_undo_0 : decode cX8_undo 0 = .ok (.aload_n 0, 1) := by decide +kernel
theorem dX8_undo_1 : decode cX8_undo 1 = .ok (.getfield 22, 3) := by decide +kernel
theorem dX8_undo_4 : decode cX8_undo 4 = .ok (.getfield 119, 3) := by decide +kernel
theorem dX8_undo_7 : decode cX8_undo 7 = .ok (.ifCond .ne 6, 3) := by decide +kernel
theorem dX8_undo_10 : decode cX8_undo 10 = .ok (.bipush (-4), 2) := by decide +kernel
theorem dX8_undo_12 : decode cX8_undo 12 = .ok (.ireturn, 1) := by decide +kernel
theorem dX8_undo_13 : decode cX8_undo 13 = .ok (.aload_n 0, 1) := by decide +kernel
theorem dX8_undo_14 : decode cX8_undo 14 = .ok (.getfield 22, 3) := by decide +kernel
theorem dX8_undo_17 : decode cX8_undo 17 = .ok (.aload_n 0, 1) := by decide +kernel
theorem dX8_undo_18 : decode cX8_undo 18 = .ok (.getfield 12, 3) := by decide +kernel
theorem dX8_undo_21 : decode cX8_undo 21 = .ok (.invokevirtual 157, 3) := by decide +kernel
theorem dX8_undo_24 : decode cX8_undo 24 = .ok (.aload_n 0, 1) := by decide +kernel
theorem dX8_undo_25 : decode cX8_undo 25 = .ok (.getfield 44, 3) := by decide +kernel
theorem dX8_undo_28 : decode cX8_undo 28 = .ok (.invokevirtual 160, 3) := by decide +kernel
theorem dX8_undo_31 : decode cX8_undo 31 = .ok (.aload_n 0, 1) := by decide +kernel
theorem dX8_undo_32 : decode cX8_undo 32 = .ok (.getfield 22, 3) := by decide +kernel
theorem dX8_undo_35 : decode cX8_undo 35 = .ok (.getfield 119, 3) := by decide +kernel
theorem dX8_undo_38 : decode cX8_undo 38 = .ok (.ireturn, 1) := by decide +kernel
theorem dX8_seed_0 : decode cX8_seed 0 = .ok (.iload_n 1, 1) := by decide +kernel
theorem dX8_seed_1 : decode cX8_seed 1 = .ok (.ifCond .ge 5, 3) := by decide +kernel
theorem dX8_seed_4 : decode cX8_seed 4 = .ok (.iconst (-1), 1) := by decide +kernel
theorem dX8_seed_5 : decode cX8_seed 5 = .ok (.ireturn, 1) := by decide +kernel
theorem dX8_seed_6 : decode cX8_seed 6 = .ok (.aload_n 0, 1) := by decide +kernel
theorem dX8_seed_7 : decode cX8_seed 7 = .ok (.getfield 12, 3) := by decide +kernel
theorem dX8_seed_10 : decode cX8_seed 10 = .ok (.getfield 163, 3) := by decide +kernel
theorem dX8_seed_13 : decode cX8_seed 13 = .ok (.istore_n 2, 1) := by decide +kernel
theorem dX8_seed_14 : decode cX8_seed 14 = .ok (.aload_n 0, 1) := by decide +kernel
theorem dX8_seed_15 : decode cX8_seed 15 = .ok (.getfield 12, 3) := by decide +kernel
theorem dX8_seed_18 : decode cX8_seed 18 = .ok (.iload_n 1, 1) := by decide +kernel
theorem dX8_seed_19 : decode cX8_seed 19 = .ok (.putfield 163, 3) := by decide +kernel
theorem dX8_seed_22 : decode cX8_seed 22 = .ok (.iload_n 2, 1) := by decide +kernel
theorem dX8_seed_23 : decode cX8_seed 23 = .ok (.ireturn, 1) := by decide +kernel
theorem dX8_best_0 : decode cX8_best 0 = .ok (.iload_n 1, 1) := by decide +kernel
theorem dX8_best_1 : decode cX8_best 1 = .ok (.bipush (-2), 2) := by decide +kernel
theorem dX8_best_3 : decode cX8_best 3 = .ok (.if_icmp .ge 7, 3) := by decide +kernel
theorem dX8_best_6 : decode cX8_best 6 = .ok (.iconst (-1), 1) := by decide +kernel
theorem dX8_best_7 : decode cX8_best 7 = .ok (.goto 11, 3) := by decide +kernel
theorem dX8_best_10 : decode cX8_best 10 = .ok (.aload_n 0, 1) := by decide +kernel
theorem dX8_best_11 : decode cX8_best 11 = .ok (.getfield 44, 3) := by decide +kernel
theorem dX8_best_14 : decode cX8_best 14 = .ok (.iload_n 1, 1) := by decide +kernel
theorem dX8_best_15 : decode cX8_best 15 = .ok (.invokevirtual 166, 3) := by decide +kernel
theorem dX8_best_18 : decode cX8_best 18 = .ok (.ireturn, 1) := by decide +kernel
theorem dX8_taken_0 : decode cX8_taken 0 = .ok (.aload_n 0, 1) := by decide +kernel
theorem dX8_taken_1 : decode cX8_taken 1 = .ok (.getfield 12, 3) := by decide +kernel
theorem dX8_taken_4 : decode cX8_taken 4 = .ok (.iload_n 1, 1) := by decide +kernel
theorem dX8_taken_5 : decode cX8_taken 5 = .ok (.invokevirtual 76, 3) := by decide +kernel
theorem dX8_taken_8 : decode cX8_taken 8 = .ok (.ifCond .eq 14, 3) := by decide +kernel
theorem dX8_taken_11 : decode cX8_taken 11 = .ok (.aload_n 0, 1) := by decide +kernel
theorem dX8_taken_12 : decode cX8_taken 12 = .ok (.getfield 44, 3) := by decide +kernel
theorem dX8_taken_15 : decode cX8_taken 15 = .ok (.iload_n 1, 1) := by decide +kernel
theorem dX8_taken_16 : decode cX8_taken 16 = .ok (.invokevirtual 170, 3) := by decide +kernel
theorem dX8_taken_19 : decode cX8_taken 19 = .ok (.goto 4, 3) := by decide +kernel
theorem dX8_taken_22 : decode cX8_taken 22 = .ok (.iconst (-1), 1) := by decide +kernel
theorem dX8_taken_23 : decode cX8_taken 23 = .ok (.ireturn, 1) := by decide +kernel
theorem dX8_open_0 : decode cX8_open 0 = .ok (.aload_n 0, 1) := by decide +kernel
theorem dX8_open_1 : decode cX8_open 1 = .ok (.getfield 12, 3) := by decide +kernel
theorem dX8_open_4 : decode cX8_open 4 = .ok (.iload_n 1, 1) := by decide +kernel
theorem dX8_open_5 : decode cX8_open 5 = .ok (.invokevirtual 76, 3) := by decide +kernel
theorem dX8_open_8 : decode cX8_open 8 = .ok (.ifCond .eq 14, 3) := by decide +kernel
theorem dX8_open_11 : decode cX8_open 11 = .ok (.aload_n 0, 1) := by decide +kernel
theorem dX8_open_12 : decode cX8_open 12 = .ok (.getfield 44, 3) := by decide +kernel
theorem dX8_open_15 : decode cX8_open 15 = .ok (.iload_n 1, 1) := by decide +kernel
theorem dX8_open_16 : decode cX8_open 16 = .ok (.invokevirtual 173, 3) := by decide +kernel
theorem dX8_open_19 : decode cX8_open 19 = .ok (.goto 6, 3) := by decide +kernel
theorem dX8_open_22 : decode cX8_open 22 = .ok (.ldc2_w 177, 3) := by decide +kernel
theorem dX8_open_25 : decode cX8_open 25 = .ok (.lreturn, 1) := by decide +kernel
theorem dX8_counted_0 : decode cX8_counted 0 = .ok (.iload_n 1, 1) := by decide +kernel
theorem dX8_counted_1 : decode cX8_counted 1 = .ok (.ifCond .lt 12, 3) := by decide +kernel
theorem dX8_counted_4 : decode cX8_counted 4 = .ok (.iload_n 2, 1) := by decide +kernel
theorem dX8_counted_5 : decode cX8_counted 5 = .ok (.ifCond .lt 8, 3) := by decide +kernel
theorem dX8_counted_8 : decode cX8_counted 8 = .ok (.iload_n 2, 1) := by decide +kernel
theorem dX8_counted_9 : decode cX8_counted 9 = .ok (.iconst 1, 1) := by decide +kernel
theorem dX8_counted_10 : decode cX8_counted 10 = .ok (.if_icmp .le 7, 3) := by decide +kernel
theorem dX8_counted_13 : decode cX8_counted 13 = .ok (.iconst (-1), 1) := by decide +kernel
theorem dX8_counted_14 : decode cX8_counted 14 = .ok (.goto 21, 3) := by decide +kernel
theorem dX8_counted_17 : decode cX8_counted 17 = .ok (.aload_n 0, 1) := by decide +kernel
theorem dX8_counted_18 : decode cX8_counted 18 = .ok (.getfield 44, 3) := by decide +kernel
theorem dX8_counted_21 : decode cX8_counted 21 = .ok (.iload_n 1, 1) := by decide +kernel
theorem dX8_counted_22 : decode cX8_counted 22 = .ok (.iload_n 2, 1) := by decide +kernel
theorem dX8_counted_23 : decode cX8_counted 23 = .ok (.iconst 1, 1) := by decide +kernel
theorem dX8_counted_24 : decode cX8_counted 24 = .ok (.if_icmp .ne 7, 3) := by decide +kernel
theorem dX8_counted_27 : decode cX8_counted 27 = .ok (.iconst 1, 1) := by decide +kernel
theorem dX8_counted_28 : decode cX8_counted 28 = .ok (.goto 4, 3) := by decide +kernel
theorem dX8_counted_31 : decode cX8_counted 31 = .ok (.iconst 0, 1) := by decide +kernel
theorem dX8_counted_32 : decode cX8_counted 32 = .ok (.invokevirtual 179, 3) := by decide +kernel
theorem dX8_counted_35 : decode cX8_counted 35 = .ok (.ireturn, 1) := by decide +kernel
theorem dX8_likely_0 : decode cX8_likely 0 = .ok (.iload_n 1, 1) := by decide +kernel
theorem dX8_likely_1 : decode cX8_likely 1 = .ok (.ifCond .lt 18, 3) := by decide +kernel
theorem dX8_likely_4 : decode cX8_likely 4 = .ok (.iload_n 1, 1) := by decide +kernel
theorem dX8_likely_5 : decode cX8_likely 5 = .ok (.ldc 71, 2) := by decide +kernel
theorem dX8_likely_7 : decode cX8_likely 7 = .ok (.if_icmp .gt 12, 3) := by decide +kernel
theorem dX8_likely_10 : decode cX8_likely 10 = .ok (.iload_n 2, 1) := by decide +kernel
theorem dX8_likely_11 : decode cX8_likely 11 = .ok (.ifCond .lt 8, 3) := by decide +kernel
theorem dX8_likely_14 : decode cX8_likely 14 = .ok (.iload_n 2, 1) := by decide +kernel
theorem dX8_likely_15 : decode cX8_likely 15 = .ok (.iconst 1, 1) := by decide +kernel
theorem dX8_likely_16 : decode cX8_likely 16 = .ok (.if_icmp .le 9, 3) := by decide +kernel
theorem dX8_likely_19 : decode cX8_likely 19 = .ok (.ldc2_w 177, 3) := by decide +kernel
theorem dX8_likely_22 : decode cX8_likely 22 = .ok (.goto 21, 3) := by decide +kernel
theorem dX8_likely_25 : decode cX8_likely 25 = .ok (.aload_n 0, 1) := by decide +kernel
theorem dX8_likely_26 : decode cX8_likely 26 = .ok (.getfield 44, 3) := by decide +kernel
theorem dX8_likely_29 : decode cX8_likely 29 = .ok (.iload_n 1, 1) := by decide +kernel
theorem dX8_likely_30 : decode cX8_likely 30 = .ok (.iload_n 2, 1) := by decide +kernel
theorem dX8_likely_31 : decode cX8_likely 31 = .ok (.iconst 1, 1) := by decide +kernel
theorem dX8_likely_32 : decode cX8_likely 32 = .ok (.if_icmp .ne 7, 3) := by decide +kernel
theorem dX8_likely_35 : decode cX8_likely 35 = .ok (.iconst 1, 1) := by decide +kernel
theorem dX8_likely_36 : decode cX8_likely 36 = .ok (.goto 4, 3) := by decide +kernel
theorem dX8_likely_39 : decode cX8_likely 39 = .ok (.iconst 0, 1) := by decide +kernel
theorem dX8_likely_40 : decode cX8_likely 40 = .ok (.invokevirtual 183, 3) := by decide +kernel
theorem dX8_likely_43 : decode cX8_likely 43 = .ok (.lreturn, 1) := by decide +kernel
theorem dX8_image_0 : decode cX8_image 0 = .ok (.aload_n 0, 1) := by decide +kernel
theorem dX8_image_1 : decode cX8_image 1 = .ok (.getfield 26, 3) := by decide +kernel
theorem dX8_image_4 : decode cX8_image 4 = .ok (.aload_n 0, 1) := by decide +kernel
theorem dX8_image_5 : decode cX8_image 5 = .ok (.getfield 12, 3) := by decide +kernel
theorem dX8_image_8 : decode cX8_image 8 = .ok (.invokevirtual 187, 3) := by decide +kernel
theorem dX8_image_11 : decode cX8_image 11 = .ok (.aload_n 0, 1) := by decide +kernel
theorem dX8_image_12 : decode cX8_image 12 = .ok (.getfield 29, 3) := by decide +kernel
theorem dX8_image_15 : decode cX8_image 15 = .ok (.aload_n 0, 1) := by decide +kernel
theorem dX8_image_16 : decode cX8_image 16 = .ok (.getfield 22, 3) := by decide +kernel
theorem dX8_image_19 : decode cX8_image 19 = .ok (.invokevirtual 190, 3) := by decide +kernel
theorem dX8_image_22 : decode cX8_image 22 = .ok (.aload_n 0, 1) := by decide +kernel
theorem dX8_image_23 : decode cX8_image 23 = .ok (.iconst 1, 1) := by decide +kernel
theorem dX8_image_24 : decode cX8_image 24 = .ok (.putfield 193, 3) := by decide +kernel
theorem dX8_image_27 : decode cX8_image 27 = .ok (.iconst 1, 1) := by decide +kernel
theorem dX8_image_28 : decode cX8_image 28 = .ok (.ireturn, 1) := by decide +kernel
theorem dX8_restore_0 : decode cX8_restore 0 = .ok (.aload_n 0, 1) := by decide +kernel
theorem dX8_restore_1 : decode cX8_restore 1 = .ok (.getfield 193, 3) := by decide +kernel
theorem dX8_restore_4 : decode cX8_restore 4 = .ok (.ifCond .ne 6, 3) := by decide +kernel
theorem dX8_restore_7 : decode cX8_restore 7 = .ok (.bipush (-4), 2) := by decide +kernel
theorem dX8_restore_9 : decode cX8_restore 9 = .ok (.ireturn, 1) := by decide +kernel
theorem dX8_restore_10 : decode cX8_restore 10 = .ok (.aload_n 0, 1) := by decide +kernel
theorem dX8_restore_11 : decode cX8_restore 11 = .ok (.getfield 12, 3) := by decide +kernel
theorem dX8_restore_14 : decode cX8_restore 14 = .ok (.aload_n 0, 1) := by decide +kernel
theorem dX8_restore_15 : decode cX8_restore 15 = .ok (.getfield 26, 3) := by decide +kernel
theorem dX8_restore_18 : decode cX8_restore 18 = .ok (.invokevirtual 187, 3) := by decide +kernel
theorem dX8_restore_21 : decode cX8_restore 21 = .ok (.aload_n 0, 1) := by decide +kernel
theorem dX8_restore_22 : decode cX8_restore 22 = .ok (.getfield 22, 3) := by decide +kernel
theorem dX8_restore_25 : decode cX8_restore 25 = .ok (.aload_n 0, 1) := by decide +kernel
theorem dX8_restore_26 : decode cX8_restore 26 = .ok (.getfield 29, 3) := by decide +kernel
theorem dX8_restore_29 : decode cX8_restore 29 = .ok (.invokevirtual 190, 3) := by decide +kernel
theorem dX8_restore_32 : decode cX8_restore 32 = .ok (.aload_n 0, 1) := by decide +kernel
theorem dX8_restore_33 : decode cX8_restore 33 = .ok (.getfield 44, 3) := by decide +kernel
theorem dX8_restore_36 : decode cX8_restore 36 = .ok (.invokevirtual 160, 3) := by decide +kernel
theorem dX8_restore_39 : decode cX8_restore 39 = .ok (.iconst 1, 1) := by decide +kernel
theorem dX8_restore_40 : decode cX8_restore 40 = .ok (.ireturn, 1) := by decide +kernel
theorem dX8_meant_0 : decode cX8_meant 0 = .ok (.iload_n 1, 1) := by decide +kernel
theorem dX8_meant_1 : decode cX8_meant 1 = .ok (.invokestatic 197, 3) := by decide +kernel
theorem dX8_meant_4 : decode cX8_meant 4 = .ok (.ifCond .eq 23, 3) := by decide +kernel
theorem dX8_meant_7 : decode cX8_meant 7 = .ok (.iload_n 2, 1) := by decide +kernel
theorem dX8_meant_8 : decode cX8_meant 8 = .ok (.invokestatic 200, 3) := by decide +kernel
theorem dX8_meant_11 : decode cX8_meant 11 = .ok (.ifCond .eq 16, 3) := by decide +kernel
theorem dX8_meant_14 : decode cX8_meant 14 = .ok (.iload 4, 2) := by decide +kernel
theorem dX8_meant_16 : decode cX8_meant 16 = .ok (.iconst 1, 1) := by decide +kernel
theorem dX8_meant_17 : decode cX8_meant 17 = .ok (.if_icmp .lt 10, 3) := by decide +kernel
theorem dX8_meant_20 : decode cX8_meant 20 = .ok (.iload 4, 2) := by decide +kernel
theorem dX8_meant_22 : decode cX8_meant 22 = .ok (.bipush 6, 2) := by decide +kernel
theorem dX8_meant_24 : decode cX8_meant 24 = .ok (.if_icmp .le 5, 3) := by decide +kernel
theorem dX8_meant_27 : decode cX8_meant 27 = .ok (.iconst (-1), 1) := by decide +kernel
theorem dX8_meant_28 : decode cX8_meant 28 = .ok (.ireturn, 1) := by decide +kernel
theorem dX8_meant_29 : decode cX8_meant 29 = .ok (.aload_n 0, 1) := by decide +kernel
theorem dX8_meant_30 : decode cX8_meant 30 = .ok (.getfield 50, 3) := by decide +kernel
theorem dX8_meant_33 : decode cX8_meant 33 = .ok (.iload_n 1, 1) := by decide +kernel
theorem dX8_meant_34 : decode cX8_meant 34 = .ok (.aaload, 1) := by decide +kernel
theorem dX8_meant_35 : decode cX8_meant 35 = .ok (.astore 5, 2) := by decide +kernel
theorem dX8_meant_37 : decode cX8_meant 37 = .ok (.aload 5, 2) := by decide +kernel
theorem dX8_meant_39 : decode cX8_meant 39 = .ok (.iload_n 2, 1) := by decide +kernel
theorem dX8_meant_40 : decode cX8_meant 40 = .ok (.iload_n 3, 1) := by decide +kernel
theorem dX8_meant_41 : decode cX8_meant 41 = .ok (.iload 4, 2) := by decide +kernel
theorem dX8_meant_43 : decode cX8_meant 43 = .ok (.invokevirtual 203, 3) := by decide +kernel
theorem dX8_meant_46 : decode cX8_meant 46 = .ok (.istore 6, 2) := by decide +kernel
theorem dX8_meant_48 : decode cX8_meant 48 = .ok (.iload 6, 2) := by decide +kernel
theorem dX8_meant_50 : decode cX8_meant 50 = .ok (.ifCond .eq 8, 3) := by decide +kernel
theorem dX8_meant_53 : decode cX8_meant 53 = .ok (.iload 6, 2) := by decide +kernel
theorem dX8_meant_55 : decode cX8_meant 55 = .ok (.goto 15, 3) := by decide +kernel
theorem dX8_meant_58 : decode cX8_meant 58 = .ok (.aload_n 0, 1) := by decide +kernel
theorem dX8_meant_59 : decode cX8_meant 59 = .ok (.getfield 44, 3) := by decide +kernel
theorem dX8_meant_62 : decode cX8_meant 62 = .ok (.aload 5, 2) := by decide +kernel
theorem dX8_meant_64 : decode cX8_meant 64 = .ok (.iload_n 3, 1) := by decide +kernel
theorem dX8_meant_65 : decode cX8_meant 65 = .ok (.iload 4, 2) := by decide +kernel
theorem dX8_meant_67 : decode cX8_meant 67 = .ok (.invokevirtual 207, 3) := by decide +kernel
theorem dX8_meant_70 : decode cX8_meant 70 = .ok (.ireturn, 1) := by decide +kernel
theorem dX8_film_0 : decode cX8_film 0 = .ok (.iload_n 1, 1) := by decide +kernel
theorem dX8_film_1 : decode cX8_film 1 = .ok (.invokestatic 197, 3) := by decide +kernel
theorem dX8_film_4 : decode cX8_film 4 = .ok (.ifCond .eq 10, 3) := by decide +kernel
theorem dX8_film_7 : decode cX8_film 7 = .ok (.iload_n 2, 1) := by decide +kernel
theorem dX8_film_8 : decode cX8_film 8 = .ok (.invokestatic 200, 3) := by decide +kernel
theorem dX8_film_11 : decode cX8_film 11 = .ok (.ifCond .ne 5, 3) := by decide +kernel
theorem dX8_film_14 : decode cX8_film 14 = .ok (.iconst (-1), 1) := by decide +kernel
theorem dX8_film_15 : decode cX8_film 15 = .ok (.ireturn, 1) := by decide +kernel
theorem dX8_film_16 : decode cX8_film 16 = .ok (.aload_n 0, 1) := by decide +kernel
theorem dX8_film_17 : decode cX8_film 17 = .ok (.getfield 44, 3) := by decide +kernel
theorem dX8_film_20 : decode cX8_film 20 = .ok (.bipush (-2), 2) := by decide +kernel
theorem dX8_film_22 : decode cX8_film 22 = .ok (.invokevirtual 166, 3) := by decide +kernel
theorem dX8_film_25 : decode cX8_film 25 = .ok (.istore 4, 2) := by decide +kernel
theorem dX8_film_27 : decode cX8_film 27 = .ok (.iload 4, 2) := by decide +kernel
theorem dX8_film_29 : decode cX8_film 29 = .ok (.ifCond .ge 6, 3) := by decide +kernel
theorem dX8_film_32 : decode cX8_film 32 = .ok (.bipush (-4), 2) := by decide +kernel
theorem dX8_film_34 : decode cX8_film 34 = .ok (.ireturn, 1) := by decide +kernel
theorem dX8_film_35 : decode cX8_film 35 = .ok (.aload_n 0, 1) := by decide +kernel
theorem dX8_film_36 : decode cX8_film 36 = .ok (.getfield 50, 3) := by decide +kernel
theorem dX8_film_39 : decode cX8_film 39 = .ok (.iload_n 1, 1) := by decide +kernel
theorem dX8_film_40 : decode cX8_film 40 = .ok (.aaload, 1) := by decide +kernel
theorem dX8_film_41 : decode cX8_film 41 = .ok (.astore 5, 2) := by decide +kernel
theorem dX8_film_43 : decode cX8_film 43 = .ok (.aload 5, 2) := by decide +kernel
theorem dX8_film_45 : decode cX8_film 45 = .ok (.iload_n 2, 1) := by decide +kernel
theorem dX8_film_46 : decode cX8_film 46 = .ok (.iload_n 3, 1) := by decide +kernel
theorem dX8_film_47 : decode cX8_film 47 = .ok (.iload 4, 2) := by decide +kernel
theorem dX8_film_49 : decode cX8_film 49 = .ok (.invokevirtual 203, 3) := by decide +kernel
theorem dX8_film_52 : decode cX8_film 52 = .ok (.istore 6, 2) := by decide +kernel
theorem dX8_film_54 : decode cX8_film 54 = .ok (.iload 6, 2) := by decide +kernel
theorem dX8_film_56 : decode cX8_film 56 = .ok (.ifCond .eq 6, 3) := by decide +kernel
theorem dX8_film_59 : decode cX8_film 59 = .ok (.iload 6, 2) := by decide +kernel
theorem dX8_film_61 : decode cX8_film 61 = .ok (.ireturn, 1) := by decide +kernel
theorem dX8_film_62 : decode cX8_film 62 = .ok (.iconst 0, 1) := by decide +kernel
theorem dX8_film_63 : decode cX8_film 63 = .ok (.istore 7, 2) := by decide +kernel
theorem dX8_film_65 : decode cX8_film 65 = .ok (.iload 7, 2) := by decide +kernel
theorem dX8_film_67 : decode cX8_film 67 = .ok (.iload 4, 2) := by decide +kernel
theorem dX8_film_69 : decode cX8_film 69 = .ok (.if_icmp .ge 28, 3) := by decide +kernel
theorem dX8_film_72 : decode cX8_film 72 = .ok (.aload 5, 2) := by decide +kernel
theorem dX8_film_74 : decode cX8_film 74 = .ok (.iload_n 3, 1) := by decide +kernel
theorem dX8_film_75 : decode cX8_film 75 = .ok (.iload 7, 2) := by decide +kernel
theorem dX8_film_77 : decode cX8_film 77 = .ok (.iadd, 1) := by decide +kernel
theorem dX8_film_78 : decode cX8_film 78 = .ok (.aload_n 0, 1) := by decide +kernel
theorem dX8_film_79 : decode cX8_film 79 = .ok (.getfield 44, 3) := by decide +kernel
theorem dX8_film_82 : decode cX8_film 82 = .ok (.iload 7, 2) := by decide +kernel
theorem dX8_film_84 : decode cX8_film 84 = .ok (.invokevirtual 166, 3) := by decide +kernel
theorem dX8_film_87 : decode cX8_film 87 = .ok (.i2l, 1) := by decide +kernel
theorem dX8_film_88 : decode cX8_film 88 = .ok (.invokevirtual 211, 3) := by decide +kernel
theorem dX8_film_91 : decode cX8_film 91 = .ok (.iinc 7 1, 3) := by decide +kernel
theorem dX8_film_94 : decode cX8_film 94 = .ok (.goto (-29), 3) := by decide +kernel
theorem dX8_film_97 : decode cX8_film 97 = .ok (.iload 4, 2) := by decide +kernel
theorem dX8_film_99 : decode cX8_film 99 = .ok (.ireturn, 1) := by decide +kernel
theorem dX8_sheet_0 : decode cX8_sheet 0 = .ok (.iload_n 1, 1) := by decide +kernel
theorem dX8_sheet_1 : decode cX8_sheet 1 = .ok (.invokestatic 197, 3) := by decide +kernel
theorem dX8_sheet_4 : decode cX8_sheet 4 = .ok (.ifCond .eq 16, 3) := by decide +kernel
theorem dX8_sheet_7 : decode cX8_sheet 7 = .ok (.iload_n 2, 1) := by decide +kernel
theorem dX8_sheet_8 : decode cX8_sheet 8 = .ok (.invokestatic 200, 3) := by decide +kernel
theorem dX8_sheet_11 : decode cX8_sheet 11 = .ok (.ifCond .eq 9, 3) := by decide +kernel
theorem dX8_sheet_14 : decode cX8_sheet 14 = .ok (.iload_n 3, 1) := by decide +kernel
theorem dX8_sheet_15 : decode cX8_sheet 15 = .ok (.bipush 24, 2) := by decide +kernel
theorem dX8_sheet_17 : decode cX8_sheet 17 = .ok (.if_icmp .le 5, 3) := by decide +kernel
theorem dX8_sheet_20 : decode cX8_sheet 20 = .ok (.iconst (-1), 1) := by decide +kernel
theorem dX8_sheet_21 : decode cX8_sheet 21 = .ok (.ireturn, 1) := by decide +kernel
theorem dX8_sheet_22 : decode cX8_sheet 22 = .ok (.iload_n 3, 1) := by decide +kernel
theorem dX8_sheet_23 : decode cX8_sheet 23 = .ok (.ifCond .ge 6, 3) := by decide +kernel
theorem dX8_sheet_26 : decode cX8_sheet 26 = .ok (.bipush (-14), 2) := by decide +kernel
theorem dX8_sheet_28 : decode cX8_sheet 28 = .ok (.ireturn, 1) := by decide +kernel
theorem dX8_sheet_29 : decode cX8_sheet 29 = .ok (.aload_n 0, 1) := by decide +kernel
theorem dX8_sheet_30 : decode cX8_sheet 30 = .ok (.getfield 50, 3) := by decide +kernel
theorem dX8_sheet_33 : decode cX8_sheet 33 = .ok (.iload_n 1, 1) := by decide +kernel
theorem dX8_sheet_34 : decode cX8_sheet 34 = .ok (.aaload, 1) := by decide +kernel
theorem dX8_sheet_35 : decode cX8_sheet 35 = .ok (.iload_n 2, 1) := by decide +kernel
theorem dX8_sheet_36 : decode cX8_sheet 36 = .ok (.iload_n 3, 1) := by decide +kernel
theorem dX8_sheet_37 : decode cX8_sheet 37 = .ok (.invokevirtual 215, 3) := by decide +kernel
theorem dX8_sheet_40 : decode cX8_sheet 40 = .ok (.iload_n 3, 1) := by decide +kernel
theorem dX8_sheet_41 : decode cX8_sheet 41 = .ok (.ireturn, 1) := by decide +kernel
theorem dX8_drop_0 : decode cX8_drop 0 = .ok (.iload_n 1, 1) := by decide +kernel
theorem dX8_drop_1 : decode cX8_drop 1 = .ok (.invokestatic 197, 3) := by decide +kernel
theorem dX8_drop_4 : decode cX8_drop 4 = .ok (.ifCond .ne 5, 3) := by decide +kernel
theorem dX8_drop_7 : decode cX8_drop 7 = .ok (.iconst (-1), 1) := by decide +kernel
theorem dX8_drop_8 : decode cX8_drop 8 = .ok (.ireturn, 1) := by decide +kernel
theorem dX8_drop_9 : decode cX8_drop 9 = .ok (.aload_n 0, 1) := by decide +kernel
theorem dX8_drop_10 : decode cX8_drop 10 = .ok (.getfield 50, 3) := by decide +kernel
theorem dX8_drop_13 : decode cX8_drop 13 = .ok (.iload_n 1, 1) := by decide +kernel
theorem dX8_drop_14 : decode cX8_drop 14 = .ok (.aaload, 1) := by decide +kernel
theorem dX8_drop_15 : decode cX8_drop 15 = .ok (.astore_n 2, 1) := by decide +kernel
theorem dX8_drop_16 : decode cX8_drop 16 = .ok (.aload_n 2, 1) := by decide +kernel
theorem dX8_drop_17 : decode cX8_drop 17 = .ok (.getfield 218, 3) := by decide +kernel
theorem dX8_drop_20 : decode cX8_drop 20 = .ok (.ifCond .ge 6, 3) := by decide +kernel
theorem dX8_drop_23 : decode cX8_drop 23 = .ok (.bipush (-11), 2) := by decide +kernel
theorem dX8_drop_25 : decode cX8_drop 25 = .ok (.ireturn, 1) := by decide +kernel
theorem dX8_drop_26 : decode cX8_drop 26 = .ok (.aload_n 2, 1) := by decide +kernel
theorem dX8_drop_27 : decode cX8_drop 27 = .ok (.getfield 221, 3) := by decide +kernel
theorem dX8_drop_30 : decode cX8_drop 30 = .ok (.istore_n 3, 1) := by decide +kernel
theorem dX8_drop_31 : decode cX8_drop 31 = .ok (.aload_n 2, 1) := by decide +kernel
theorem dX8_drop_32 : decode cX8_drop 32 = .ok (.iconst (-1), 1) := by decide +kernel
theorem dX8_drop_33 : decode cX8_drop 33 = .ok (.iconst 0, 1) := by decide +kernel
theorem dX8_drop_34 : decode cX8_drop 34 = .ok (.invokevirtual 215, 3) := by decide +kernel
theorem dX8_drop_37 : decode cX8_drop 37 = .ok (.iload_n 3, 1) := by decide +kernel
theorem dX8_drop_38 : decode cX8_drop 38 = .ok (.ireturn, 1) := by decide +kernel
theorem dX8_item_0 : decode cX8_item 0 = .ok (.iload_n 1, 1) := by decide +kernel
theorem dX8_item_1 : decode cX8_item 1 = .ok (.invokestatic 197, 3) := by decide +kernel
theorem dX8_item_4 : decode cX8_item 4 = .ok (.ifCond .eq 10, 3) := by decide +kernel
theorem dX8_item_7 : decode cX8_item 7 = .ok (.iload_n 2, 1) := by decide +kernel
theorem dX8_item_8 : decode cX8_item 8 = .ok (.invokestatic 200, 3) := by decide +kernel
theorem dX8_item_11 : decode cX8_item 11 = .ok (.ifCond .ne 5, 3) := by decide +kernel
theorem dX8_item_14 : decode cX8_item 14 = .ok (.iconst (-1), 1) := by decide +kernel
theorem dX8_item_15 : decode cX8_item 15 = .ok (.ireturn, 1) := by decide +kernel
theorem dX8_item_16 : decode cX8_item 16 = .ok (.aload_n 0, 1) := by decide +kernel
theorem dX8_item_17 : decode cX8_item 17 = .ok (.getfield 50, 3) := by decide +kernel
theorem dX8_item_20 : decode cX8_item 20 = .ok (.iload_n 1, 1) := by decide +kernel
theorem dX8_item_21 : decode cX8_item 21 = .ok (.aaload, 1) := by decide +kernel
theorem dX8_item_22 : decode cX8_item 22 = .ok (.astore 6, 2) := by decide +kernel
theorem dX8_item_24 : decode cX8_item 24 = .ok (.aload 6, 2) := by decide +kernel
theorem dX8_item_26 : decode cX8_item 26 = .ok (.iload_n 2, 1) := by decide +kernel
theorem dX8_item_27 : decode cX8_item 27 = .ok (.iload_n 3, 1) := by decide +kernel
theorem dX8_item_28 : decode cX8_item 28 = .ok (.iconst 1, 1) := by decide +kernel
theorem dX8_item_29 : decode cX8_item 29 = .ok (.invokevirtual 203, 3) := by decide +kernel
theorem dX8_item_32 : decode cX8_item 32 = .ok (.istore 7, 2) := by decide +kernel
theorem dX8_item_34 : decode cX8_item 34 = .ok (.iload 7, 2) := by decide +kernel
theorem dX8_item_36 : decode cX8_item 36 = .ok (.ifCond .eq 6, 3) := by decide +kernel
theorem dX8_item_39 : decode cX8_item 39 = .ok (.iload 7, 2) := by decide +kernel
theorem dX8_item_41 : decode cX8_item 41 = .ok (.ireturn, 1) := by decide +kernel
theorem dX8_item_42 : decode cX8_item 42 = .ok (.aload 6, 2) := by decide +kernel
theorem dX8_item_44 : decode cX8_item 44 = .ok (.iload_n 3, 1) := by decide +kernel
theorem dX8_item_45 : decode cX8_item 45 = .ok (.lload 4, 2) := by decide +kernel
theorem dX8_item_47 : decode cX8_item 47 = .ok (.invokevirtual 211, 3) := by decide +kernel
theorem dX8_item_50 : decode cX8_item 50 = .ok (.iconst 1, 1) := by decide +kernel
theorem dX8_item_51 : decode cX8_item 51 = .ok (.ireturn, 1) := by decide +kernel
theorem dX8_copy_0 : decode cX8_copy 0 = .ok (.iload_n 1, 1) := by decide +kernel
theorem dX8_copy_1 : decode cX8_copy 1 = .ok (.invokestatic 197, 3) := by decide +kernel
theorem dX8_copy_4 : decode cX8_copy 4 = .ok (.ifCond .eq 10, 3) := by decide +kernel
theorem dX8_copy_7 : decode cX8_copy 7 = .ok (.iload_n 3, 1) := by decide +kernel
theorem dX8_copy_8 : decode cX8_copy 8 = .ok (.invokestatic 197, 3) := by decide +kernel
theorem dX8_copy_11 : decode cX8_copy 11 = .ok (.ifCond .ne 5, 3) := by decide +kernel
theorem dX8_copy_14 : decode cX8_copy 14 = .ok (.iconst (-1), 1) := by decide +kernel
theorem dX8_copy_15 : decode cX8_copy 15 = .ok (.ireturn, 1) := by decide +kernel
theorem dX8_copy_16 : decode cX8_copy 16 = .ok (.aload_n 0, 1) := by decide +kernel
theorem dX8_copy_17 : decode cX8_copy 17 = .ok (.getfield 50, 3) := by decide +kernel
theorem dX8_copy_20 : decode cX8_copy 20 = .ok (.iload_n 1, 1) := by decide +kernel
theorem dX8_copy_21 : decode cX8_copy 21 = .ok (.aaload, 1) := by decide +kernel
theorem dX8_copy_22 : decode cX8_copy 22 = .ok (.astore 6, 2) := by decide +kernel
theorem dX8_copy_24 : decode cX8_copy 24 = .ok (.aload_n 0, 1) := by decide +kernel
theorem dX8_copy_25 : decode cX8_copy 25 = .ok (.getfield 50, 3) := by decide +kernel
theorem dX8_copy_28 : decode cX8_copy 28 = .ok (.iload_n 3, 1) := by decide +kernel
theorem dX8_copy_29 : decode cX8_copy 29 = .ok (.aaload, 1) := by decide +kernel
theorem dX8_copy_30 : decode cX8_copy 30 = .ok (.astore 7, 2) := by decide +kernel
theorem dX8_copy_32 : decode cX8_copy 32 = .ok (.aload 6, 2) := by decide +kernel
theorem dX8_copy_34 : decode cX8_copy 34 = .ok (.getfield 218, 3) := by decide +kernel
theorem dX8_copy_37 : decode cX8_copy 37 = .ok (.ifCond .lt 11, 3) := by decide +kernel
theorem dX8_copy_40 : decode cX8_copy 40 = .ok (.aload 7, 2) := by decide +kernel
theorem dX8_copy_42 : decode cX8_copy 42 = .ok (.getfield 218, 3) := by decide +kernel
theorem dX8_copy_45 : decode cX8_copy 45 = .ok (.ifCond .ge 6, 3) := by decide +kernel
theorem dX8_copy_48 : decode cX8_copy 48 = .ok (.bipush (-11), 2) := by decide +kernel
theorem dX8_copy_50 : decode cX8_copy 50 = .ok (.ireturn, 1) := by decide +kernel
theorem dX8_copy_51 : decode cX8_copy 51 = .ok (.aload 6, 2) := by decide +kernel
theorem dX8_copy_53 : decode cX8_copy 53 = .ok (.getfield 218, 3) := by decide +kernel
theorem dX8_copy_56 : decode cX8_copy 56 = .ok (.aload 7, 2) := by decide +kernel
theorem dX8_copy_58 : decode cX8_copy 58 = .ok (.getfield 218, 3) := by decide +kernel
theorem dX8_copy_61 : decode cX8_copy 61 = .ok (.if_icmp .eq 6, 3) := by decide +kernel
theorem dX8_copy_64 : decode cX8_copy 64 = .ok (.bipush (-12), 2) := by decide +kernel
theorem dX8_copy_66 : decode cX8_copy 66 = .ok (.ireturn, 1) := by decide +kernel
theorem dX8_copy_67 : decode cX8_copy 67 = .ok (.aload 6, 2) := by decide +kernel
theorem dX8_copy_69 : decode cX8_copy 69 = .ok (.iload_n 2, 1) := by decide +kernel
theorem dX8_copy_70 : decode cX8_copy 70 = .ok (.iload 5, 2) := by decide +kernel
theorem dX8_copy_72 : decode cX8_copy 72 = .ok (.invokevirtual 222, 3) := by decide +kernel
theorem dX8_copy_75 : decode cX8_copy 75 = .ok (.ifCond .ne 15, 3) := by decide +kernel
theorem dX8_copy_78 : decode cX8_copy 78 = .ok (.aload 7, 2) := by decide +kernel
theorem dX8_copy_80 : decode cX8_copy 80 = .ok (.iload 4, 2) := by decide +kernel
theorem dX8_copy_82 : decode cX8_copy 82 = .ok (.iload 5, 2) := by decide +kernel
theorem dX8_copy_84 : decode cX8_copy 84 = .ok (.invokevirtual 222, 3) := by decide +kernel
theorem dX8_copy_87 : decode cX8_copy 87 = .ok (.ifCond .eq 6, 3) := by decide +kernel
theorem dX8_copy_90 : decode cX8_copy 90 = .ok (.bipush (-13), 2) := by decide +kernel
theorem dX8_copy_92 : decode cX8_copy 92 = .ok (.ireturn, 1) := by decide +kernel
theorem dX8_copy_93 : decode cX8_copy 93 = .ok (.aload 6, 2) := by decide +kernel
theorem dX8_copy_95 : decode cX8_copy 95 = .ok (.getfield 225, 3) := by decide +kernel
theorem dX8_copy_98 : decode cX8_copy 98 = .ok (.iload_n 2, 1) := by decide +kernel
theorem dX8_copy_99 : decode cX8_copy 99 = .ok (.aload 7, 2) := by decide +kernel
theorem dX8_copy_101 : decode cX8_copy 101 = .ok (.getfield 225, 3) := by decide +kernel
theorem dX8_copy_104 : decode cX8_copy 104 = .ok (.iload 4, 2) := by decide +kernel
theorem dX8_copy_106 : decode cX8_copy 106 = .ok (.iload 5, 2) := by decide +kernel
theorem dX8_copy_108 : decode cX8_copy 108 = .ok (.invokestatic 229, 3) := by decide +kernel
theorem dX8_copy_111 : decode cX8_copy 111 = .ok (.iload 5, 2) := by decide +kernel
theorem dX8_copy_113 : decode cX8_copy 113 = .ok (.ireturn, 1) := by decide +kernel
theorem dX8_isWord_0 : decode cX8_isWord 0 = .ok (.iload_n 0, 1) := by decide +kernel
theorem dX8_isWord_1 : decode cX8_isWord 1 = .ok (.ifCond .lt 13, 3) := by decide +kernel
theorem dX8_isWord_4 : decode cX8_isWord 4 = .ok (.iload_n 0, 1) := by decide +kernel
theorem dX8_isWord_5 : decode cX8_isWord 5 = .ok (.bipush 32, 2) := by decide +kernel
theorem dX8_isWord_7 : decode cX8_isWord 7 = .ok (.if_icmp .ge 7, 3) := by decide +kernel
theorem dX8_isWord_10 : decode cX8_isWord 10 = .ok (.iconst 1, 1) := by decide +kernel
theorem dX8_isWord_11 : decode cX8_isWord 11 = .ok (.goto 4, 3) := by decide +kernel
theorem dX8_isWord_14 : decode cX8_isWord 14 = .ok (.iconst 0, 1) := by decide +kernel
theorem dX8_isWord_15 : decode cX8_isWord 15 = .ok (.ireturn, 1) := by decide +kernel
theorem dX8_isCost_0 : decode cX8_isCost 0 = .ok (.iload_n 0, 1) := by decide +kernel
theorem dX8_isCost_1 : decode cX8_isCost 1 = .ok (.ifCond .lt 13, 3) := by decide +kernel
theorem dX8_isCost_4 : decode cX8_isCost 4 = .ok (.iload_n 0, 1) := by decide +kernel
theorem dX8_isCost_5 : decode cX8_isCost 5 = .ok (.bipush 10, 2) := by decide +kernel
theorem dX8_isCost_7 : decode cX8_isCost 7 = .ok (.if_icmp .ge 7, 3) := by decide +kernel
theorem dX8_isCost_10 : decode cX8_isCost 10 = .ok (.iconst 1, 1) := by decide +kernel
theorem dX8_isCost_11 : decode cX8_isCost 11 = .ok (.goto 4, 3) := by decide +kernel
theorem dX8_isCost_14 : decode cX8_isCost 14 = .ok (.iconst 0, 1) := by decide +kernel
theorem dX8_isCost_15 : decode cX8_isCost 15 = .ok (.ireturn, 1) := by decide +kernel
theorem dX8_isSheet_0 : decode cX8_isSheet 0 = .ok (.iload_n 0, 1) := by decide +kernel
theorem dX8_isSheet_1 : decode cX8_isSheet 1 = .ok (.ifCond .lt 12, 3) := by decide +kernel
theorem dX8_isSheet_4 : decode cX8_isSheet 4 = .ok (.iload_n 0, 1) := by decide +kernel
theorem dX8_isSheet_5 : decode cX8_isSheet 5 = .ok (.iconst 4, 1) := by decide +kernel
theorem dX8_isSheet_6 : decode cX8_isSheet 6 = .ok (.if_icmp .ge 7, 3) := by decide +kernel
theorem dX8_isSheet_9 : decode cX8_isSheet 9 = .ok (.iconst 1, 1) := by decide +kernel
theorem dX8_isSheet_10 : decode cX8_isSheet 10 = .ok (.goto 4, 3) := by decide +kernel
theorem dX8_isSheet_13 : decode cX8_isSheet 13 = .ok (.iconst 0, 1) := by decide +kernel
theorem dX8_isSheet_14 : decode cX8_isSheet 14 = .ok (.ireturn, 1) := by decide +kernel
theorem dX8_isLane_0 : decode cX8_isLane 0 = .ok (.iload_n 0, 1) := by decide +kernel
theorem dX8_isLane_1 : decode cX8_isLane 1 = .ok (.ifCond .lt 12, 3) := by decide +kernel
theorem dX8_isLane_4 : decode cX8_isLane 4 = .ok (.iload_n 0, 1) := by decide +kernel
theorem dX8_isLane_5 : decode cX8_isLane 5 = .ok (.iconst 4, 1) := by decide +kernel
theorem dX8_isLane_6 : decode cX8_isLane 6 = .ok (.if_icmp .ge 7, 3) := by decide +kernel
theorem dX8_isLane_9 : decode cX8_isLane 9 = .ok (.iconst 1, 1) := by decide +kernel
theorem dX8_isLane_10 : decode cX8_isLane 10 = .ok (.goto 4, 3) := by decide +kernel
theorem dX8_isLane_13 : decode cX8_isLane 13 = .ok (.iconst 0, 1) := by decide +kernel
theorem dX8_isLane_14 : decode cX8_isLane 14 = .ok (.ireturn, 1) := by decide +kernel
theorem dX8_keepForUndo_0 : decode cX8_keepForUndo 0 = .ok (.aload_n 0, 1) := by decide +kernel
theorem dX8_keepForUndo_1 : decode cX8_keepForUndo 1 = .ok (.getfield 22, 3) := by decide +kernel
theorem dX8_keepForUndo_4 : decode cX8_keepForUndo 4 = .ok (.aload_n 0, 1) := by decide +kernel
theorem dX8_keepForUndo_5 : decode cX8_keepForUndo 5 = .ok (.getfield 12, 3) := by decide +kernel
theorem dX8_keepForUndo_8 : decode cX8_keepForUndo 8 = .ok (.invokevirtual 235, 3) := by decide +kernel
theorem dX8_keepForUndo_11 : decode cX8_keepForUndo 11 = .ok (.aload_n 0, 1) := by decide +kernel
theorem dX8_keepForUndo_12 : decode cX8_keepForUndo 12 = .ok (.getfield 44, 3) := by decide +kernel
theorem dX8_keepForUndo_15 : decode cX8_keepForUndo 15 = .ok (.invokevirtual 160, 3) := by decide +kernel
theorem dX8_keepForUndo_18 : decode cX8_keepForUndo 18 = .ok (.return_, 1) := by decide +kernel
theorem dX8_tellAnew_0 : decode cX8_tellAnew 0 = .ok (.aload_n 0, 1) := by decide +kernel
theorem dX8_tellAnew_1 : decode cX8_tellAnew 1 = .ok (.getfield 12, 3) := by decide +kernel
theorem dX8_tellAnew_4 : decode cX8_tellAnew 4 = .ok (.aload_n 0, 1) := by decide +kernel
theorem dX8_tellAnew_5 : decode cX8_tellAnew 5 = .ok (.getfield 16, 3) := by decide +kernel
theorem dX8_tellAnew_8 : decode cX8_tellAnew 8 = .ok (.invokevirtual 238, 3) := by decide +kernel
theorem dX8_tellAnew_11 : decode cX8_tellAnew 11 = .ok (.aload_n 0, 1) := by decide +kernel
theorem dX8_tellAnew_12 : decode cX8_tellAnew 12 = .ok (.getfield 22, 3) := by decide +kernel
theorem dX8_tellAnew_15 : decode cX8_tellAnew 15 = .ok (.iconst 0, 1) := by decide +kernel
theorem dX8_tellAnew_16 : decode cX8_tellAnew 16 = .ok (.putfield 119, 3) := by decide +kernel
theorem dX8_tellAnew_19 : decode cX8_tellAnew 19 = .ok (.aload_n 0, 1) := by decide +kernel
theorem dX8_tellAnew_20 : decode cX8_tellAnew 20 = .ok (.getfield 44, 3) := by decide +kernel
theorem dX8_tellAnew_23 : decode cX8_tellAnew 23 = .ok (.invokevirtual 160, 3) := by decide +kernel
theorem dX8_tellAnew_26 : decode cX8_tellAnew 26 = .ok (.aload_n 0, 1) := by decide +kernel
theorem dX8_tellAnew_27 : decode cX8_tellAnew 27 = .ok (.getfield 12, 3) := by decide +kernel
theorem dX8_tellAnew_30 : decode cX8_tellAnew 30 = .ok (.getfield 89, 3) := by decide +kernel
theorem dX8_tellAnew_33 : decode cX8_tellAnew 33 = .ok (.ireturn, 1) := by decide +kernel
theorem dJ13_bitCount_95d88_0 : decode cJ13_bitCount_95d88 0 = .ok (.lload_n 0, 1) := by decide +kernel
theorem dJ13_bitCount_95d88_1 : decode cJ13_bitCount_95d88 1 = .ok (.lload_n 0, 1) := by decide +kernel
theorem dJ13_bitCount_95d88_2 : decode cJ13_bitCount_95d88 2 = .ok (.iconst 1, 1) := by decide +kernel
theorem dJ13_bitCount_95d88_3 : decode cJ13_bitCount_95d88 3 = .ok (.lushr, 1) := by decide +kernel
theorem dJ13_bitCount_95d88_4 : decode cJ13_bitCount_95d88 4 = .ok (.ldc2_w 314, 3) := by decide +kernel
theorem dJ13_bitCount_95d88_7 : decode cJ13_bitCount_95d88 7 = .ok (.land, 1) := by decide +kernel
theorem dJ13_bitCount_95d88_8 : decode cJ13_bitCount_95d88 8 = .ok (.lsub, 1) := by decide +kernel
theorem dJ13_bitCount_95d88_9 : decode cJ13_bitCount_95d88 9 = .ok (.lstore_n 0, 1) := by decide +kernel
theorem dJ13_bitCount_95d88_10 : decode cJ13_bitCount_95d88 10 = .ok (.lload_n 0, 1) := by decide +kernel
theorem dJ13_bitCount_95d88_11 : decode cJ13_bitCount_95d88 11 = .ok (.ldc2_w 316, 3) := by decide +kernel
theorem dJ13_bitCount_95d88_14 : decode cJ13_bitCount_95d88 14 = .ok (.land, 1) := by decide +kernel
theorem dJ13_bitCount_95d88_15 : decode cJ13_bitCount_95d88 15 = .ok (.lload_n 0, 1) := by decide +kernel
theorem dJ13_bitCount_95d88_16 : decode cJ13_bitCount_95d88 16 = .ok (.iconst 2, 1) := by decide +kernel
theorem dJ13_bitCount_95d88_17 : decode cJ13_bitCount_95d88 17 = .ok (.lushr, 1) := by decide +kernel
theorem dJ13_bitCount_95d88_18 : decode cJ13_bitCount_95d88 18 = .ok (.ldc2_w 316, 3) := by decide +kernel
theorem dJ13_bitCount_95d88_21 : decode cJ13_bitCount_95d88 21 = .ok (.land, 1) := by decide +kernel
theorem dJ13_bitCount_95d88_22 : decode cJ13_bitCount_95d88 22 = .ok (.ladd, 1) := by decide +kernel
theorem dJ13_bitCount_95d88_23 : decode cJ13_bitCount_95d88 23 = .ok (.lstore_n 0, 1) := by decide +kernel
theorem dJ13_bitCount_95d88_24 : decode cJ13_bitCount_95d88 24 = .ok (.lload_n 0, 1) := by decide +kernel
theorem dJ13_bitCount_95d88_25 : decode cJ13_bitCount_95d88 25 = .ok (.lload_n 0, 1) := by decide +kernel
theorem dJ13_bitCount_95d88_26 : decode cJ13_bitCount_95d88 26 = .ok (.iconst 4, 1) := by decide +kernel
theorem dJ13_bitCount_95d88_27 : decode cJ13_bitCount_95d88 27 = .ok (.lushr, 1) := by decide +kernel
theorem dJ13_bitCount_95d88_28 : decode cJ13_bitCount_95d88 28 = .ok (.ladd, 1) := by decide +kernel
theorem dJ13_bitCount_95d88_29 : decode cJ13_bitCount_95d88 29 = .ok (.ldc2_w 318, 3) := by decide +kernel
theorem dJ13_bitCount_95d88_32 : decode cJ13_bitCount_95d88 32 = .ok (.land, 1) := by decide +kernel
theorem dJ13_bitCount_95d88_33 : decode cJ13_bitCount_95d88 33 = .ok (.lstore_n 0, 1) := by decide +kernel
theorem dJ13_bitCount_95d88_34 : decode cJ13_bitCount_95d88 34 = .ok (.lload_n 0, 1) := by decide +kernel
theorem dJ13_bitCount_95d88_35 : decode cJ13_bitCount_95d88 35 = .ok (.lload_n 0, 1) := by decide +kernel
theorem dJ13_bitCount_95d88_36 : decode cJ13_bitCount_95d88 36 = .ok (.bipush 8, 2) := by decide +kernel
theorem dJ13_bitCount_95d88_38 : decode cJ13_bitCount_95d88 38 = .ok (.lushr, 1) := by decide +kernel
theorem dJ13_bitCount_95d88_39 : decode cJ13_bitCount_95d88 39 = .ok (.ladd, 1) := by decide +kernel
theorem dJ13_bitCount_95d88_40 : decode cJ13_bitCount_95d88 40 = .ok (.lstore_n 0, 1) := by decide +kernel
theorem dJ13_bitCount_95d88_41 : decode cJ13_bitCount_95d88 41 = .ok (.lload_n 0, 1) := by decide +kernel
theorem dJ13_bitCount_95d88_42 : decode cJ13_bitCount_95d88 42 = .ok (.lload_n 0, 1) := by decide +kernel
theorem dJ13_bitCount_95d88_43 : decode cJ13_bitCount_95d88 43 = .ok (.bipush 16, 2) := by decide +kernel
theorem dJ13_bitCount_95d88_45 : decode cJ13_bitCount_95d88 45 = .ok (.lushr, 1) := by decide +kernel
theorem dJ13_bitCount_95d88_46 : decode cJ13_bitCount_95d88 46 = .ok (.ladd, 1) := by decide +kernel
theorem dJ13_bitCount_95d88_47 : decode cJ13_bitCount_95d88 47 = .ok (.lstore_n 0, 1) := by decide +kernel
theorem dJ13_bitCount_95d88_48 : decode cJ13_bitCount_95d88 48 = .ok (.lload_n 0, 1) := by decide +kernel
theorem dJ13_bitCount_95d88_49 : decode cJ13_bitCount_95d88 49 = .ok (.lload_n 0, 1) := by decide +kernel
theorem dJ13_bitCount_95d88_50 : decode cJ13_bitCount_95d88 50 = .ok (.bipush 32, 2) := by decide +kernel
theorem dJ13_bitCount_95d88_52 : decode cJ13_bitCount_95d88 52 = .ok (.lushr, 1) := by decide +kernel
theorem dJ13_bitCount_95d88_53 : decode cJ13_bitCount_95d88 53 = .ok (.ladd, 1) := by decide +kernel
theorem dJ13_bitCount_95d88_54 : decode cJ13_bitCount_95d88 54 = .ok (.lstore_n 0, 1) := by decide +kernel
theorem dJ13_bitCount_95d88_55 : decode cJ13_bitCount_95d88 55 = .ok (.lload_n 0, 1) := by decide +kernel
theorem dJ13_bitCount_95d88_56 : decode cJ13_bitCount_95d88 56 = .ok (.l2i, 1) := by decide +kernel
theorem dJ13_bitCount_95d88_57 : decode cJ13_bitCount_95d88 57 = .ok (.bipush 127, 2) := by decide +kernel
theorem dJ13_bitCount_95d88_59 : decode cJ13_bitCount_95d88 59 = .ok (.iand, 1) := by decide +kernel
theorem dJ13_bitCount_95d88_60 : decode cJ13_bitCount_95d88 60 = .ok (.ireturn, 1) := by decide +kernel
theorem dJ9_max_7cf53_0 : decode cJ9_max_7cf53 0 = .ok (.iload_n 0, 1) := by decide +kernel
theorem dJ9_max_7cf53_1 : decode cJ9_max_7cf53 1 = .ok (.iload_n 1, 1) := by decide +kernel
theorem dJ9_max_7cf53_2 : decode cJ9_max_7cf53 2 = .ok (.if_icmp .lt 7, 3) := by decide +kernel
theorem dJ9_max_7cf53_5 : decode cJ9_max_7cf53 5 = .ok (.iload_n 0, 1) := by decide +kernel
theorem dJ9_max_7cf53_6 : decode cJ9_max_7cf53 6 = .ok (.goto 4, 3) := by decide +kernel
theorem dJ9_max_7cf53_9 : decode cJ9_max_7cf53 9 = .ok (.iload_n 1, 1) := by decide +kernel
theorem dJ9_max_7cf53_10 : decode cJ9_max_7cf53 10 = .ok (.ireturn, 1) := by decide +kernel
end
section
theorem dX9_in_0 : decode cX9_in 0 = .ok (.lload_n 0, 1) := by decide +kernel
theorem dX9_in_1 : decode cX9_in 1 = .ok (.lload_n 2, 1) := by decide +kernel
theorem dX9_in_2 : decode cX9_in 2 = .ok (.lcmp, 1) := by decide +kernel
theorem dX9_in_3 : decode cX9_in 3 = .ok (.ifCond .lt 14, 3) := by decide +kernel
theorem dX9_in_6 : decode cX9_in 6 = .ok (.lload_n 0, 1) := by decide +kernel
theorem dX9_in_7 : decode cX9_in 7 = .ok (.lload 4, 2) := by decide +kernel
theorem dX9_in_9 : decode cX9_in 9 = .ok (.lcmp, 1) := by decide +kernel
theorem dX9_in_10 : decode cX9_in 10 = .ok (.ifCond .gt 7, 3) := by decide +kernel
theorem dX9_in_13 : decode cX9_in 13 = .ok (.iconst 1, 1) := by decide +kernel
theorem dX9_in_14 : decode cX9_in 14 = .ok (.goto 4, 3) := by decide +kernel
theorem dX9_in_17 : decode cX9_in 17 = .ok (.iconst 0, 1) := by decide +kernel
theorem dX9_in_18 : decode cX9_in 18 = .ok (.ireturn, 1) := by decide +kernel
theorem dX9_init_0 : decode cX9_init 0 = .ok (.aload_n 0, 1) := by decide +kernel
theorem dX9_init_1 : decode cX9_init 1 = .ok (.invokespecial 1, 3) := by decide +kernel
theorem dX9_init_4 : decode cX9_init 4 = .ok (.aload_n 0, 1) := by decide +kernel
theorem dX9_init_5 : decode cX9_init 5 = .ok (.bipush 76, 2) := by decide +kernel
theorem dX9_init_7 : decode cX9_init 7 = .ok (.newarray .int, 2) := by decide +kernel
theorem dX9_init_9 : decode cX9_init 9 = .ok (.putfield 7, 3) := by decide +kernel
theorem dX9_init_12 : decode cX9_init 12 = .ok (.aload_n 0, 1) := by decide +kernel
theorem dX9_init_13 : decode cX9_init 13 = .ok (.bipush 8, 2) := by decide +kernel
theorem dX9_init_15 : decode cX9_init 15 = .ok (.newarray .int, 2) := by decide +kernel
theorem dX9_init_17 : decode cX9_init 17 = .ok (.putfield 13, 3) := by decide +kernel
theorem dX9_init_20 : decode cX9_init 20 = .ok (.aload_n 0, 1) := by decide +kernel
theorem dX9_init_21 : decode cX9_init 21 = .ok (.bipush 9, 2) := by decide +kernel
theorem dX9_init_23 : decode cX9_init 23 = .ok (.newarray .int, 2) := by decide +kernel
theorem dX9_init_25 : decode cX9_init 25 = .ok (.putfield 16, 3) := by decide +kernel
theorem dX9_init_28 : decode cX9_init 28 = .ok (.aload_n 0, 1) := by decide +kernel
theorem dX9_init_29 : decode cX9_init 29 = .ok (.bipush 8, 2) := by decide +kernel
theorem dX9_init_31 : decode cX9_init 31 = .ok (.newarray .int, 2) := by decide +kernel
theorem dX9_init_33 : decode cX9_init 33 = .ok (.putfield 19, 3) := by decide +kernel
theorem dX9_init_36 : decode cX9_init 36 = .ok (.aload_n 0, 1) := by decide +kernel
theorem dX9_init_37 : decode cX9_init 37 = .ok (.bipush 8, 2) := by decide +kernel
theorem dX9_init_39 : decode cX9_init 39 = .ok (.newarray .int, 2) := by decide +kernel
theorem dX9_init_41 : decode cX9_init 41 = .ok (.putfield 22, 3) := by decide +kernel
theorem dX9_init_44 : decode cX9_init 44 = .ok (.aload_n 0, 1) := by decide +kernel
theorem dX9_init_45 : decode cX9_init 45 = .ok (.sipush 256, 3) := by decide +kernel
theorem dX9_init_48 : decode cX9_init 48 = .ok (.newarray .int, 2) := by decide +kernel
theorem dX9_init_50 : decode cX9_init 50 = .ok (.putfield 25, 3) := by decide +kernel
theorem dX9_init_53 : decode cX9_init 53 = .ok (.aload_n 0, 1) := by decide +kernel
theorem dX9_init_54 : decode cX9_init 54 = .ok (.bipush 60, 2) := by decide +kernel
theorem dX9_init_56 : decode cX9_init 56 = .ok (.newarray .int, 2) := by decide +kernel
theorem dX9_init_58 : decode cX9_init 58 = .ok (.putfield 28, 3) := by decide +kernel
theorem dX9_init_61 : decode cX9_init 61 = .ok (.aload_n 0, 1) := by decide +kernel
theorem dX9_init_62 : decode cX9_init 62 = .ok (.sipush 128, 3) := by decide +kernel
theorem dX9_init_65 : decode cX9_init 65 = .ok (.newarray .long, 2) := by decide +kernel
theorem dX9_init_67 : decode cX9_init 67 = .ok (.putfield 31, 3) := by decide +kernel
theorem dX9_init_70 : decode cX9_init 70 = .ok (.aload_n 0, 1) := by decide +kernel
theorem dX9_init_71 : decode cX9_init 71 = .ok (.sipush 128, 3) := by decide +kernel
theorem dX9_init_74 : decode cX9_init 74 = .ok (.newarray .int, 2) := by decide +kernel
theorem dX9_init_76 : decode cX9_init 76 = .ok (.putfield 35, 3) := by decide +kernel
theorem dX9_init_79 : decode cX9_init 79 = .ok (.aload_n 0, 1) := by decide +kernel
theorem dX9_init_80 : decode cX9_init 80 = .ok (.bipush 8, 2) := by decide +kernel
theorem dX9_init_82 : decode cX9_init 82 = .ok (.newarray .int, 2) := by decide +kernel
theorem dX9_init_84 : decode cX9_init 84 = .ok (.putfield 38, 3) := by decide +kernel
theorem dX9_init_87 : decode cX9_init 87 = .ok (.aload_n 0, 1) := by decide +kernel
theorem dX9_init_88 : decode cX9_init 88 = .ok (.bipush 120, 2) := by decide +kernel
theorem dX9_init_90 : decode cX9_init 90 = .ok (.newarray .int, 2) := by decide +kernel
theorem dX9_init_92 : decode cX9_init 92 = .ok (.putfield 41, 3) := by decide +kernel
theorem dX9_init_95 : decode cX9_init 95 = .ok (.aload_n 0, 1) := by decide +kernel
theorem dX9_init_96 : decode cX9_init 96 = .ok (.bipush 72, 2) := by decide +kernel
theorem dX9_init_98 : decode cX9_init 98 = .ok (.newarray .int, 2) := by decide +kernel
theorem dX9_init_100 : decode cX9_init 100 = .ok (.putfield 44, 3) := by decide +kernel
theorem dX9_init_103 : decode cX9_init 103 = .ok (.aload_n 0, 1) := by decide +kernel
theorem dX9_init_104 : decode cX9_init 104 = .ok (.bipush 10, 2) := by decide +kernel
theorem dX9_init_106 : decode cX9_init 106 = .ok (.newarray .int, 2) := by decide +kernel
theorem dX9_init_108 : decode cX9_init 108 = .ok (.putfield 47, 3) := by decide +kernel
theorem dX9_init_111 : decode cX9_init 111 = .ok (.aload_n 0, 1) := by decide +kernel
theorem dX9_init_112 : decode cX9_init 112 = .ok (.sipush 608, 3) := by decide +kernel
theorem dX9_init_115 : decode cX9_init 115 = .ok (.newarray .int, 2) := by decide +kernel
theorem dX9_init_117 : decode cX9_init 117 = .ok (.putfield 50, 3) := by decide +kernel
theorem dX9_init_120 : decode cX9_init 120 = .ok (.aload_n 0, 1) := by decide +kernel
theorem dX9_init_121 : decode cX9_init 121 = .ok (.bipush 76, 2) := by decide +kernel
theorem dX9_init_123 : decode cX9_init 123 = .ok (.newarray .int, 2) := by decide +kernel
theorem dX9_init_125 : decode cX9_init 125 = .ok (.putfield 53, 3) := by decide +kernel
theorem dX9_init_128 : decode cX9_init 128 = .ok (.aload_n 0, 1) := by decide +kernel
theorem dX9_init_129 : decode cX9_init 129 = .ok (.sipush 608, 3) := by decide +kernel
theorem dX9_init_132 : decode cX9_init 132 = .ok (.newarray .int, 2) := by decide +kernel
theorem dX9_init_134 : decode cX9_init 134 = .ok (.putfield 56, 3) := by decide +kernel
theorem dX9_init_137 : decode cX9_init 137 = .ok (.aload_n 0, 1) := by decide +kernel
theorem dX9_init_138 : decode cX9_init 138 = .ok (.iconst (-1), 1) := by decide +kernel
theorem dX9_init_139 : decode cX9_init 139 = .ok (.putfield 59, 3) := by decide +kernel
theorem dX9_init_142 : decode cX9_init 142 = .ok (.aload_n 0, 1) := by decide +kernel
theorem dX9_init_143 : decode cX9_init 143 = .ok (.iconst 4, 1) := by decide +kernel
theorem dX9_init_144 : decode cX9_init 144 = .ok (.newarray .int, 2) := by decide +kernel
theorem dX9_init_146 : decode cX9_init 146 = .ok (.putfield 63, 3) := by decide +kernel
theorem dX9_init_149 : decode cX9_init 149 = .ok (.aload_n 0, 1) := by decide +kernel
theorem dX9_init_150 : decode cX9_init 150 = .ok (.iconst 4, 1) := by decide +kernel
theorem dX9_init_151 : decode cX9_init 151 = .ok (.newarray .int, 2) := by decide +kernel
theorem dX9_init_153 : decode cX9_init 153 = .ok (.putfield 66, 3) := by decide +kernel
theorem dX9_init_156 : decode cX9_init 156 = .ok (.aload_n 0, 1) := by decide +kernel
theorem dX9_init_157 : decode cX9_init 157 = .ok (.bipush 96, 2) := by decide +kernel
theorem dX9_init_159 : decode cX9_init 159 = .ok (.newarray .long, 2) := by decide +kernel
theorem dX9_init_161 : decode cX9_init 161 = .ok (.putfield 69, 3) := by decide +kernel
theorem dX9_init_164 : decode cX9_init 164 = .ok (.aload_n 0, 1) := by decide +kernel
theorem dX9_init_165 : decode cX9_init 165 = .ok (.bipush 24, 2) := by decide +kernel
theorem dX9_init_167 : decode cX9_init 167 = .ok (.newarray .long, 2) := by decide +kernel
theorem dX9_init_169 : decode cX9_init 169 = .ok (.putfield 72, 3) := by decide +kernel
theorem dX9_init_172 : decode cX9_init 172 = .ok (.aload_n 0, 1) := by decide +kernel
theorem dX9_init_173 : decode cX9_init 173 = .ok (.getfield 7, 3) := by decide +kernel
theorem dX9_init_176 : decode cX9_init 176 = .ok (.iconst 3, 1) := by decide +kernel
theorem dX9_init_177 : decode cX9_init 177 = .ok (.iconst 1, 1) := by decide +kernel
theorem dX9_init_178 : decode cX9_init 178 = .ok (.iastore, 1) := by decide +kernel
theorem dX9_init_179 : decode cX9_init 179 = .ok (.iconst 0, 1) := by decide +kernel
theorem dX9_init_180 : decode cX9_init 180 = .ok (.istore_n 1, 1) := by decide +kernel
theorem dX9_init_181 : decode cX9_init 181 = .ok (.iload_n 1, 1) := by decide +kernel
theorem dX9_init_182 : decode cX9_init 182 = .ok (.iconst 4, 1) := by decide +kernel
theorem dX9_init_183 : decode cX9_init 183 = .ok (.if_icmp .ge 16, 3) := by decide +kernel
theorem dX9_init_186 : decode cX9_init 186 = .ok (.aload_n 0, 1) := by decide +kernel
theorem dX9_init_187 : decode cX9_init 187 = .ok (.getfield 63, 3) := by decide +kernel
theorem dX9_init_190 : decode cX9_init 190 = .ok (.iload_n 1, 1) := by decide +kernel
theorem dX9_init_191 : decode cX9_init 191 = .ok (.iconst (-1), 1) := by decide +kernel
theorem dX9_init_192 : decode cX9_init 192 = .ok (.iastore, 1) := by decide +kernel
theorem dX9_init_193 : decode cX9_init 193 = .ok (.iinc 1 1, 3) := by decide +kernel
theorem dX9_init_196 : decode cX9_init 196 = .ok (.goto (-15), 3) := by decide +kernel
theorem dX9_init_199 : decode cX9_init 199 = .ok (.return_, 1) := by decide +kernel
theorem dX9_isSlot_0 : decode cX9_isSlot 0 = .ok (.iload_n 1, 1) := by decide +kernel
theorem dX9_isSlot_1 : decode cX9_isSlot 1 = .ok (.i2l, 1) := by decide +kernel
theorem dX9_isSlot_2 : decode cX9_isSlot 2 = .ok (.lconst 0, 1) := by decide +kernel
theorem dX9_isSlot_3 : decode cX9_isSlot 3 = .ok (.aload_n 0, 1) := by decide +kernel
theorem dX9_isSlot_4 : decode cX9_isSlot 4 = .ok (.getfield 7, 3) := by decide +kernel
theorem dX9_isSlot_7 : decode cX9_isSlot 7 = .ok (.iconst 0, 1) := by decide +kernel
theorem dX9_isSlot_8 : decode cX9_isSlot 8 = .ok (.iaload, 1) := by decide +kernel
theorem dX9_isSlot_9 : decode cX9_isSlot 9 = .ok (.iconst 1, 1) := by decide +kernel
theorem dX9_isSlot_10 : decode cX9_isSlot 10 = .ok (.isub, 1) := by decide +kernel
theorem dX9_isSlot_11 : decode cX9_isSlot 11 = .ok (.i2l, 1) := by decide +kernel
theorem dX9_isSlot_12 : decode cX9_isSlot 12 = .ok (.invokestatic 75, 3) := by decide +kernel
theorem dX9_isSlot_15 : decode cX9_isSlot 15 = .ok (.ireturn, 1) := by decide +kernel
theorem dX9_at_0 : decode cX9_at 0 = .ok (.iconst 4, 1) := by decide +kernel
theorem dX9_at_1 : decode cX9_at 1 = .ok (.bipush 9, 2) := by decide +kernel
theorem dX9_at_3 : decode cX9_at 3 = .ok (.iload_n 1, 1) := by decide +kernel
theorem dX9_at_4 : decode cX9_at 4 = .ok (.imul, 1) := by decide +kernel
theorem dX9_at_5 : decode cX9_at 5 = .ok (.iadd, 1) := by decide +kernel
theorem dX9_at_6 : decode cX9_at 6 = .ok (.ireturn, 1) := by decide +kernel
theorem dX9_placeOf_0 : decode cX9_placeOf 0 = .ok (.bipush (-4), 2) := by decide +kernel
theorem dX9_placeOf_2 : decode cX9_placeOf 2 = .ok (.istore_n 3, 1) := by decide +kernel
theorem dX9_placeOf_3 : decode cX9_placeOf 3 = .ok (.iconst 0, 1) := by decide +kernel
theorem dX9_placeOf_4 : decode cX9_placeOf 4 = .ok (.istore 4, 2) := by decide +kernel
theorem dX9_placeOf_6 : decode cX9_placeOf 6 = .ok (.iload 4, 2) := by decide +kernel
theorem dX9_placeOf_8 : decode cX9_placeOf 8 = .ok (.aload_n 0, 1) := by decide +kernel
theorem dX9_placeOf_9 : decode cX9_placeOf 9 = .ok (.getfield 7, 3) := by decide +kernel
theorem dX9_placeOf_12 : decode cX9_placeOf 12 = .ok (.aload_n 0, 1) := by decide +kernel
theorem dX9_placeOf_13 : decode cX9_placeOf 13 = .ok (.iload_n 1, 1) := by decide +kernel
theorem dX9_placeOf_14 : decode cX9_placeOf 14 = .ok (.invokevirtual 79, 3) := by decide +kernel
theorem dX9_placeOf_17 : decode cX9_placeOf 17 = .ok (.iaload, 1) := by decide +kernel
theorem dX9_placeOf_18 : decode cX9_placeOf 18 = .ok (.if_icmp .ge 35, 3) := by decide +kernel
theorem dX9_placeOf_21 : decode cX9_placeOf 21 = .ok (.aload_n 0, 1) := by decide +kernel
theorem dX9_placeOf_22 : decode cX9_placeOf 22 = .ok (.getfield 7, 3) := by decide +kernel
theorem dX9_placeOf_25 : decode cX9_placeOf 25 = .ok (.aload_n 0, 1) := by decide +kernel
theorem dX9_placeOf_26 : decode cX9_placeOf 26 = .ok (.iload_n 1, 1) := by decide +kernel
theorem dX9_placeOf_27 : decode cX9_placeOf 27 = .ok (.invokevirtual 79, 3) := by decide +kernel
theorem dX9_placeOf_30 : decode cX9_placeOf 30 = .ok (.iconst 1, 1) := by decide +kernel
theorem dX9_placeOf_31 : decode cX9_placeOf 31 = .ok (.iadd, 1) := by decide +kernel
theorem dX9_placeOf_32 : decode cX9_placeOf 32 = .ok (.iload 4, 2) := by decide +kernel
theorem dX9_placeOf_34 : decode cX9_placeOf 34 = .ok (.iadd, 1) := by decide +kernel
theorem dX9_placeOf_35 : decode cX9_placeOf 35 = .ok (.iaload, 1) := by decide +kernel
theorem dX9_placeOf_36 : decode cX9_placeOf 36 = .ok (.iload_n 2, 1) := by decide +kernel
theorem dX9_placeOf_37 : decode cX9_placeOf 37 = .ok (.if_icmp .ne 8, 3) := by decide +kernel
theorem dX9_placeOf_40 : decode cX9_placeOf 40 = .ok (.iload 4, 2) := by decide +kernel
theorem dX9_placeOf_42 : decode cX9_placeOf 42 = .ok (.goto 4, 3) := by decide +kernel
theorem dX9_placeOf_45 : decode cX9_placeOf 45 = .ok (.iload_n 3, 1) := by decide +kernel
theorem dX9_placeOf_46 : decode cX9_placeOf 46 = .ok (.istore_n 3, 1) := by decide +kernel
theorem dX9_placeOf_47 : decode cX9_placeOf 47 = .ok (.iinc 4 1, 3) := by decide +kernel
theorem dX9_placeOf_50 : decode cX9_placeOf 50 = .ok (.goto (-44), 3) := by decide +kernel
theorem dX9_placeOf_53 : decode cX9_placeOf 53 = .ok (.iload_n 3, 1) := by decide +kernel
theorem dX9_placeOf_54 : decode cX9_placeOf 54 = .ok (.ireturn, 1) := by decide +kernel
theorem dX9_wordHere_0 : decode cX9_wordHere 0 = .ok (.aload_n 0, 1) := by decide +kernel
theorem dX9_wordHere_1 : decode cX9_wordHere 1 = .ok (.getfield 83, 3) := by decide +kernel
theorem dX9_wordHere_4 : decode cX9_wordHere 4 = .ok (.aload_n 0, 1) := by decide +kernel
theorem dX9_wordHere_5 : decode cX9_wordHere 5 = .ok (.getfield 86, 3) := by decide +kernel
theorem dX9_wordHere_8 : decode cX9_wordHere 8 = .ok (.if_icmp .ge 15, 3) := by decide +kernel
theorem dX9_wordHere_11 : decode cX9_wordHere 11 = .ok (.aload_n 0, 1) := by decide +kernel
theorem dX9_wordHere_12 : decode cX9_wordHere 12 = .ok (.getfield 16, 3) := by decide +kernel
theorem dX9_wordHere_15 : decode cX9_wordHere 15 = .ok (.aload_n 0, 1) := by decide +kernel
theorem dX9_wordHere_16 : decode cX9_wordHere 16 = .ok (.getfield 83, 3) := by decide +kernel
theorem dX9_wordHere_19 : decode cX9_wordHere 19 = .ok (.iaload, 1) := by decide +kernel
theorem dX9_wordHere_20 : decode cX9_wordHere 20 = .ok (.goto 5, 3) := by decide +kernel
theorem dX9_wordHere_23 : decode cX9_wordHere 23 = .ok (.bipush (-4), 2) := by decide +kernel
theorem dX9_wordHere_25 : decode cX9_wordHere 25 = .ok (.ireturn, 1) := by decide +kernel
theorem dX9_worth_0 : decode cX9_worth 0 = .ok (.iload_n 0, 1) := by decide +kernel
theorem dX9_worth_1 : decode cX9_worth 1 = .ok (.i2l, 1) := by decide +kernel
theorem dX9_worth_2 : decode cX9_worth 2 = .ok (.lconst 1, 1) := by decide +kernel
theorem dX9_worth_3 : decode cX9_worth 3 = .ok (.ldc2_w 89, 3) := by decide +kernel
theorem dX9_worth_6 : decode cX9_worth 6 = .ok (.invokestatic 75, 3) := by decide +kernel
theorem dX9_worth_9 : decode cX9_worth 9 = .ok (.ifCond .eq 7, 3) := by decide +kernel
theorem dX9_worth_12 : decode cX9_worth 12 = .ok (.iload_n 0, 1) := by decide +kernel
theorem dX9_worth_13 : decode cX9_worth 13 = .ok (.goto 29, 3) := by decide +kernel
theorem dX9_worth_16 : decode cX9_worth 16 = .ok (.iload_n 0, 1) := by decide +kernel
theorem dX9_worth_17 : decode cX9_worth 17 = .ok (.i2l, 1) := by decide +kernel
theorem dX9_worth_18 : decode cX9_worth 18 = .ok (.ldc2_w 91, 3) := by decide +kernel
theorem dX9_worth_21 : decode cX9_worth 21 = .ok (.ldc2_w 93, 3) := by decide +kernel
theorem dX9_worth_24 : decode cX9_worth 24 = .ok (.invokestatic 75, 3) := by decide +kernel
theorem dX9_worth_27 : decode cX9_worth 27 = .ok (.ifCond .eq 14, 3) := by decide +kernel
theorem dX9_worth_30 : decode cX9_worth 30 = .ok (.bipush 10, 2) := by decide +kernel
theorem dX9_worth_32 : decode cX9_worth 32 = .ok (.iload_n 0, 1) := by decide +kernel
theorem dX9_worth_33 : decode cX9_worth 33 = .ok (.imul, 1) := by decide +kernel
theorem dX9_worth_34 : decode cX9_worth 34 = .ok (.sipush 180, 3) := by decide +kernel
theorem dX9_worth_37 : decode cX9_worth 37 = .ok (.isub, 1) := by decide +kernel
theorem dX9_worth_38 : decode cX9_worth 38 = .ok (.goto 4, 3) := by decide +kernel
theorem dX9_worth_41 : decode cX9_worth 41 = .ok (.iconst 0, 1) := by decide +kernel
theorem dX9_worth_42 : decode cX9_worth 42 = .ok (.ireturn, 1) := by decide +kernel
theorem dX9_low_0 : decode cX9_low 0 = .ok (.aload_n 0, 1) := by decide +kernel
theorem dX9_low_1 : decode cX9_low 1 = .ok (.invokevirtual 95, 3) := by decide +kernel
theorem dX9_low_4 : decode cX9_low 4 = .ok (.istore_n 1, 1) := by decide +kernel
theorem dX9_low_5 : decode cX9_low 5 = .ok (.iload_n 1, 1) := by decide +kernel
theorem dX9_low_6 : decode cX9_low 6 = .ok (.invokestatic 99, 3) := by decide +kernel
theorem dX9_low_9 : decode cX9_low 9 = .ok (.istore_n 2, 1) := by decide +kernel
theorem dX9_low_10 : decode cX9_low 10 = .ok (.iload_n 2, 1) := by decide +kernel
theorem dX9_low_11 : decode cX9_low 11 = .ok (.ifCond .ne 5, 3) := by decide +kernel
theorem dX9_low_14 : decode cX9_low 14 = .ok (.iconst 0, 1) := by decide +kernel
theorem dX9_low_15 : decode cX9_low 15 = .ok (.ireturn, 1) := by decide +kernel
theorem dX9_low_16 : decode cX9_low 16 = .ok (.aload_n 0, 1) := by decide +kernel
theorem dX9_low_17 : decode cX9_low 17 = .ok (.dup, 1) := by decide +kernel
theorem dX9_low_18 : decode cX9_low 18 = .ok (.getfield 83, 3) := by decide +kernel
theorem dX9_low_21 : decode cX9_low 21 = .ok (.iconst 1, 1) := by decide +kernel
theorem dX9_low_22 : decode cX9_low 22 = .ok (.iadd, 1) := by decide +kernel
theorem dX9_low_23 : decode cX9_low 23 = .ok (.putfield 83, 3) := by decide +kernel
theorem dX9_low_26 : decode cX9_low 26 = .ok (.iload_n 1, 1) := by decide +kernel
theorem dX9_low_27 : decode cX9_low 27 = .ok (.bipush 19, 2) := by decide +kernel
theorem dX9_low_29 : decode cX9_low 29 = .ok (.if_icmp .le 35, 3) := by decide +kernel
theorem dX9_low_32 : decode cX9_low 32 = .ok (.aload_n 0, 1) := by decide +kernel
theorem dX9_low_33 : decode cX9_low 33 = .ok (.invokevirtual 95, 3) := by decide +kernel
theorem dX9_low_36 : decode cX9_low 36 = .ok (.i2l, 1) := by decide +kernel
theorem dX9_low_37 : decode cX9_low 37 = .ok (.lconst 1, 1) := by decide +kernel
theorem dX9_low_38 : decode cX9_low 38 = .ok (.ldc2_w 102, 3) := by decide +kernel
theorem dX9_low_41 : decode cX9_low 41 = .ok (.invokestatic 75, 3) := by decide +kernel
theorem dX9_low_44 : decode cX9_low 44 = .ok (.ifCond .eq 20, 3) := by decide +kernel
theorem dX9_low_47 : decode cX9_low 47 = .ok (.iload_n 2, 1) := by decide +kernel
theorem dX9_low_48 : decode cX9_low 48 = .ok (.aload_n 0, 1) := by decide +kernel
theorem dX9_low_49 : decode cX9_low 49 = .ok (.invokevirtual 95, 3) := by decide +kernel
theorem dX9_low_52 : decode cX9_low 52 = .ok (.iadd, 1) := by decide +kernel
theorem dX9_low_53 : decode cX9_low 53 = .ok (.istore_n 2, 1) := by decide +kernel
theorem dX9_low_54 : decode cX9_low 54 = .ok (.aload_n 0, 1) := by decide +kernel
theorem dX9_low_55 : decode cX9_low 55 = .ok (.dup, 1) := by decide +kernel
theorem dX9_low_56 : decode cX9_low 56 = .ok (.getfield 83, 3) := by decide +kernel
theorem dX9_low_59 : decode cX9_low 59 = .ok (.iconst 1, 1) := by decide +kernel
theorem dX9_low_60 : decode cX9_low 60 = .ok (.iadd, 1) := by decide +kernel
theorem dX9_low_61 : decode cX9_low 61 = .ok (.putfield 83, 3) := by decide +kernel
theorem dX9_low_64 : decode cX9_low 64 = .ok (.iload_n 2, 1) := by decide +kernel
theorem dX9_low_65 : decode cX9_low 65 = .ok (.ireturn, 1) := by decide +kernel
theorem dX9_more_0 : decode cX9_more 0 = .ok (.aload_n 0, 1) := by decide +kernel
theorem dX9_more_1 : decode cX9_more 1 = .ok (.invokevirtual 95, 3) := by decide +kernel
theorem dX9_more_4 : decode cX9_more 4 = .ok (.bipush 30, 2) := by decide +kernel
theorem dX9_more_6 : decode cX9_more 6 = .ok (.if_icmp .ne 7, 3) := by decide +kernel
theorem dX9_more_9 : decode cX9_more 9 = .ok (.iconst 1, 1) := by decide +kernel
theorem dX9_more_10 : decode cX9_more 10 = .ok (.goto 4, 3) := by decide +kernel
theorem dX9_more_13 : decode cX9_more 13 = .ok (.iconst 0, 1) := by decide +kernel
theorem dX9_more_14 : decode cX9_more 14 = .ok (.istore_n 1, 1) := by decide +kernel
theorem dX9_more_15 : decode cX9_more 15 = .ok (.aload_n 0, 1) := by decide +kernel
theorem dX9_more_16 : decode cX9_more 16 = .ok (.dup, 1) := by decide +kernel
theorem dX9_more_17 : decode cX9_more 17 = .ok (.getfield 83, 3) := by decide +kernel
theorem dX9_more_20 : decode cX9_more 20 = .ok (.iload_n 1, 1) := by decide +kernel
theorem dX9_more_21 : decode cX9_more 21 = .ok (.ifCond .eq 7, 3) := by decide +kernel
theorem dX9_more_24 : decode cX9_more 24 = .ok (.iconst 1, 1) := by decide +kernel
theorem dX9_more_25 : decode cX9_more 25 = .ok (.goto 4, 3) := by decide +kernel
theorem dX9_more_28 : decode cX9_more 28 = .ok (.iconst 0, 1) := by decide +kernel
theorem dX9_more_29 : decode cX9_more 29 = .ok (.iadd, 1) := by decide +kernel
theorem dX9_more_30 : decode cX9_more 30 = .ok (.putfield 83, 3) := by decide +kernel
theorem dX9_more_33 : decode cX9_more 33 = .ok (.aload_n 0, 1) := by decide +kernel
theorem dX9_more_34 : decode cX9_more 34 = .ok (.invokevirtual 104, 3) := by decide +kernel
theorem dX9_more_37 : decode cX9_more 37 = .ok (.istore_n 2, 1) := by decide +kernel
theorem dX9_more_38 : decode cX9_more 38 = .ok (.iload_n 1, 1) := by decide +kernel
theorem dX9_more_39 : decode cX9_more 39 = .ok (.ifCond .eq 12, 3) := by decide +kernel
theorem dX9_more_42 : decode cX9_more 42 = .ok (.iload_n 2, 1) := by decide +kernel
theorem dX9_more_43 : decode cX9_more 43 = .ok (.ifCond .ne 8, 3) := by decide +kernel
theorem dX9_more_46 : decode cX9_more 46 = .ok (.bipush (-4), 2) := by decide +kernel
theorem dX9_more_48 : decode cX9_more 48 = .ok (.goto 4, 3) := by decide +kernel
theorem dX9_more_51 : decode cX9_more 51 = .ok (.iload_n 2, 1) := by decide +kernel
theorem dX9_more_52 : decode cX9_more 52 = .ok (.ireturn, 1) := by decide +kernel
theorem dX9_small_0 : decode cX9_small 0 = .ok (.aload_n 0, 1) := by decide +kernel
theorem dX9_small_1 : decode cX9_small 1 = .ok (.invokevirtual 95, 3) := by decide +kernel
theorem dX9_small_4 : decode cX9_small 4 = .ok (.i2l, 1) := by decide +kernel
theorem dX9_small_5 : decode cX9_small 5 = .ok (.lconst 1, 1) := by decide +kernel
theorem dX9_small_6 : decode cX9_small 6 = .ok (.ldc2_w 102, 3) := by decide +kernel
theorem dX9_small_9 : decode cX9_small 9 = .ok (.invokestatic 75, 3) := by decide +kernel
theorem dX9_small_12 : decode cX9_small 12 = .ok (.ifCond .eq 36, 3) := by decide +kernel
theorem dX9_small_15 : decode cX9_small 15 = .ok (.aload_n 0, 1) := by decide +kernel
theorem dX9_small_16 : decode cX9_small 16 = .ok (.getfield 83, 3) := by decide +kernel
theorem dX9_small_19 : decode cX9_small 19 = .ok (.iconst 1, 1) := by decide +kernel
theorem dX9_small_20 : decode cX9_small 20 = .ok (.iadd, 1) := by decide +kernel
theorem dX9_small_21 : decode cX9_small 21 = .ok (.aload_n 0, 1) := by decide +kernel
theorem dX9_small_22 : decode cX9_small 22 = .ok (.getfield 86, 3) := by decide +kernel
theorem dX9_small_25 : decode cX9_small 25 = .ok (.if_icmp .ge 23, 3) := by decide +kernel
theorem dX9_small_28 : decode cX9_small 28 = .ok (.aload_n 0, 1) := by decide +kernel
theorem dX9_small_29 : decode cX9_small 29 = .ok (.getfield 16, 3) := by decide +kernel
theorem dX9_small_32 : decode cX9_small 32 = .ok (.aload_n 0, 1) := by decide +kernel
theorem dX9_small_33 : decode cX9_small 33 = .ok (.getfield 83, 3) := by decide +kernel
theorem dX9_small_36 : decode cX9_small 36 = .ok (.iconst 1, 1) := by decide +kernel
theorem dX9_small_37 : decode cX9_small 37 = .ok (.iadd, 1) := by decide +kernel
theorem dX9_small_38 : decode cX9_small 38 = .ok (.iaload, 1) := by decide +kernel
theorem dX9_small_39 : decode cX9_small 39 = .ok (.bipush 28, 2) := by decide +kernel
theorem dX9_small_41 : decode cX9_small 41 = .ok (.if_icmp .ne 7, 3) := by decide +kernel
theorem dX9_small_44 : decode cX9_small 44 = .ok (.iconst 1, 1) := by decide +kernel
theorem dX9_small_45 : decode cX9_small 45 = .ok (.goto 4, 3) := by decide +kernel
theorem dX9_small_48 : decode cX9_small 48 = .ok (.iconst 0, 1) := by decide +kernel
theorem dX9_small_49 : decode cX9_small 49 = .ok (.istore_n 1, 1) := by decide +kernel
theorem dX9_small_50 : decode cX9_small 50 = .ok (.iload_n 1, 1) := by decide +kernel
theorem dX9_small_51 : decode cX9_small 51 = .ok (.ifCond .ne 8, 3) := by decide +kernel
theorem dX9_small_54 : decode cX9_small 54 = .ok (.aload_n 0, 1) := by decide +kernel
theorem dX9_small_55 : decode cX9_small 55 = .ok (.invokevirtual 104, 3) := by decide +kernel
theorem dX9_small_58 : decode cX9_small 58 = .ok (.ireturn, 1) := by decide +kernel
theorem dX9_small_59 : decode cX9_small 59 = .ok (.bipush 100, 2) := by decide +kernel
theorem dX9_small_61 : decode cX9_small 61 = .ok (.aload_n 0, 1) := by decide +kernel
theorem dX9_small_62 : decode cX9_small 62 = .ok (.invokevirtual 95, 3) := by decide +kernel
theorem dX9_small_65 : decode cX9_small 65 = .ok (.imul, 1) := by decide +kernel
theorem dX9_small_66 : decode cX9_small 66 = .ok (.istore_n 2, 1) := by decide +kernel
theorem dX9_small_67 : decode cX9_small 67 = .ok (.aload_n 0, 1) := by decide +kernel
theorem dX9_small_68 : decode cX9_small 68 = .ok (.dup, 1) := by decide +kernel
theorem dX9_small_69 : decode cX9_small 69 = .ok (.getfield 83, 3) := by decide +kernel
theorem dX9_small_72 : decode cX9_small 72 = .ok (.iconst 2, 1) := by decide +kernel
theorem dX9_small_73 : decode cX9_small 73 = .ok (.iadd, 1) := by decide +kernel
theorem dX9_small_74 : decode cX9_small 74 = .ok (.putfield 83, 3) := by decide +kernel
theorem dX9_small_77 : decode cX9_small 77 = .ok (.aload_n 0, 1) := by decide +kernel
theorem dX9_small_78 : decode cX9_small 78 = .ok (.invokevirtual 107, 3) := by decide +kernel
theorem dX9_small_81 : decode cX9_small 81 = .ok (.istore_n 3, 1) := by decide +kernel
theorem dX9_small_82 : decode cX9_small 82 = .ok (.iload_n 3, 1) := by decide +kernel
theorem dX9_small_83 : decode cX9_small 83 = .ok (.ifCond .ge 8, 3) := by decide +kernel
theorem dX9_small_86 : decode cX9_small 86 = .ok (.bipush (-4), 2) := by decide +kernel
theorem dX9_small_88 : decode cX9_small 88 = .ok (.goto 6, 3) := by decide +kernel
theorem dX9_small_91 : decode cX9_small 91 = .ok (.iload_n 2, 1) := by decide +kernel
theorem dX9_small_92 : decode cX9_small 92 = .ok (.iload_n 3, 1) := by decide +kernel
theorem dX9_small_93 : decode cX9_small 93 = .ok (.iadd, 1) := by decide +kernel
theorem dX9_small_94 : decode cX9_small 94 = .ok (.ireturn, 1) := by decide +kernel
theorem dX9_number_0 : decode cX9_number 0 = .ok (.aload_n 0, 1) := by decide +kernel
theorem dX9_number_1 : decode cX9_number 1 = .ok (.invokevirtual 110, 3) := by decide +kernel
theorem dX9_number_4 : decode cX9_number 4 = .ok (.istore_n 1, 1) := by decide +kernel
theorem dX9_number_5 : decode cX9_number 5 = .ok (.iload_n 1, 1) := by decide +kernel
theorem dX9_number_6 : decode cX9_number 6 = .ok (.ifCond .le 12, 3) := by decide +kernel
theorem dX9_number_9 : decode cX9_number 9 = .ok (.aload_n 0, 1) := by decide +kernel
theorem dX9_number_10 : decode cX9_number 10 = .ok (.invokevirtual 95, 3) := by decide +kernel
theorem dX9_number_13 : decode cX9_number 13 = .ok (.bipush 29, 2) := by decide +kernel
theorem dX9_number_15 : decode cX9_number 15 = .ok (.if_icmp .eq 5, 3) := by decide +kernel
theorem dX9_number_18 : decode cX9_number 18 = .ok (.iload_n 1, 1) := by decide +kernel
theorem dX9_number_19 : decode cX9_number 19 = .ok (.ireturn, 1) := by decide +kernel
theorem dX9_number_20 : decode cX9_number 20 = .ok (.aload_n 0, 1) := by decide +kernel
theorem dX9_number_21 : decode cX9_number 21 = .ok (.dup, 1) := by decide +kernel
theorem dX9_number_22 : decode cX9_number 22 = .ok (.getfield 83, 3) := by decide +kernel
theorem dX9_number_25 : decode cX9_number 25 = .ok (.iconst 1, 1) := by decide +kernel
theorem dX9_number_26 : decode cX9_number 26 = .ok (.iadd, 1) := by decide +kernel
theorem dX9_number_27 : decode cX9_number 27 = .ok (.putfield 83, 3) := by decide +kernel
theorem dX9_number_30 : decode cX9_number 30 = .ok (.aload_n 0, 1) := by decide +kernel
theorem dX9_number_31 : decode cX9_number 31 = .ok (.invokevirtual 95, 3) := by decide +kernel
theorem dX9_number_34 : decode cX9_number 34 = .ok (.bipush 30, 2) := by decide +kernel
theorem dX9_number_36 : decode cX9_number 36 = .ok (.if_icmp .ne 10, 3) := by decide +kernel
theorem dX9_number_39 : decode cX9_number 39 = .ok (.aload_n 0, 1) := by decide +kernel
theorem dX9_number_40 : decode cX9_number 40 = .ok (.invokevirtual 107, 3) := by decide +kernel
theorem dX9_number_43 : decode cX9_number 43 = .ok (.goto 7, 3) := by decide +kernel
theorem dX9_number_46 : decode cX9_number 46 = .ok (.aload_n 0, 1) := by decide +kernel
theorem dX9_number_47 : decode cX9_number 47 = .ok (.invokevirtual 110, 3) := by decide +kernel
theorem dX9_number_50 : decode cX9_number 50 = .ok (.istore_n 2, 1) := by decide +kernel
theorem dX9_number_51 : decode cX9_number 51 = .ok (.iload_n 2, 1) := by decide +kernel
theorem dX9_number_52 : decode cX9_number 52 = .ok (.ifCond .ge 8, 3) := by decide +kernel
theorem dX9_number_55 : decode cX9_number 55 = .ok (.bipush (-4), 2) := by decide +kernel
theorem dX9_number_57 : decode cX9_number 57 = .ok (.goto 10, 3) := by decide +kernel
theorem dX9_number_60 : decode cX9_number 60 = .ok (.sipush 1000, 3) := by decide +kernel
theorem dX9_number_63 : decode cX9_number 63 = .ok (.iload_n 1, 1) := by decide +kernel
theorem dX9_number_64 : decode cX9_number 64 = .ok (.imul, 1) := by decide +kernel
theorem dX9_number_65 : decode cX9_number 65 = .ok (.iload_n 2, 1) := by decide +kernel
theorem dX9_number_66 : decode cX9_number 66 = .ok (.iadd, 1) := by decide +kernel
theorem dX9_number_67 : decode cX9_number 67 = .ok (.ireturn, 1) := by decide +kernel
theorem dX9_isSaid_0 : decode cX9_isSaid 0 = .ok (.aload_n 0, 1) := by decide +kernel
theorem dX9_isSaid_1 : decode cX9_isSaid 1 = .ok (.iconst 0, 1) := by decide +kernel
theorem dX9_isSaid_2 : decode cX9_isSaid 2 = .ok (.putfield 83, 3) := by decide +kernel
theorem dX9_isSaid_5 : decode cX9_isSaid 5 = .ok (.aload_n 0, 1) := by decide +kernel
theorem dX9_isSaid_6 : decode cX9_isSaid 6 = .ok (.iconst 0, 1) := by decide +kernel
theorem dX9_isSaid_7 : decode cX9_isSaid 7 = .ok (.putfield 113, 3) := by decide +kernel
theorem dX9_isSaid_10 : decode cX9_isSaid 10 = .ok (.iconst 1, 1) := by decide +kernel
theorem dX9_isSaid_11 : decode cX9_isSaid 11 = .ok (.istore_n 1, 1) := by decide +kernel
theorem dX9_isSaid_12 : decode cX9_isSaid 12 = .ok (.iconst 1, 1) := by decide +kernel
theorem dX9_isSaid_13 : decode cX9_isSaid 13 = .ok (.istore_n 2, 1) := by decide +kernel
theorem dX9_isSaid_14 : decode cX9_isSaid 14 = .ok (.iload_n 1, 1) := by decide +kernel
theorem dX9_isSaid_15 : decode cX9_isSaid 15 = .ok (.ifCond .eq 93, 3) := by decide +kernel
theorem dX9_isSaid_18 : decode cX9_isSaid 18 = .ok (.iload_n 2, 1) := by decide +kernel
theorem dX9_isSaid_19 : decode cX9_isSaid 19 = .ok (.ifCond .eq 89, 3) := by decide +kernel
theorem dX9_isSaid_22 : decode cX9_isSaid 22 = .ok (.aload_n 0, 1) := by decide +kernel
theorem dX9_isSaid_23 : decode cX9_isSaid 23 = .ok (.invokevirtual 116, 3) := by decide +kernel
theorem dX9_isSaid_26 : decode cX9_isSaid 26 = .ok (.istore_n 3, 1) := by decide +kernel
theorem dX9_isSaid_27 : decode cX9_isSaid 27 = .ok (.aload_n 0, 1) := by decide +kernel
theorem dX9_isSaid_28 : decode cX9_isSaid 28 = .ok (.invokevirtual 95, 3) := by decide +kernel
theorem dX9_isSaid_31 : decode cX9_isSaid 31 = .ok (.bipush 31, 2) := by decide +kernel
theorem dX9_isSaid_33 : decode cX9_isSaid 33 = .ok (.if_icmp .ne 7, 3) := by decide +kernel
theorem dX9_isSaid_36 : decode cX9_isSaid 36 = .ok (.iconst 1, 1) := by decide +kernel
theorem dX9_isSaid_37 : decode cX9_isSaid 37 = .ok (.goto 4, 3) := by decide +kernel
theorem dX9_isSaid_40 : decode cX9_isSaid 40 = .ok (.iconst 0, 1) := by decide +kernel
theorem dX9_isSaid_41 : decode cX9_isSaid 41 = .ok (.istore_n 2, 1) := by decide +kernel
theorem dX9_isSaid_42 : decode cX9_isSaid 42 = .ok (.iload_n 3, 1) := by decide +kernel
theorem dX9_isSaid_43 : decode cX9_isSaid 43 = .ok (.ifCond .le 22, 3) := by decide +kernel
theorem dX9_isSaid_46 : decode cX9_isSaid 46 = .ok (.iload_n 2, 1) := by decide +kernel
theorem dX9_isSaid_47 : decode cX9_isSaid 47 = .ok (.ifCond .ne 14, 3) := by decide +kernel
theorem dX9_isSaid_50 : decode cX9_isSaid 50 = .ok (.aload_n 0, 1) := by decide +kernel
theorem dX9_isSaid_51 : decode cX9_isSaid 51 = .ok (.getfield 83, 3) := by decide +kernel
theorem dX9_isSaid_54 : decode cX9_isSaid 54 = .ok (.aload_n 0, 1) := by decide +kernel
theorem dX9_isSaid_55 : decode cX9_isSaid 55 = .ok (.getfield 86, 3) := by decide +kernel
theorem dX9_isSaid_58 : decode cX9_isSaid 58 = .ok (.if_icmp .ne 7, 3) := by decide +kernel
theorem dX9_isSaid_61 : decode cX9_isSaid 61 = .ok (.iconst 1, 1) := by decide +kernel
theorem dX9_isSaid_62 : decode cX9_isSaid 62 = .ok (.goto 4, 3) := by decide +kernel
theorem dX9_isSaid_65 : decode cX9_isSaid 65 = .ok (.iconst 0, 1) := by decide +kernel
theorem dX9_isSaid_66 : decode cX9_isSaid 66 = .ok (.istore_n 1, 1) := by decide +kernel
theorem dX9_isSaid_67 : decode cX9_isSaid 67 = .ok (.aload_n 0, 1) := by decide +kernel
theorem dX9_isSaid_68 : decode cX9_isSaid 68 = .ok (.getfield 19, 3) := by decide +kernel
theorem dX9_isSaid_71 : decode cX9_isSaid 71 = .ok (.aload_n 0, 1) := by decide +kernel
theorem dX9_isSaid_72 : decode cX9_isSaid 72 = .ok (.getfield 113, 3) := by decide +kernel
theorem dX9_isSaid_75 : decode cX9_isSaid 75 = .ok (.iload_n 3, 1) := by decide +kernel
theorem dX9_isSaid_76 : decode cX9_isSaid 76 = .ok (.iastore, 1) := by decide +kernel
theorem dX9_isSaid_77 : decode cX9_isSaid 77 = .ok (.aload_n 0, 1) := by decide +kernel
theorem dX9_isSaid_78 : decode cX9_isSaid 78 = .ok (.dup, 1) := by decide +kernel
theorem dX9_isSaid_79 : decode cX9_isSaid 79 = .ok (.getfield 113, 3) := by decide +kernel
theorem dX9_isSaid_82 : decode cX9_isSaid 82 = .ok (.iconst 1, 1) := by decide +kernel
theorem dX9_isSaid_83 : decode cX9_isSaid 83 = .ok (.iadd, 1) := by decide +kernel
theorem dX9_isSaid_84 : decode cX9_isSaid 84 = .ok (.putfield 113, 3) := by decide +kernel
theorem dX9_isSaid_87 : decode cX9_isSaid 87 = .ok (.aload_n 0, 1) := by decide +kernel
theorem dX9_isSaid_88 : decode cX9_isSaid 88 = .ok (.dup, 1) := by decide +kernel
theorem dX9_isSaid_89 : decode cX9_isSaid 89 = .ok (.getfield 83, 3) := by decide +kernel
theorem dX9_isSaid_92 : decode cX9_isSaid 92 = .ok (.iload_n 2, 1) := by decide +kernel
theorem dX9_isSaid_93 : decode cX9_isSaid 93 = .ok (.ifCond .eq 7, 3) := by decide +kernel
theorem dX9_isSaid_96 : decode cX9_isSaid 96 = .ok (.iconst 1, 1) := by decide +kernel
theorem dX9_isSaid_97 : decode cX9_isSaid 97 = .ok (.goto 4, 3) := by decide +kernel
theorem dX9_isSaid_100 : decode cX9_isSaid 100 = .ok (.iconst 0, 1) := by decide +kernel
theorem dX9_isSaid_101 : decode cX9_isSaid 101 = .ok (.iadd, 1) := by decide +kernel
theorem dX9_isSaid_102 : decode cX9_isSaid 102 = .ok (.putfield 83, 3) := by decide +kernel
theorem dX9_isSaid_105 : decode cX9_isSaid 105 = .ok (.goto (-91), 3) := by decide +kernel
theorem dX9_isSaid_108 : decode cX9_isSaid 108 = .ok (.iload_n 1, 1) := by decide +kernel
theorem dX9_isSaid_109 : decode cX9_isSaid 109 = .ok (.ireturn, 1) := by decide +kernel
theorem dX9_holds_0 : decode cX9_holds 0 = .ok (.aload_n 0, 1) := by decide +kernel
theorem dX9_holds_1 : decode cX9_holds 1 = .ok (.getfield 19, 3) := by decide +kernel
theorem dX9_holds_4 : decode cX9_holds 4 = .ok (.aload_n 0, 1) := by decide +kernel
theorem dX9_holds_5 : decode cX9_holds 5 = .ok (.getfield 113, 3) := by decide +kernel
theorem dX9_holds_8 : decode cX9_holds 8 = .ok (.iconst 1, 1) := by decide +kernel
theorem dX9_holds_9 : decode cX9_holds 9 = .ok (.isub, 1) := by decide +kernel
theorem dX9_holds_10 : decode cX9_holds 10 = .ok (.iaload, 1) := by decide +kernel
theorem dX9_holds_11 : decode cX9_holds 11 = .ok (.istore_n 1, 1) := by decide +kernel
theorem dX9_holds_12 : decode cX9_holds 12 = .ok (.iconst 0, 1) := by decide +kernel
theorem dX9_holds_13 : decode cX9_holds 13 = .ok (.istore_n 2, 1) := by decide +kernel
theorem dX9_holds_14 : decode cX9_holds 14 = .ok (.iconst 1, 1) := by decide +kernel
theorem dX9_holds_15 : decode cX9_holds 15 = .ok (.istore_n 3, 1) := by decide +kernel
theorem dX9_holds_16 : decode cX9_holds 16 = .ok (.iconst 1, 1) := by decide +kernel
theorem dX9_holds_17 : decode cX9_holds 17 = .ok (.istore 4, 2) := by decide +kernel
theorem dX9_holds_19 : decode cX9_holds 19 = .ok (.iconst 0, 1) := by decide +kernel
theorem dX9_holds_20 : decode cX9_holds 20 = .ok (.istore 5, 2) := by decide +kernel
theorem dX9_holds_22 : decode cX9_holds 22 = .ok (.iload 5, 2) := by decide +kernel
theorem dX9_holds_24 : decode cX9_holds 24 = .ok (.iconst 1, 1) := by decide +kernel
theorem dX9_holds_25 : decode cX9_holds 25 = .ok (.iadd, 1) := by decide +kernel
theorem dX9_holds_26 : decode cX9_holds 26 = .ok (.aload_n 0, 1) := by decide +kernel
theorem dX9_holds_27 : decode cX9_holds 27 = .ok (.getfield 113, 3) := by decide +kernel
theorem dX9_holds_30 : decode cX9_holds 30 = .ok (.if_icmp .ge 93, 3) := by decide +kernel
theorem dX9_holds_33 : decode cX9_holds 33 = .ok (.iload_n 2, 1) := by decide +kernel
theorem dX9_holds_34 : decode cX9_holds 34 = .ok (.aload_n 0, 1) := by decide +kernel
theorem dX9_holds_35 : decode cX9_holds 35 = .ok (.getfield 19, 3) := by decide +kernel
theorem dX9_holds_38 : decode cX9_holds 38 = .ok (.iload 5, 2) := by decide +kernel
theorem dX9_holds_40 : decode cX9_holds 40 = .ok (.iaload, 1) := by decide +kernel
theorem dX9_holds_41 : decode cX9_holds 41 = .ok (.iadd, 1) := by decide +kernel
theorem dX9_holds_42 : decode cX9_holds 42 = .ok (.istore_n 2, 1) := by decide +kernel
theorem dX9_holds_43 : decode cX9_holds 43 = .ok (.iload_n 3, 1) := by decide +kernel
theorem dX9_holds_44 : decode cX9_holds 44 = .ok (.ifCond .eq 26, 3) := by decide +kernel
theorem dX9_holds_47 : decode cX9_holds 47 = .ok (.aload_n 0, 1) := by decide +kernel
theorem dX9_holds_48 : decode cX9_holds 48 = .ok (.getfield 19, 3) := by decide +kernel
theorem dX9_holds_51 : decode cX9_holds 51 = .ok (.iload 5, 2) := by decide +kernel
theorem dX9_holds_53 : decode cX9_holds 53 = .ok (.iconst 1, 1) := by decide +kernel
theorem dX9_holds_54 : decode cX9_holds 54 = .ok (.iadd, 1) := by decide +kernel
theorem dX9_holds_55 : decode cX9_holds 55 = .ok (.iaload, 1) := by decide +kernel
theorem dX9_holds_56 : decode cX9_holds 56 = .ok (.aload_n 0, 1) := by decide +kernel
theorem dX9_holds_57 : decode cX9_holds 57 = .ok (.getfield 19, 3) := by decide +kernel
theorem dX9_holds_60 : decode cX9_holds 60 = .ok (.iload 5, 2) := by decide +kernel
theorem dX9_holds_62 : decode cX9_holds 62 = .ok (.iaload, 1) := by decide +kernel
theorem dX9_holds_63 : decode cX9_holds 63 = .ok (.if_icmp .le 7, 3) := by decide +kernel
theorem dX9_holds_66 : decode cX9_holds 66 = .ok (.iconst 1, 1) := by decide +kernel
theorem dX9_holds_67 : decode cX9_holds 67 = .ok (.goto 4, 3) := by decide +kernel
theorem dX9_holds_70 : decode cX9_holds 70 = .ok (.iconst 0, 1) := by decide +kernel
theorem dX9_holds_71 : decode cX9_holds 71 = .ok (.istore_n 3, 1) := by decide +kernel
theorem dX9_holds_72 : decode cX9_holds 72 = .ok (.iload 4, 2) := by decide +kernel
theorem dX9_holds_74 : decode cX9_holds 74 = .ok (.ifCond .eq 40, 3) := by decide +kernel
theorem dX9_holds_77 : decode cX9_holds 77 = .ok (.aload_n 0, 1) := by decide +kernel
theorem dX9_holds_78 : decode cX9_holds 78 = .ok (.getfield 19, 3) := by decide +kernel
theorem dX9_holds_81 : decode cX9_holds 81 = .ok (.iload 5, 2) := by decide +kernel
theorem dX9_holds_83 : decode cX9_holds 83 = .ok (.iconst 1, 1) := by decide +kernel
theorem dX9_holds_84 : decode cX9_holds 84 = .ok (.iadd, 1) := by decide +kernel
theorem dX9_holds_85 : decode cX9_holds 85 = .ok (.iaload, 1) := by decide +kernel
theorem dX9_holds_86 : decode cX9_holds 86 = .ok (.aload_n 0, 1) := by decide +kernel
theorem dX9_holds_87 : decode cX9_holds 87 = .ok (.getfield 19, 3) := by decide +kernel
theorem dX9_holds_90 : decode cX9_holds 90 = .ok (.iload 5, 2) := by decide +kernel
theorem dX9_holds_92 : decode cX9_holds 92 = .ok (.iaload, 1) := by decide +kernel
theorem dX9_holds_93 : decode cX9_holds 93 = .ok (.isub, 1) := by decide +kernel
theorem dX9_holds_94 : decode cX9_holds 94 = .ok (.aload_n 0, 1) := by decide +kernel
theorem dX9_holds_95 : decode cX9_holds 95 = .ok (.getfield 19, 3) := by decide +kernel
theorem dX9_holds_98 : decode cX9_holds 98 = .ok (.iconst 1, 1) := by decide +kernel
theorem dX9_holds_99 : decode cX9_holds 99 = .ok (.iaload, 1) := by decide +kernel
theorem dX9_holds_100 : decode cX9_holds 100 = .ok (.aload_n 0, 1) := by decide +kernel
theorem dX9_holds_101 : decode cX9_holds 101 = .ok (.getfield 19, 3) := by decide +kernel
theorem dX9_holds_104 : decode cX9_holds 104 = .ok (.iconst 0, 1) := by decide +kernel
theorem dX9_holds_105 : decode cX9_holds 105 = .ok (.iaload, 1) := by decide +kernel
theorem dX9_holds_106 : decode cX9_holds 106 = .ok (.isub, 1) := by decide +kernel
theorem dX9_holds_107 : decode cX9_holds 107 = .ok (.if_icmp .ne 7, 3) := by decide +kernel
theorem dX9_holds_110 : decode cX9_holds 110 = .ok (.iconst 1, 1) := by decide +kernel
theorem dX9_holds_111 : decode cX9_holds 111 = .ok (.goto 4, 3) := by decide +kernel
theorem dX9_holds_114 : decode cX9_holds 114 = .ok (.iconst 0, 1) := by decide +kernel
theorem dX9_holds_115 : decode cX9_holds 115 = .ok (.istore 4, 2) := by decide +kernel
theorem dX9_holds_117 : decode cX9_holds 117 = .ok (.iinc 5 1, 3) := by decide +kernel
theorem dX9_holds_120 : decode cX9_holds 120 = .ok (.goto (-98), 3) := by decide +kernel
theorem dX9_holds_123 : decode cX9_holds 123 = .ok (.aload_n 0, 1) := by decide +kernel
theorem dX9_holds_124 : decode cX9_holds 124 = .ok (.getfield 7, 3) := by decide +kernel
theorem dX9_holds_127 : decode cX9_holds 127 = .ok (.iconst 1, 1) := by decide +kernel
theorem dX9_holds_128 : decode cX9_holds 128 = .ok (.iaload, 1) := by decide +kernel
theorem dX9_holds_129 : decode cX9_holds 129 = .ok (.tableswitch 92 1 4 #[31, 50, 52, 77], 31) := by decide +kernel
theorem dX9_holds_160 : decode cX9_holds 160 = .ok (.aload_n 0, 1) := by decide +kernel
theorem dX9_holds_161 : decode cX9_holds 161 = .ok (.getfield 113, 3) := by decide +kernel
theorem dX9_holds_164 : decode cX9_holds 164 = .ok (.iconst 1, 1) := by decide +kernel
theorem dX9_holds_165 : decode cX9_holds 165 = .ok (.if_icmp .le 12, 3) := by decide +kernel
theorem dX9_holds_168 : decode cX9_holds 168 = .ok (.iload_n 2, 1) := by decide +kernel
theorem dX9_holds_169 : decode cX9_holds 169 = .ok (.iload_n 1, 1) := by decide +kernel
theorem dX9_holds_170 : decode cX9_holds 170 = .ok (.if_icmp .ne 7, 3) := by decide +kernel
theorem dX9_holds_173 : decode cX9_holds 173 = .ok (.iconst 1, 1) := by decide +kernel
theorem dX9_holds_174 : decode cX9_holds 174 = .ok (.goto 4, 3) := by decide +kernel
theorem dX9_holds_177 : decode cX9_holds 177 = .ok (.iconst 0, 1) := by decide +kernel
theorem dX9_holds_178 : decode cX9_holds 178 = .ok (.ireturn, 1) := by decide +kernel
theorem dX9_holds_179 : decode cX9_holds 179 = .ok (.iload_n 3, 1) := by decide +kernel
theorem dX9_holds_180 : decode cX9_holds 180 = .ok (.ireturn, 1) := by decide +kernel
theorem dX9_holds_181 : decode cX9_holds 181 = .ok (.aload_n 0, 1) := by decide +kernel
theorem dX9_holds_182 : decode cX9_holds 182 = .ok (.getfield 113, 3) := by decide +kernel
theorem dX9_holds_185 : decode cX9_holds 185 = .ok (.iconst 1, 1) := by decide +kernel
theorem dX9_holds_186 : decode cX9_holds 186 = .ok (.if_icmp .le 18, 3) := by decide +kernel
theorem dX9_holds_189 : decode cX9_holds 189 = .ok (.iload_n 2, 1) := by decide +kernel
theorem dX9_holds_190 : decode cX9_holds 190 = .ok (.bipush 100, 2) := by decide +kernel
theorem dX9_holds_192 : decode cX9_holds 192 = .ok (.irem, 1) := by decide +kernel
theorem dX9_holds_193 : decode cX9_holds 193 = .ok (.iload_n 1, 1) := by decide +kernel
theorem dX9_holds_194 : decode cX9_holds 194 = .ok (.bipush 100, 2) := by decide +kernel
theorem dX9_holds_196 : decode cX9_holds 196 = .ok (.irem, 1) := by decide +kernel
theorem dX9_holds_197 : decode cX9_holds 197 = .ok (.if_icmp .ne 7, 3) := by decide +kernel
theorem dX9_holds_200 : decode cX9_holds 200 = .ok (.iconst 1, 1) := by decide +kernel
theorem dX9_holds_201 : decode cX9_holds 201 = .ok (.goto 4, 3) := by decide +kernel
theorem dX9_holds_204 : decode cX9_holds 204 = .ok (.iconst 0, 1) := by decide +kernel
theorem dX9_holds_205 : decode cX9_holds 205 = .ok (.ireturn, 1) := by decide +kernel
theorem dX9_holds_206 : decode cX9_holds 206 = .ok (.iload_n 3, 1) := by decide +kernel
theorem dX9_holds_207 : decode cX9_holds 207 = .ok (.ifCond .eq 12, 3) := by decide +kernel
theorem dX9_holds_210 : decode cX9_holds 210 = .ok (.iload 4, 2) := by decide +kernel
theorem dX9_holds_212 : decode cX9_holds 212 = .ok (.ifCond .eq 7, 3) := by decide +kernel
theorem dX9_holds_215 : decode cX9_holds 215 = .ok (.iconst 1, 1) := by decide +kernel
theorem dX9_holds_216 : decode cX9_holds 216 = .ok (.goto 4, 3) := by decide +kernel
theorem dX9_holds_219 : decode cX9_holds 219 = .ok (.iconst 0, 1) := by decide +kernel
theorem dX9_holds_220 : decode cX9_holds 220 = .ok (.ireturn, 1) := by decide +kernel
theorem dX9_holds_221 : decode cX9_holds 221 = .ok (.iconst 1, 1) := by decide +kernel
theorem dX9_holds_222 : decode cX9_holds 222 = .ok (.ireturn, 1) := by decide +kernel
theorem dX9_readings_0 : decode cX9_readings 0 = .ok (.aload_n 0, 1) := by decide +kernel
theorem dX9_readings_1 : decode cX9_readings 1 = .ok (.getfield 7, 3) := by decide +kernel
theorem dX9_readings_4 : decode cX9_readings 4 = .ok (.iconst 0, 1) := by decide +kernel
theorem dX9_readings_5 : decode cX9_readings 5 = .ok (.iaload, 1) := by decide +kernel
theorem dX9_readings_6 : decode cX9_readings 6 = .ok (.ifCond .ne 7, 3) := by decide +kernel
theorem dX9_readings_9 : decode cX9_readings 9 = .ok (.iconst 0, 1) := by decide +kernel
theorem dX9_readings_10 : decode cX9_readings 10 = .ok (.goto 4, 3) := by decide +kernel
theorem dX9_readings_13 : decode cX9_readings 13 = .ok (.iconst 1, 1) := by decide +kernel
theorem dX9_readings_14 : decode cX9_readings 14 = .ok (.istore_n 1, 1) := by decide +kernel
theorem dX9_readings_15 : decode cX9_readings 15 = .ok (.iconst 0, 1) := by decide +kernel
theorem dX9_readings_16 : decode cX9_readings 16 = .ok (.istore_n 2, 1) := by decide +kernel
theorem dX9_readings_17 : decode cX9_readings 17 = .ok (.iload_n 2, 1) := by decide +kernel
theorem dX9_readings_18 : decode cX9_readings 18 = .ok (.aload_n 0, 1) := by decide +kernel
theorem dX9_readings_19 : decode cX9_readings 19 = .ok (.getfield 7, 3) := by decide +kernel
theorem dX9_readings_22 : decode cX9_readings 22 = .ok (.iconst 0, 1) := by decide +kernel
theorem dX9_readings_23 : decode cX9_readings 23 = .ok (.iaload, 1) := by decide +kernel
theorem dX9_readings_24 : decode cX9_readings 24 = .ok (.if_icmp .ge 22, 3) := by decide +kernel
theorem dX9_readings_27 : decode cX9_readings 27 = .ok (.iload_n 1, 1) := by decide +kernel
theorem dX9_readings_28 : decode cX9_readings 28 = .ok (.aload_n 0, 1) := by decide +kernel
theorem dX9_readings_29 : decode cX9_readings 29 = .ok (.getfield 7, 3) := by decide +kernel
theorem dX9_readings_32 : decode cX9_readings 32 = .ok (.aload_n 0, 1) := by decide +kernel
theorem dX9_readings_33 : decode cX9_readings 33 = .ok (.iload_n 2, 1) := by decide +kernel
theorem dX9_readings_34 : decode cX9_readings 34 = .ok (.invokevirtual 79, 3) := by decide +kernel
theorem dX9_readings_37 : decode cX9_readings 37 = .ok (.iaload, 1) := by decide +kernel
theorem dX9_readings_38 : decode cX9_readings 38 = .ok (.imul, 1) := by decide +kernel
theorem dX9_readings_39 : decode cX9_readings 39 = .ok (.istore_n 1, 1) := by decide +kernel
theorem dX9_readings_40 : decode cX9_readings 40 = .ok (.iinc 2 1, 3) := by decide +kernel
theorem dX9_readings_43 : decode cX9_readings 43 = .ok (.goto (-26), 3) := by decide +kernel
theorem dX9_readings_46 : decode cX9_readings 46 = .ok (.iload_n 1, 1) := by decide +kernel
theorem dX9_readings_47 : decode cX9_readings 47 = .ok (.ireturn, 1) := by decide +kernel
theorem dX9_takes_0 : decode cX9_takes 0 = .ok (.iload_n 1, 1) := by decide +kernel
theorem dX9_takes_1 : decode cX9_takes 1 = .ok (.istore_n 2, 1) := by decide +kernel
theorem dX9_takes_2 : decode cX9_takes 2 = .ok (.aload_n 0, 1) := by decide +kernel
theorem dX9_takes_3 : decode cX9_takes 3 = .ok (.getfield 7, 3) := by decide +kernel
theorem dX9_takes_6 : decode cX9_takes 6 = .ok (.iconst 0, 1) := by decide +kernel
theorem dX9_takes_7 : decode cX9_takes 7 = .ok (.iaload, 1) := by decide +kernel
theorem dX9_takes_8 : decode cX9_takes 8 = .ok (.iconst 1, 1) := by decide +kernel
theorem dX9_takes_9 : decode cX9_takes 9 = .ok (.isub, 1) := by decide +kernel
theorem dX9_takes_10 : decode cX9_takes 10 = .ok (.istore_n 3, 1) := by decide +kernel
theorem dX9_takes_11 : decode cX9_takes 11 = .ok (.iload_n 3, 1) := by decide +kernel
theorem dX9_takes_12 : decode cX9_takes 12 = .ok (.ifCond .lt 40, 3) := by decide +kernel
theorem dX9_takes_15 : decode cX9_takes 15 = .ok (.aload_n 0, 1) := by decide +kernel
theorem dX9_takes_16 : decode cX9_takes 16 = .ok (.getfield 13, 3) := by decide +kernel
theorem dX9_takes_19 : decode cX9_takes 19 = .ok (.iload_n 3, 1) := by decide +kernel
theorem dX9_takes_20 : decode cX9_takes 20 = .ok (.iload_n 2, 1) := by decide +kernel
theorem dX9_takes_21 : decode cX9_takes 21 = .ok (.aload_n 0, 1) := by decide +kernel
theorem dX9_takes_22 : decode cX9_takes 22 = .ok (.getfield 7, 3) := by decide +kernel
theorem dX9_takes_25 : decode cX9_takes 25 = .ok (.aload_n 0, 1) := by decide +kernel
theorem dX9_takes_26 : decode cX9_takes 26 = .ok (.iload_n 3, 1) := by decide +kernel
theorem dX9_takes_27 : decode cX9_takes 27 = .ok (.invokevirtual 79, 3) := by decide +kernel
theorem dX9_takes_30 : decode cX9_takes 30 = .ok (.iaload, 1) := by decide +kernel
theorem dX9_takes_31 : decode cX9_takes 31 = .ok (.irem, 1) := by decide +kernel
theorem dX9_takes_32 : decode cX9_takes 32 = .ok (.iastore, 1) := by decide +kernel
theorem dX9_takes_33 : decode cX9_takes 33 = .ok (.iload_n 2, 1) := by decide +kernel
theorem dX9_takes_34 : decode cX9_takes 34 = .ok (.aload_n 0, 1) := by decide +kernel
theorem dX9_takes_35 : decode cX9_takes 35 = .ok (.getfield 7, 3) := by decide +kernel
theorem dX9_takes_38 : decode cX9_takes 38 = .ok (.aload_n 0, 1) := by decide +kernel
theorem dX9_takes_39 : decode cX9_takes 39 = .ok (.iload_n 3, 1) := by decide +kernel
theorem dX9_takes_40 : decode cX9_takes 40 = .ok (.invokevirtual 79, 3) := by decide +kernel
theorem dX9_takes_43 : decode cX9_takes 43 = .ok (.iaload, 1) := by decide +kernel
theorem dX9_takes_44 : decode cX9_takes 44 = .ok (.idiv, 1) := by decide +kernel
theorem dX9_takes_45 : decode cX9_takes 45 = .ok (.istore_n 2, 1) := by decide +kernel
theorem dX9_takes_46 : decode cX9_takes 46 = .ok (.iinc 3 (-1), 3) := by decide +kernel
theorem dX9_takes_49 : decode cX9_takes 49 = .ok (.goto (-38), 3) := by decide +kernel
theorem dX9_takes_52 : decode cX9_takes 52 = .ok (.aload_n 0, 1) := by decide +kernel
theorem dX9_takes_53 : decode cX9_takes 53 = .ok (.invokevirtual 119, 3) := by decide +kernel
theorem dX9_takes_56 : decode cX9_takes 56 = .ok (.ireturn, 1) := by decide +kernel
theorem dX9_takesPicked_0 : decode cX9_takesPicked 0 = .ok (.aload_n 0, 1) := by decide +kernel
theorem dX9_takesPicked_1 : decode cX9_takesPicked 1 = .ok (.iconst 0, 1) := by decide +kernel
theorem dX9_takesPicked_2 : decode cX9_takesPicked 2 = .ok (.putfield 86, 3) := by decide +kernel
theorem dX9_takesPicked_5 : decode cX9_takesPicked 5 = .ok (.aload_n 0, 1) := by decide +kernel
theorem dX9_takesPicked_6 : decode cX9_takesPicked 6 = .ok (.iconst 0, 1) := by decide +kernel
theorem dX9_takesPicked_7 : decode cX9_takesPicked 7 = .ok (.putfield 123, 3) := by decide +kernel
theorem dX9_takesPicked_10 : decode cX9_takesPicked 10 = .ok (.iconst 0, 1) := by decide +kernel
theorem dX9_takesPicked_11 : decode cX9_takesPicked 11 = .ok (.istore_n 1, 1) := by decide +kernel
theorem dX9_takesPicked_12 : decode cX9_takesPicked 12 = .ok (.iload_n 1, 1) := by decide +kernel
theorem dX9_takesPicked_13 : decode cX9_takesPicked 13 = .ok (.aload_n 0, 1) := by decide +kernel
theorem dX9_takesPicked_14 : decode cX9_takesPicked 14 = .ok (.getfield 7, 3) := by decide +kernel
theorem dX9_takesPicked_17 : decode cX9_takesPicked 17 = .ok (.iconst 0, 1) := by decide +kernel
theorem dX9_takesPicked_18 : decode cX9_takesPicked 18 = .ok (.iaload, 1) := by decide +kernel
theorem dX9_takesPicked_19 : decode cX9_takesPicked 19 = .ok (.if_icmp .ge 81, 3) := by decide +kernel
theorem dX9_takesPicked_22 : decode cX9_takesPicked 22 = .ok (.aload_n 0, 1) := by decide +kernel
theorem dX9_takesPicked_23 : decode cX9_takesPicked 23 = .ok (.getfield 7, 3) := by decide +kernel
theorem dX9_takesPicked_26 : decode cX9_takesPicked 26 = .ok (.aload_n 0, 1) := by decide +kernel
theorem dX9_takesPicked_27 : decode cX9_takesPicked 27 = .ok (.iload_n 1, 1) := by decide +kernel
theorem dX9_takesPicked_28 : decode cX9_takesPicked 28 = .ok (.invokevirtual 79, 3) := by decide +kernel
theorem dX9_takesPicked_31 : decode cX9_takesPicked 31 = .ok (.iconst 1, 1) := by decide +kernel
theorem dX9_takesPicked_32 : decode cX9_takesPicked 32 = .ok (.iadd, 1) := by decide +kernel
theorem dX9_takesPicked_33 : decode cX9_takesPicked 33 = .ok (.aload_n 0, 1) := by decide +kernel
theorem dX9_takesPicked_34 : decode cX9_takesPicked 34 = .ok (.getfield 13, 3) := by decide +kernel
theorem dX9_takesPicked_37 : decode cX9_takesPicked 37 = .ok (.iload_n 1, 1) := by decide +kernel
theorem dX9_takesPicked_38 : decode cX9_takesPicked 38 = .ok (.iaload, 1) := by decide +kernel
theorem dX9_takesPicked_39 : decode cX9_takesPicked 39 = .ok (.iadd, 1) := by decide +kernel
theorem dX9_takesPicked_40 : decode cX9_takesPicked 40 = .ok (.iaload, 1) := by decide +kernel
theorem dX9_takesPicked_41 : decode cX9_takesPicked 41 = .ok (.istore_n 2, 1) := by decide +kernel
theorem dX9_takesPicked_42 : decode cX9_takesPicked 42 = .ok (.aload_n 0, 1) := by decide +kernel
theorem dX9_takesPicked_43 : decode cX9_takesPicked 43 = .ok (.dup, 1) := by decide +kernel
theorem dX9_takesPicked_44 : decode cX9_takesPicked 44 = .ok (.getfield 123, 3) := by decide +kernel
theorem dX9_takesPicked_47 : decode cX9_takesPicked 47 = .ok (.aload_n 0, 1) := by decide +kernel
theorem dX9_takesPicked_48 : decode cX9_takesPicked 48 = .ok (.getfield 7, 3) := by decide +kernel
theorem dX9_takesPicked_51 : decode cX9_takesPicked 51 = .ok (.aload_n 0, 1) := by decide +kernel
theorem dX9_takesPicked_52 : decode cX9_takesPicked 52 = .ok (.iload_n 1, 1) := by decide +kernel
theorem dX9_takesPicked_53 : decode cX9_takesPicked 53 = .ok (.invokevirtual 79, 3) := by decide +kernel
theorem dX9_takesPicked_56 : decode cX9_takesPicked 56 = .ok (.iconst 5, 1) := by decide +kernel
theorem dX9_takesPicked_57 : decode cX9_takesPicked 57 = .ok (.iadd, 1) := by decide +kernel
theorem dX9_takesPicked_58 : decode cX9_takesPicked 58 = .ok (.aload_n 0, 1) := by decide +kernel
theorem dX9_takesPicked_59 : decode cX9_takesPicked 59 = .ok (.getfield 13, 3) := by decide +kernel
theorem dX9_takesPicked_62 : decode cX9_takesPicked 62 = .ok (.iload_n 1, 1) := by decide +kernel
theorem dX9_takesPicked_63 : decode cX9_takesPicked 63 = .ok (.iaload, 1) := by decide +kernel
theorem dX9_takesPicked_64 : decode cX9_takesPicked 64 = .ok (.iadd, 1) := by decide +kernel
theorem dX9_takesPicked_65 : decode cX9_takesPicked 65 = .ok (.iaload, 1) := by decide +kernel
theorem dX9_takesPicked_66 : decode cX9_takesPicked 66 = .ok (.iadd, 1) := by decide +kernel
theorem dX9_takesPicked_67 : decode cX9_takesPicked 67 = .ok (.putfield 123, 3) := by decide +kernel
theorem dX9_takesPicked_70 : decode cX9_takesPicked 70 = .ok (.iload_n 2, 1) := by decide +kernel
theorem dX9_takesPicked_71 : decode cX9_takesPicked 71 = .ok (.ifCond .eq 23, 3) := by decide +kernel
theorem dX9_takesPicked_74 : decode cX9_takesPicked 74 = .ok (.aload_n 0, 1) := by decide +kernel
theorem dX9_takesPicked_75 : decode cX9_takesPicked 75 = .ok (.getfield 16, 3) := by decide +kernel
theorem dX9_takesPicked_78 : decode cX9_takesPicked 78 = .ok (.aload_n 0, 1) := by decide +kernel
theorem dX9_takesPicked_79 : decode cX9_takesPicked 79 = .ok (.getfield 86, 3) := by decide +kernel
theorem dX9_takesPicked_82 : decode cX9_takesPicked 82 = .ok (.iload_n 2, 1) := by decide +kernel
theorem dX9_takesPicked_83 : decode cX9_takesPicked 83 = .ok (.iastore, 1) := by decide +kernel
theorem dX9_takesPicked_84 : decode cX9_takesPicked 84 = .ok (.aload_n 0, 1) := by decide +kernel
theorem dX9_takesPicked_85 : decode cX9_takesPicked 85 = .ok (.dup, 1) := by decide +kernel
theorem dX9_takesPicked_86 : decode cX9_takesPicked 86 = .ok (.getfield 86, 3) := by decide +kernel
theorem dX9_takesPicked_89 : decode cX9_takesPicked 89 = .ok (.iconst 1, 1) := by decide +kernel
theorem dX9_takesPicked_90 : decode cX9_takesPicked 90 = .ok (.iadd, 1) := by decide +kernel
theorem dX9_takesPicked_91 : decode cX9_takesPicked 91 = .ok (.putfield 86, 3) := by decide +kernel
theorem dX9_takesPicked_94 : decode cX9_takesPicked 94 = .ok (.iinc 1 1, 3) := by decide +kernel
theorem dX9_takesPicked_97 : decode cX9_takesPicked 97 = .ok (.goto (-85), 3) := by decide +kernel
theorem dX9_takesPicked_100 : decode cX9_takesPicked 100 = .ok (.aload_n 0, 1) := by decide +kernel
theorem dX9_takesPicked_101 : decode cX9_takesPicked 101 = .ok (.invokevirtual 126, 3) := by decide +kernel
theorem dX9_takesPicked_104 : decode cX9_takesPicked 104 = .ok (.ireturn, 1) := by decide +kernel
theorem dX9_finds_0 : decode cX9_finds 0 = .ok (.aload_n 0, 1) := by decide +kernel
theorem dX9_finds_1 : decode cX9_finds 1 = .ok (.iconst 0, 1) := by decide +kernel
theorem dX9_finds_2 : decode cX9_finds 2 = .ok (.putfield 129, 3) := by decide +kernel
theorem dX9_finds_5 : decode cX9_finds 5 = .ok (.aload_n 0, 1) := by decide +kernel
theorem dX9_finds_6 : decode cX9_finds 6 = .ok (.iconst 0, 1) := by decide +kernel
theorem dX9_finds_7 : decode cX9_finds 7 = .ok (.putfield 132, 3) := by decide +kernel
theorem dX9_finds_10 : decode cX9_finds 10 = .ok (.aload_n 0, 1) := by decide +kernel
theorem dX9_finds_11 : decode cX9_finds 11 = .ok (.bipush (-4), 2) := by decide +kernel
theorem dX9_finds_13 : decode cX9_finds 13 = .ok (.putfield 135, 3) := by decide +kernel
theorem dX9_finds_16 : decode cX9_finds 16 = .ok (.aload_n 0, 1) := by decide +kernel
theorem dX9_finds_17 : decode cX9_finds 17 = .ok (.sipush 9999, 3) := by decide +kernel
theorem dX9_finds_20 : decode cX9_finds 20 = .ok (.putfield 138, 3) := by decide +kernel
theorem dX9_finds_23 : decode cX9_finds 23 = .ok (.aload_n 0, 1) := by decide +kernel
theorem dX9_finds_24 : decode cX9_finds 24 = .ok (.invokevirtual 141, 3) := by decide +kernel
theorem dX9_finds_27 : decode cX9_finds 27 = .ok (.istore_n 1, 1) := by decide +kernel
theorem dX9_finds_28 : decode cX9_finds 28 = .ok (.iconst 0, 1) := by decide +kernel
theorem dX9_finds_29 : decode cX9_finds 29 = .ok (.istore_n 2, 1) := by decide +kernel
theorem dX9_finds_30 : decode cX9_finds 30 = .ok (.iload_n 2, 1) := by decide +kernel
theorem dX9_finds_31 : decode cX9_finds 31 = .ok (.iload_n 1, 1) := by decide +kernel
theorem dX9_finds_32 : decode cX9_finds 32 = .ok (.if_icmp .ge 93, 3) := by decide +kernel
theorem dX9_finds_35 : decode cX9_finds 35 = .ok (.aload_n 0, 1) := by decide +kernel
theorem dX9_finds_36 : decode cX9_finds 36 = .ok (.iload_n 2, 1) := by decide +kernel
theorem dX9_finds_37 : decode cX9_finds 37 = .ok (.invokevirtual 144, 3) := by decide +kernel
theorem dX9_finds_40 : decode cX9_finds 40 = .ok (.ifCond .eq 79, 3) := by decide +kernel
theorem dX9_finds_43 : decode cX9_finds 43 = .ok (.aload_n 0, 1) := by decide +kernel
theorem dX9_finds_44 : decode cX9_finds 44 = .ok (.dup, 1) := by decide +kernel
theorem dX9_finds_45 : decode cX9_finds 45 = .ok (.getfield 129, 3) := by decide +kernel
theorem dX9_finds_48 : decode cX9_finds 48 = .ok (.iconst 1, 1) := by decide +kernel
theorem dX9_finds_49 : decode cX9_finds 49 = .ok (.iadd, 1) := by decide +kernel
theorem dX9_finds_50 : decode cX9_finds 50 = .ok (.putfield 129, 3) := by decide +kernel
theorem dX9_finds_53 : decode cX9_finds 53 = .ok (.aload_n 0, 1) := by decide +kernel
theorem dX9_finds_54 : decode cX9_finds 54 = .ok (.invokevirtual 148, 3) := by decide +kernel
theorem dX9_finds_57 : decode cX9_finds 57 = .ok (.ifCond .eq 62, 3) := by decide +kernel
theorem dX9_finds_60 : decode cX9_finds 60 = .ok (.aload_n 0, 1) := by decide +kernel
theorem dX9_finds_61 : decode cX9_finds 61 = .ok (.dup, 1) := by decide +kernel
theorem dX9_finds_62 : decode cX9_finds 62 = .ok (.getfield 132, 3) := by decide +kernel
theorem dX9_finds_65 : decode cX9_finds 65 = .ok (.iconst 1, 1) := by decide +kernel
theorem dX9_finds_66 : decode cX9_finds 66 = .ok (.iadd, 1) := by decide +kernel
theorem dX9_finds_67 : decode cX9_finds 67 = .ok (.putfield 132, 3) := by decide +kernel
theorem dX9_finds_70 : decode cX9_finds 70 = .ok (.aload_n 0, 1) := by decide +kernel
theorem dX9_finds_71 : decode cX9_finds 71 = .ok (.aload_n 0, 1) := by decide +kernel
theorem dX9_finds_72 : decode cX9_finds 72 = .ok (.getfield 123, 3) := by decide +kernel
theorem dX9_finds_75 : decode cX9_finds 75 = .ok (.aload_n 0, 1) := by decide +kernel
theorem dX9_finds_76 : decode cX9_finds 76 = .ok (.getfield 138, 3) := by decide +kernel
theorem dX9_finds_79 : decode cX9_finds 79 = .ok (.if_icmp .ge 7, 3) := by decide +kernel
theorem dX9_finds_82 : decode cX9_finds 82 = .ok (.iload_n 2, 1) := by decide +kernel
theorem dX9_finds_83 : decode cX9_finds 83 = .ok (.goto 7, 3) := by decide +kernel
theorem dX9_finds_86 : decode cX9_finds 86 = .ok (.aload_n 0, 1) := by decide +kernel
theorem dX9_finds_87 : decode cX9_finds 87 = .ok (.getfield 135, 3) := by decide +kernel
theorem dX9_finds_90 : decode cX9_finds 90 = .ok (.putfield 135, 3) := by decide +kernel
theorem dX9_finds_93 : decode cX9_finds 93 = .ok (.aload_n 0, 1) := by decide +kernel
theorem dX9_finds_94 : decode cX9_finds 94 = .ok (.aload_n 0, 1) := by decide +kernel
theorem dX9_finds_95 : decode cX9_finds 95 = .ok (.getfield 123, 3) := by decide +kernel
theorem dX9_finds_98 : decode cX9_finds 98 = .ok (.aload_n 0, 1) := by decide +kernel
theorem dX9_finds_99 : decode cX9_finds 99 = .ok (.getfield 138, 3) := by decide +kernel
theorem dX9_finds_102 : decode cX9_finds 102 = .ok (.if_icmp .ge 10, 3) := by decide +kernel
theorem dX9_finds_105 : decode cX9_finds 105 = .ok (.aload_n 0, 1) := by decide +kernel
theorem dX9_finds_106 : decode cX9_finds 106 = .ok (.getfield 123, 3) := by decide +kernel
theorem dX9_finds_109 : decode cX9_finds 109 = .ok (.goto 7, 3) := by decide +kernel
theorem dX9_finds_112 : decode cX9_finds 112 = .ok (.aload_n 0, 1) := by decide +kernel
theorem dX9_finds_113 : decode cX9_finds 113 = .ok (.getfield 138, 3) := by decide +kernel
theorem dX9_finds_116 : decode cX9_finds 116 = .ok (.putfield 138, 3) := by decide +kernel
theorem dX9_finds_119 : decode cX9_finds 119 = .ok (.iinc 2 1, 3) := by decide +kernel
theorem dX9_finds_122 : decode cX9_finds 122 = .ok (.goto (-92), 3) := by decide +kernel
theorem dX9_finds_125 : decode cX9_finds 125 = .ok (.aload_n 0, 1) := by decide +kernel
theorem dX9_finds_126 : decode cX9_finds 126 = .ok (.iconst 0, 1) := by decide +kernel
theorem dX9_finds_127 : decode cX9_finds 127 = .ok (.putfield 151, 3) := by decide +kernel
theorem dX9_finds_130 : decode cX9_finds 130 = .ok (.aload_n 0, 1) := by decide +kernel
theorem dX9_finds_131 : decode cX9_finds 131 = .ok (.getfield 135, 3) := by decide +kernel
theorem dX9_finds_134 : decode cX9_finds 134 = .ok (.bipush (-4), 2) := by decide +kernel
theorem dX9_finds_136 : decode cX9_finds 136 = .ok (.if_icmp .eq 50, 3) := by decide +kernel
theorem dX9_finds_139 : decode cX9_finds 139 = .ok (.aload_n 0, 1) := by decide +kernel
theorem dX9_finds_140 : decode cX9_finds 140 = .ok (.aload_n 0, 1) := by decide +kernel
theorem dX9_finds_141 : decode cX9_finds 141 = .ok (.getfield 135, 3) := by decide +kernel
theorem dX9_finds_144 : decode cX9_finds 144 = .ok (.invokevirtual 144, 3) := by decide +kernel
theorem dX9_finds_147 : decode cX9_finds 147 = .ok (.ifCond .eq 39, 3) := by decide +kernel
theorem dX9_finds_150 : decode cX9_finds 150 = .ok (.aload_n 0, 1) := by decide +kernel
theorem dX9_finds_151 : decode cX9_finds 151 = .ok (.aload_n 0, 1) := by decide +kernel
theorem dX9_finds_152 : decode cX9_finds 152 = .ok (.getfield 113, 3) := by decide +kernel
theorem dX9_finds_155 : decode cX9_finds 155 = .ok (.putfield 151, 3) := by decide +kernel
theorem dX9_finds_158 : decode cX9_finds 158 = .ok (.iconst 0, 1) := by decide +kernel
theorem dX9_finds_159 : decode cX9_finds 159 = .ok (.istore_n 2, 1) := by decide +kernel
theorem dX9_finds_160 : decode cX9_finds 160 = .ok (.iload_n 2, 1) := by decide +kernel
theorem dX9_finds_161 : decode cX9_finds 161 = .ok (.aload_n 0, 1) := by decide +kernel
theorem dX9_finds_162 : decode cX9_finds 162 = .ok (.getfield 113, 3) := by decide +kernel
theorem dX9_finds_165 : decode cX9_finds 165 = .ok (.if_icmp .ge 21, 3) := by decide +kernel
theorem dX9_finds_168 : decode cX9_finds 168 = .ok (.aload_n 0, 1) := by decide +kernel
theorem dX9_finds_169 : decode cX9_finds 169 = .ok (.getfield 22, 3) := by decide +kernel
theorem dX9_finds_172 : decode cX9_finds 172 = .ok (.iload_n 2, 1) := by decide +kernel
theorem dX9_finds_173 : decode cX9_finds 173 = .ok (.aload_n 0, 1) := by decide +kernel
theorem dX9_finds_174 : decode cX9_finds 174 = .ok (.getfield 19, 3) := by decide +kernel
theorem dX9_finds_177 : decode cX9_finds 177 = .ok (.iload_n 2, 1) := by decide +kernel
theorem dX9_finds_178 : decode cX9_finds 178 = .ok (.iaload, 1) := by decide +kernel
theorem dX9_finds_179 : decode cX9_finds 179 = .ok (.iastore, 1) := by decide +kernel
theorem dX9_finds_180 : decode cX9_finds 180 = .ok (.iinc 2 1, 3) := by decide +kernel
theorem dX9_finds_183 : decode cX9_finds 183 = .ok (.goto (-23), 3) := by decide +kernel
theorem dX9_finds_186 : decode cX9_finds 186 = .ok (.return_, 1) := by decide +kernel
theorem dX9_isAsBest_0 : decode cX9_isAsBest 0 = .ok (.aload_n 0, 1) := by decide +kernel
theorem dX9_isAsBest_1 : decode cX9_isAsBest 1 = .ok (.getfield 113, 3) := by decide +kernel
theorem dX9_isAsBest_4 : decode cX9_isAsBest 4 = .ok (.aload_n 0, 1) := by decide +kernel
theorem dX9_isAsBest_5 : decode cX9_isAsBest 5 = .ok (.getfield 151, 3) := by decide +kernel
theorem dX9_isAsBest_8 : decode cX9_isAsBest 8 = .ok (.if_icmp .ne 7, 3) := by decide +kernel
theorem dX9_isAsBest_11 : decode cX9_isAsBest 11 = .ok (.iconst 1, 1) := by decide +kernel
theorem dX9_isAsBest_12 : decode cX9_isAsBest 12 = .ok (.goto 4, 3) := by decide +kernel
theorem dX9_isAsBest_15 : decode cX9_isAsBest 15 = .ok (.iconst 0, 1) := by decide +kernel
theorem dX9_isAsBest_16 : decode cX9_isAsBest 16 = .ok (.istore_n 1, 1) := by decide +kernel
theorem dX9_isAsBest_17 : decode cX9_isAsBest 17 = .ok (.iconst 0, 1) := by decide +kernel
theorem dX9_isAsBest_18 : decode cX9_isAsBest 18 = .ok (.istore_n 2, 1) := by decide +kernel
theorem dX9_isAsBest_19 : decode cX9_isAsBest 19 = .ok (.iload_n 2, 1) := by decide +kernel
theorem dX9_isAsBest_20 : decode cX9_isAsBest 20 = .ok (.aload_n 0, 1) := by decide +kernel
theorem dX9_isAsBest_21 : decode cX9_isAsBest 21 = .ok (.getfield 151, 3) := by decide +kernel
theorem dX9_isAsBest_24 : decode cX9_isAsBest 24 = .ok (.if_icmp .ge 34, 3) := by decide +kernel
theorem dX9_isAsBest_27 : decode cX9_isAsBest 27 = .ok (.iload_n 1, 1) := by decide +kernel
theorem dX9_isAsBest_28 : decode cX9_isAsBest 28 = .ok (.ifCond .eq 30, 3) := by decide +kernel
theorem dX9_isAsBest_31 : decode cX9_isAsBest 31 = .ok (.aload_n 0, 1) := by decide +kernel
theorem dX9_isAsBest_32 : decode cX9_isAsBest 32 = .ok (.getfield 19, 3) := by decide +kernel
theorem dX9_isAsBest_35 : decode cX9_isAsBest 35 = .ok (.iload_n 2, 1) := by decide +kernel
theorem dX9_isAsBest_36 : decode cX9_isAsBest 36 = .ok (.iaload, 1) := by decide +kernel
theorem dX9_isAsBest_37 : decode cX9_isAsBest 37 = .ok (.aload_n 0, 1) := by decide +kernel
theorem dX9_isAsBest_38 : decode cX9_isAsBest 38 = .ok (.getfield 22, 3) := by decide +kernel
theorem dX9_isAsBest_41 : decode cX9_isAsBest 41 = .ok (.iload_n 2, 1) := by decide +kernel
theorem dX9_isAsBest_42 : decode cX9_isAsBest 42 = .ok (.iaload, 1) := by decide +kernel
theorem dX9_isAsBest_43 : decode cX9_isAsBest 43 = .ok (.if_icmp .ne 7, 3) := by decide +kernel
theorem dX9_isAsBest_46 : decode cX9_isAsBest 46 = .ok (.iconst 1, 1) := by decide +kernel
theorem dX9_isAsBest_47 : decode cX9_isAsBest 47 = .ok (.goto 4, 3) := by decide +kernel
theorem dX9_isAsBest_50 : decode cX9_isAsBest 50 = .ok (.iconst 0, 1) := by decide +kernel
theorem dX9_isAsBest_51 : decode cX9_isAsBest 51 = .ok (.istore_n 1, 1) := by decide +kernel
theorem dX9_isAsBest_52 : decode cX9_isAsBest 52 = .ok (.iinc 2 1, 3) := by decide +kernel
theorem dX9_isAsBest_55 : decode cX9_isAsBest 55 = .ok (.goto (-36), 3) := by decide +kernel
theorem dX9_isAsBest_58 : decode cX9_isAsBest 58 = .ok (.iload_n 1, 1) := by decide +kernel
theorem dX9_isAsBest_59 : decode cX9_isAsBest 59 = .ok (.ireturn, 1) := by decide +kernel
theorem dX9_isCounted_0 : decode cX9_isCounted 0 = .ok (.aload_n 0, 1) := by decide +kernel
theorem dX9_isCounted_1 : decode cX9_isCounted 1 = .ok (.iload_n 1, 1) := by decide +kernel
theorem dX9_isCounted_2 : decode cX9_isCounted 2 = .ok (.invokevirtual 144, 3) := by decide +kernel
theorem dX9_isCounted_5 : decode cX9_isCounted 5 = .ok (.ifCond .eq 32, 3) := by decide +kernel
theorem dX9_isCounted_8 : decode cX9_isCounted 8 = .ok (.aload_n 0, 1) := by decide +kernel
theorem dX9_isCounted_9 : decode cX9_isCounted 9 = .ok (.invokevirtual 148, 3) := by decide +kernel
theorem dX9_isCounted_12 : decode cX9_isCounted 12 = .ok (.ifCond .eq 25, 3) := by decide +kernel
theorem dX9_isCounted_15 : decode cX9_isCounted 15 = .ok (.aload_n 0, 1) := by decide +kernel
theorem dX9_isCounted_16 : decode cX9_isCounted 16 = .ok (.getfield 123, 3) := by decide +kernel
theorem dX9_isCounted_19 : decode cX9_isCounted 19 = .ok (.aload_n 0, 1) := by decide +kernel
theorem dX9_isCounted_20 : decode cX9_isCounted 20 = .ok (.getfield 138, 3) := by decide +kernel
theorem dX9_isCounted_23 : decode cX9_isCounted 23 = .ok (.aload_n 0, 1) := by decide +kernel
theorem dX9_isCounted_24 : decode cX9_isCounted 24 = .ok (.getfield 7, 3) := by decide +kernel
theorem dX9_isCounted_27 : decode cX9_isCounted 27 = .ok (.iconst 2, 1) := by decide +kernel
theorem dX9_isCounted_28 : decode cX9_isCounted 28 = .ok (.iaload, 1) := by decide +kernel
theorem dX9_isCounted_29 : decode cX9_isCounted 29 = .ok (.iadd, 1) := by decide +kernel
theorem dX9_isCounted_30 : decode cX9_isCounted 30 = .ok (.if_icmp .gt 7, 3) := by decide +kernel
theorem dX9_isCounted_33 : decode cX9_isCounted 33 = .ok (.iconst 1, 1) := by decide +kernel
theorem dX9_isCounted_34 : decode cX9_isCounted 34 = .ok (.goto 4, 3) := by decide +kernel
theorem dX9_isCounted_37 : decode cX9_isCounted 37 = .ok (.iconst 0, 1) := by decide +kernel
theorem dX9_isCounted_38 : decode cX9_isCounted 38 = .ok (.ireturn, 1) := by decide +kernel
theorem dX9_counts_0 : decode cX9_counts 0 = .ok (.aload_n 0, 1) := by decide +kernel
theorem dX9_counts_1 : decode cX9_counts 1 = .ok (.invokevirtual 154, 3) := by decide +kernel
theorem dX9_counts_4 : decode cX9_counts 4 = .ok (.aload_n 0, 1) := by decide +kernel
theorem dX9_counts_5 : decode cX9_counts 5 = .ok (.iconst 0, 1) := by decide +kernel
theorem dX9_counts_6 : decode cX9_counts 6 = .ok (.putfield 157, 3) := by decide +kernel
theorem dX9_counts_9 : decode cX9_counts 9 = .ok (.aload_n 0, 1) := by decide +kernel
theorem dX9_counts_10 : decode cX9_counts 10 = .ok (.sipush 9999, 3) := by decide +kernel
theorem dX9_counts_13 : decode cX9_counts 13 = .ok (.putfield 160, 3) := by decide +kernel
theorem dX9_counts_16 : decode cX9_counts 16 = .ok (.iconst 0, 1) := by decide +kernel
theorem dX9_counts_17 : decode cX9_counts 17 = .ok (.istore_n 1, 1) := by decide +kernel
theorem dX9_counts_18 : decode cX9_counts 18 = .ok (.iload_n 1, 1) := by decide +kernel
theorem dX9_counts_19 : decode cX9_counts 19 = .ok (.sipush 256, 3) := by decide +kernel
theorem dX9_counts_22 : decode cX9_counts 22 = .ok (.if_icmp .ge 16, 3) := by decide +kernel
theorem dX9_counts_25 : decode cX9_counts 25 = .ok (.aload_n 0, 1) := by decide +kernel
theorem dX9_counts_26 : decode cX9_counts 26 = .ok (.getfield 25, 3) := by decide +kernel
theorem dX9_counts_29 : decode cX9_counts 29 = .ok (.iload_n 1, 1) := by decide +kernel
theorem dX9_counts_30 : decode cX9_counts 30 = .ok (.iconst 0, 1) := by decide +kernel
theorem dX9_counts_31 : decode cX9_counts 31 = .ok (.iastore, 1) := by decide +kernel
theorem dX9_counts_32 : decode cX9_counts 32 = .ok (.iinc 1 1, 3) := by decide +kernel
theorem dX9_counts_35 : decode cX9_counts 35 = .ok (.goto (-17), 3) := by decide +kernel
theorem dX9_counts_38 : decode cX9_counts 38 = .ok (.aload_n 0, 1) := by decide +kernel
theorem dX9_counts_39 : decode cX9_counts 39 = .ok (.getfield 135, 3) := by decide +kernel
theorem dX9_counts_42 : decode cX9_counts 42 = .ok (.bipush (-4), 2) := by decide +kernel
theorem dX9_counts_44 : decode cX9_counts 44 = .ok (.if_icmp .ne 7, 3) := by decide +kernel
theorem dX9_counts_47 : decode cX9_counts 47 = .ok (.iconst 0, 1) := by decide +kernel
theorem dX9_counts_48 : decode cX9_counts 48 = .ok (.goto 7, 3) := by decide +kernel
theorem dX9_counts_51 : decode cX9_counts 51 = .ok (.aload_n 0, 1) := by decide +kernel
theorem dX9_counts_52 : decode cX9_counts 52 = .ok (.invokevirtual 141, 3) := by decide +kernel
theorem dX9_counts_55 : decode cX9_counts 55 = .ok (.istore_n 1, 1) := by decide +kernel
theorem dX9_counts_56 : decode cX9_counts 56 = .ok (.iconst 0, 1) := by decide +kernel
theorem dX9_counts_57 : decode cX9_counts 57 = .ok (.istore_n 2, 1) := by decide +kernel
theorem dX9_counts_58 : decode cX9_counts 58 = .ok (.iload_n 2, 1) := by decide +kernel
theorem dX9_counts_59 : decode cX9_counts 59 = .ok (.iload_n 1, 1) := by decide +kernel
theorem dX9_counts_60 : decode cX9_counts 60 = .ok (.if_icmp .ge 174, 3) := by decide +kernel
theorem dX9_counts_63 : decode cX9_counts 63 = .ok (.aload_n 0, 1) := by decide +kernel
theorem dX9_counts_64 : decode cX9_counts 64 = .ok (.iload_n 2, 1) := by decide +kernel
theorem dX9_counts_65 : decode cX9_counts 65 = .ok (.invokevirtual 144, 3) := by decide +kernel
theorem dX9_counts_68 : decode cX9_counts 68 = .ok (.ifCond .eq 14, 3) := by decide +kernel
theorem dX9_counts_71 : decode cX9_counts 71 = .ok (.aload_n 0, 1) := by decide +kernel
theorem dX9_counts_72 : decode cX9_counts 72 = .ok (.invokevirtual 148, 3) := by decide +kernel
theorem dX9_counts_75 : decode cX9_counts 75 = .ok (.ifCond .eq 7, 3) := by decide +kernel
theorem dX9_counts_78 : decode cX9_counts 78 = .ok (.iconst 1, 1) := by decide +kernel
theorem dX9_counts_79 : decode cX9_counts 79 = .ok (.goto 4, 3) := by decide +kernel
theorem dX9_counts_82 : decode cX9_counts 82 = .ok (.iconst 0, 1) := by decide +kernel
theorem dX9_counts_83 : decode cX9_counts 83 = .ok (.istore_n 3, 1) := by decide +kernel
theorem dX9_counts_84 : decode cX9_counts 84 = .ok (.aload_n 0, 1) := by decide +kernel
theorem dX9_counts_85 : decode cX9_counts 85 = .ok (.iload_n 3, 1) := by decide +kernel
theorem dX9_counts_86 : decode cX9_counts 86 = .ok (.ifCond .eq 28, 3) := by decide +kernel
theorem dX9_counts_89 : decode cX9_counts 89 = .ok (.aload_n 0, 1) := by decide +kernel
theorem dX9_counts_90 : decode cX9_counts 90 = .ok (.getfield 123, 3) := by decide +kernel
theorem dX9_counts_93 : decode cX9_counts 93 = .ok (.aload_n 0, 1) := by decide +kernel
theorem dX9_counts_94 : decode cX9_counts 94 = .ok (.getfield 160, 3) := by decide +kernel
theorem dX9_counts_97 : decode cX9_counts 97 = .ok (.if_icmp .ge 17, 3) := by decide +kernel
theorem dX9_counts_100 : decode cX9_counts 100 = .ok (.aload_n 0, 1) := by decide +kernel
theorem dX9_counts_101 : decode cX9_counts 101 = .ok (.invokevirtual 163, 3) := by decide +kernel
theorem dX9_counts_104 : decode cX9_counts 104 = .ok (.ifCond .ne 10, 3) := by decide +kernel
theorem dX9_counts_107 : decode cX9_counts 107 = .ok (.aload_n 0, 1) := by decide +kernel
theorem dX9_counts_108 : decode cX9_counts 108 = .ok (.getfield 123, 3) := by decide +kernel
theorem dX9_counts_111 : decode cX9_counts 111 = .ok (.goto 7, 3) := by decide +kernel
theorem dX9_counts_114 : decode cX9_counts 114 = .ok (.aload_n 0, 1) := by decide +kernel
theorem dX9_counts_115 : decode cX9_counts 115 = .ok (.getfield 160, 3) := by decide +kernel
theorem dX9_counts_118 : decode cX9_counts 118 = .ok (.putfield 160, 3) := by decide +kernel
theorem dX9_counts_121 : decode cX9_counts 121 = .ok (.iload_n 3, 1) := by decide +kernel
theorem dX9_counts_122 : decode cX9_counts 122 = .ok (.ifCond .eq 106, 3) := by decide +kernel
theorem dX9_counts_125 : decode cX9_counts 125 = .ok (.aload_n 0, 1) := by decide +kernel
theorem dX9_counts_126 : decode cX9_counts 126 = .ok (.getfield 123, 3) := by decide +kernel
theorem dX9_counts_129 : decode cX9_counts 129 = .ok (.aload_n 0, 1) := by decide +kernel
theorem dX9_counts_130 : decode cX9_counts 130 = .ok (.getfield 138, 3) := by decide +kernel
theorem dX9_counts_133 : decode cX9_counts 133 = .ok (.aload_n 0, 1) := by decide +kernel
theorem dX9_counts_134 : decode cX9_counts 134 = .ok (.getfield 7, 3) := by decide +kernel
theorem dX9_counts_137 : decode cX9_counts 137 = .ok (.iconst 2, 1) := by decide +kernel
theorem dX9_counts_138 : decode cX9_counts 138 = .ok (.iaload, 1) := by decide +kernel
theorem dX9_counts_139 : decode cX9_counts 139 = .ok (.iadd, 1) := by decide +kernel
theorem dX9_counts_140 : decode cX9_counts 140 = .ok (.if_icmp .gt 88, 3) := by decide +kernel
theorem dX9_counts_143 : decode cX9_counts 143 = .ok (.aload_n 0, 1) := by decide +kernel
theorem dX9_counts_144 : decode cX9_counts 144 = .ok (.getfield 157, 3) := by decide +kernel
theorem dX9_counts_147 : decode cX9_counts 147 = .ok (.bipush 60, 2) := by decide +kernel
theorem dX9_counts_149 : decode cX9_counts 149 = .ok (.if_icmp .ge 13, 3) := by decide +kernel
theorem dX9_counts_152 : decode cX9_counts 152 = .ok (.aload_n 0, 1) := by decide +kernel
theorem dX9_counts_153 : decode cX9_counts 153 = .ok (.getfield 28, 3) := by decide +kernel
theorem dX9_counts_156 : decode cX9_counts 156 = .ok (.aload_n 0, 1) := by decide +kernel
theorem dX9_counts_157 : decode cX9_counts 157 = .ok (.getfield 157, 3) := by decide +kernel
theorem dX9_counts_160 : decode cX9_counts 160 = .ok (.iload_n 2, 1) := by decide +kernel
theorem dX9_counts_161 : decode cX9_counts 161 = .ok (.iastore, 1) := by decide +kernel
theorem dX9_counts_162 : decode cX9_counts 162 = .ok (.aload_n 0, 1) := by decide +kernel
theorem dX9_counts_163 : decode cX9_counts 163 = .ok (.dup, 1) := by decide +kernel
theorem dX9_counts_164 : decode cX9_counts 164 = .ok (.getfield 157, 3) := by decide +kernel
theorem dX9_counts_167 : decode cX9_counts 167 = .ok (.iconst 1, 1) := by decide +kernel
theorem dX9_counts_168 : decode cX9_counts 168 = .ok (.iadd, 1) := by decide +kernel
theorem dX9_counts_169 : decode cX9_counts 169 = .ok (.putfield 157, 3) := by decide +kernel
theorem dX9_counts_172 : decode cX9_counts 172 = .ok (.iconst 0, 1) := by decide +kernel
theorem dX9_counts_173 : decode cX9_counts 173 = .ok (.istore 4, 2) := by decide +kernel
theorem dX9_counts_175 : decode cX9_counts 175 = .ok (.iload 4, 2) := by decide +kernel
theorem dX9_counts_177 : decode cX9_counts 177 = .ok (.aload_n 0, 1) := by decide +kernel
theorem dX9_counts_178 : decode cX9_counts 178 = .ok (.getfield 7, 3) := by decide +kernel
theorem dX9_counts_181 : decode cX9_counts 181 = .ok (.iconst 0, 1) := by decide +kernel
theorem dX9_counts_182 : decode cX9_counts 182 = .ok (.iaload, 1) := by decide +kernel
theorem dX9_counts_183 : decode cX9_counts 183 = .ok (.if_icmp .ge 45, 3) := by decide +kernel
theorem dX9_counts_186 : decode cX9_counts 186 = .ok (.aload_n 0, 1) := by decide +kernel
theorem dX9_counts_187 : decode cX9_counts 187 = .ok (.getfield 25, 3) := by decide +kernel
theorem dX9_counts_190 : decode cX9_counts 190 = .ok (.bipush 32, 2) := by decide +kernel
theorem dX9_counts_192 : decode cX9_counts 192 = .ok (.iload 4, 2) := by decide +kernel
theorem dX9_counts_194 : decode cX9_counts 194 = .ok (.imul, 1) := by decide +kernel
theorem dX9_counts_195 : decode cX9_counts 195 = .ok (.aload_n 0, 1) := by decide +kernel
theorem dX9_counts_196 : decode cX9_counts 196 = .ok (.getfield 7, 3) := by decide +kernel
theorem dX9_counts_199 : decode cX9_counts 199 = .ok (.aload_n 0, 1) := by decide +kernel
theorem dX9_counts_200 : decode cX9_counts 200 = .ok (.iload 4, 2) := by decide +kernel
theorem dX9_counts_202 : decode cX9_counts 202 = .ok (.invokevirtual 79, 3) := by decide +kernel
theorem dX9_counts_205 : decode cX9_counts 205 = .ok (.iconst 1, 1) := by decide +kernel
theorem dX9_counts_206 : decode cX9_counts 206 = .ok (.iadd, 1) := by decide +kernel
theorem dX9_counts_207 : decode cX9_counts 207 = .ok (.aload_n 0, 1) := by decide +kernel
theorem dX9_counts_208 : decode cX9_counts 208 = .ok (.getfield 13, 3) := by decide +kernel
theorem dX9_counts_211 : decode cX9_counts 211 = .ok (.iload 4, 2) := by decide +kernel
theorem dX9_counts_213 : decode cX9_counts 213 = .ok (.iaload, 1) := by decide +kernel
theorem dX9_counts_214 : decode cX9_counts 214 = .ok (.iadd, 1) := by decide +kernel
theorem dX9_counts_215 : decode cX9_counts 215 = .ok (.iaload, 1) := by decide +kernel
theorem dX9_counts_216 : decode cX9_counts 216 = .ok (.iadd, 1) := by decide +kernel
theorem dX9_counts_217 : decode cX9_counts 217 = .ok (.dup2, 1) := by decide +kernel
theorem dX9_counts_218 : decode cX9_counts 218 = .ok (.iaload, 1) := by decide +kernel
theorem dX9_counts_219 : decode cX9_counts 219 = .ok (.iconst 1, 1) := by decide +kernel
theorem dX9_counts_220 : decode cX9_counts 220 = .ok (.iadd, 1) := by decide +kernel
theorem dX9_counts_221 : decode cX9_counts 221 = .ok (.iastore, 1) := by decide +kernel
theorem dX9_counts_222 : decode cX9_counts 222 = .ok (.iinc 4 1, 3) := by decide +kernel
theorem dX9_counts_225 : decode cX9_counts 225 = .ok (.goto (-50), 3) := by decide +kernel
theorem dX9_counts_228 : decode cX9_counts 228 = .ok (.iinc 2 1, 3) := by decide +kernel
theorem dX9_counts_231 : decode cX9_counts 231 = .ok (.goto (-173), 3) := by decide +kernel
theorem dX9_counts_234 : decode cX9_counts 234 = .ok (.return_, 1) := by decide +kernel
theorem dX9_look_0 : decode cX9_look 0 = .ok (.bipush (-4), 2) := by decide +kernel
theorem dX9_look_2 : decode cX9_look 2 = .ok (.istore_n 2, 1) := by decide +kernel
theorem dX9_look_3 : decode cX9_look 3 = .ok (.iload_n 1, 1) := by decide +kernel
theorem dX9_look_4 : decode cX9_look 4 = .ok (.istore_n 3, 1) := by decide +kernel
theorem dX9_look_5 : decode cX9_look 5 = .ok (.iconst 0, 1) := by decide +kernel
theorem dX9_look_6 : decode cX9_look 6 = .ok (.istore 4, 2) := by decide +kernel
theorem dX9_look_8 : decode cX9_look 8 = .ok (.iload 4, 2) := by decide +kernel
theorem dX9_look_10 : decode cX9_look 10 = .ok (.aload_n 0, 1) := by decide +kernel
theorem dX9_look_11 : decode cX9_look 11 = .ok (.getfield 7, 3) := by decide +kernel
theorem dX9_look_14 : decode cX9_look 14 = .ok (.iconst 0, 1) := by decide +kernel
theorem dX9_look_15 : decode cX9_look 15 = .ok (.iaload, 1) := by decide +kernel
theorem dX9_look_16 : decode cX9_look 16 = .ok (.if_icmp .ge 92, 3) := by decide +kernel
theorem dX9_look_19 : decode cX9_look 19 = .ok (.iconst 0, 1) := by decide +kernel
theorem dX9_look_20 : decode cX9_look 20 = .ok (.istore 5, 2) := by decide +kernel
theorem dX9_look_22 : decode cX9_look 22 = .ok (.iconst 0, 1) := by decide +kernel
theorem dX9_look_23 : decode cX9_look 23 = .ok (.istore 6, 2) := by decide +kernel
theorem dX9_look_25 : decode cX9_look 25 = .ok (.iload 6, 2) := by decide +kernel
theorem dX9_look_27 : decode cX9_look 27 = .ok (.bipush 32, 2) := by decide +kernel
theorem dX9_look_29 : decode cX9_look 29 = .ok (.if_icmp .ge 47, 3) := by decide +kernel
theorem dX9_look_32 : decode cX9_look 32 = .ok (.aload_n 0, 1) := by decide +kernel
theorem dX9_look_33 : decode cX9_look 33 = .ok (.getfield 25, 3) := by decide +kernel
theorem dX9_look_36 : decode cX9_look 36 = .ok (.bipush 32, 2) := by decide +kernel
theorem dX9_look_38 : decode cX9_look 38 = .ok (.iload 4, 2) := by decide +kernel
theorem dX9_look_40 : decode cX9_look 40 = .ok (.imul, 1) := by decide +kernel
theorem dX9_look_41 : decode cX9_look 41 = .ok (.iload 6, 2) := by decide +kernel
theorem dX9_look_43 : decode cX9_look 43 = .ok (.iadd, 1) := by decide +kernel
theorem dX9_look_44 : decode cX9_look 44 = .ok (.iaload, 1) := by decide +kernel
theorem dX9_look_45 : decode cX9_look 45 = .ok (.iload 5, 2) := by decide +kernel
theorem dX9_look_47 : decode cX9_look 47 = .ok (.if_icmp .le 19, 3) := by decide +kernel
theorem dX9_look_50 : decode cX9_look 50 = .ok (.aload_n 0, 1) := by decide +kernel
theorem dX9_look_51 : decode cX9_look 51 = .ok (.getfield 25, 3) := by decide +kernel
theorem dX9_look_54 : decode cX9_look 54 = .ok (.bipush 32, 2) := by decide +kernel
theorem dX9_look_56 : decode cX9_look 56 = .ok (.iload 4, 2) := by decide +kernel
theorem dX9_look_58 : decode cX9_look 58 = .ok (.imul, 1) := by decide +kernel
theorem dX9_look_59 : decode cX9_look 59 = .ok (.iload 6, 2) := by decide +kernel
theorem dX9_look_61 : decode cX9_look 61 = .ok (.iadd, 1) := by decide +kernel
theorem dX9_look_62 : decode cX9_look 62 = .ok (.iaload, 1) := by decide +kernel
theorem dX9_look_63 : decode cX9_look 63 = .ok (.goto 5, 3) := by decide +kernel
theorem dX9_look_66 : decode cX9_look 66 = .ok (.iload 5, 2) := by decide +kernel
theorem dX9_look_68 : decode cX9_look 68 = .ok (.istore 5, 2) := by decide +kernel
theorem dX9_look_70 : decode cX9_look 70 = .ok (.iinc 6 1, 3) := by decide +kernel
theorem dX9_look_73 : decode cX9_look 73 = .ok (.goto (-48), 3) := by decide +kernel
theorem dX9_look_76 : decode cX9_look 76 = .ok (.iload 5, 2) := by decide +kernel
theorem dX9_look_78 : decode cX9_look 78 = .ok (.iload_n 3, 1) := by decide +kernel
theorem dX9_look_79 : decode cX9_look 79 = .ok (.if_icmp .ge 8, 3) := by decide +kernel
theorem dX9_look_82 : decode cX9_look 82 = .ok (.iload 4, 2) := by decide +kernel
theorem dX9_look_84 : decode cX9_look 84 = .ok (.goto 4, 3) := by decide +kernel
theorem dX9_look_87 : decode cX9_look 87 = .ok (.iload_n 2, 1) := by decide +kernel
theorem dX9_look_88 : decode cX9_look 88 = .ok (.istore_n 2, 1) := by decide +kernel
theorem dX9_look_89 : decode cX9_look 89 = .ok (.iload 5, 2) := by decide +kernel
theorem dX9_look_91 : decode cX9_look 91 = .ok (.iload_n 3, 1) := by decide +kernel
theorem dX9_look_92 : decode cX9_look 92 = .ok (.if_icmp .ge 8, 3) := by decide +kernel
theorem dX9_look_95 : decode cX9_look 95 = .ok (.iload 5, 2) := by decide +kernel
theorem dX9_look_97 : decode cX9_look 97 = .ok (.goto 4, 3) := by decide +kernel
theorem dX9_look_100 : decode cX9_look 100 = .ok (.iload_n 3, 1) := by decide +kernel
theorem dX9_look_101 : decode cX9_look 101 = .ok (.istore_n 3, 1) := by decide +kernel
theorem dX9_look_102 : decode cX9_look 102 = .ok (.iinc 4 1, 3) := by decide +kernel
theorem dX9_look_105 : decode cX9_look 105 = .ok (.goto (-97), 3) := by decide +kernel
theorem dX9_look_108 : decode cX9_look 108 = .ok (.iload_n 2, 1) := by decide +kernel
theorem dX9_look_109 : decode cX9_look 109 = .ok (.ireturn, 1) := by decide +kernel
theorem dX9_tellsSame_0 : decode cX9_tellsSame 0 = .ok (.iconst 1, 1) := by decide +kernel
theorem dX9_tellsSame_1 : decode cX9_tellsSame 1 = .ok (.istore_n 3, 1) := by decide +kernel
theorem dX9_tellsSame_2 : decode cX9_tellsSame 2 = .ok (.iconst 0, 1) := by decide +kernel
theorem dX9_tellsSame_3 : decode cX9_tellsSame 3 = .ok (.istore 4, 2) := by decide +kernel
theorem dX9_tellsSame_5 : decode cX9_tellsSame 5 = .ok (.iconst 0, 1) := by decide +kernel
theorem dX9_tellsSame_6 : decode cX9_tellsSame 6 = .ok (.istore 5, 2) := by decide +kernel
theorem dX9_tellsSame_8 : decode cX9_tellsSame 8 = .ok (.iconst 0, 1) := by decide +kernel
theorem dX9_tellsSame_9 : decode cX9_tellsSame 9 = .ok (.istore 6, 2) := by decide +kernel
theorem dX9_tellsSame_11 : decode cX9_tellsSame 11 = .ok (.iload 6, 2) := by decide +kernel
theorem dX9_tellsSame_13 : decode cX9_tellsSame 13 = .ok (.sipush 256, 3) := by decide +kernel
theorem dX9_tellsSame_16 : decode cX9_tellsSame 16 = .ok (.if_icmp .ge 17, 3) := by decide +kernel
theorem dX9_tellsSame_19 : decode cX9_tellsSame 19 = .ok (.aload_n 0, 1) := by decide +kernel
theorem dX9_tellsSame_20 : decode cX9_tellsSame 20 = .ok (.getfield 25, 3) := by decide +kernel
theorem dX9_tellsSame_23 : decode cX9_tellsSame 23 = .ok (.iload 6, 2) := by decide +kernel
theorem dX9_tellsSame_25 : decode cX9_tellsSame 25 = .ok (.iconst 0, 1) := by decide +kernel
theorem dX9_tellsSame_26 : decode cX9_tellsSame 26 = .ok (.iastore, 1) := by decide +kernel
theorem dX9_tellsSame_27 : decode cX9_tellsSame 27 = .ok (.iinc 6 1, 3) := by decide +kernel
theorem dX9_tellsSame_30 : decode cX9_tellsSame 30 = .ok (.goto (-19), 3) := by decide +kernel
theorem dX9_tellsSame_33 : decode cX9_tellsSame 33 = .ok (.iconst 0, 1) := by decide +kernel
theorem dX9_tellsSame_34 : decode cX9_tellsSame 34 = .ok (.istore 6, 2) := by decide +kernel
theorem dX9_tellsSame_36 : decode cX9_tellsSame 36 = .ok (.iload 6, 2) := by decide +kernel
theorem dX9_tellsSame_38 : decode cX9_tellsSame 38 = .ok (.aload_n 0, 1) := by decide +kernel
theorem dX9_tellsSame_39 : decode cX9_tellsSame 39 = .ok (.getfield 157, 3) := by decide +kernel
theorem dX9_tellsSame_42 : decode cX9_tellsSame 42 = .ok (.if_icmp .ge 208, 3) := by decide +kernel
theorem dX9_tellsSame_45 : decode cX9_tellsSame 45 = .ok (.lload_n 1, 1) := by decide +kernel
theorem dX9_tellsSame_46 : decode cX9_tellsSame 46 = .ok (.iload 6, 2) := by decide +kernel
theorem dX9_tellsSame_48 : decode cX9_tellsSame 48 = .ok (.lshr, 1) := by decide +kernel
theorem dX9_tellsSame_49 : decode cX9_tellsSame 49 = .ok (.lconst 1, 1) := by decide +kernel
theorem dX9_tellsSame_50 : decode cX9_tellsSame 50 = .ok (.land, 1) := by decide +kernel
theorem dX9_tellsSame_51 : decode cX9_tellsSame 51 = .ok (.lconst 1, 1) := by decide +kernel
theorem dX9_tellsSame_52 : decode cX9_tellsSame 52 = .ok (.lcmp, 1) := by decide +kernel
theorem dX9_tellsSame_53 : decode cX9_tellsSame 53 = .ok (.ifCond .ne 191, 3) := by decide +kernel
theorem dX9_tellsSame_56 : decode cX9_tellsSame 56 = .ok (.aload_n 0, 1) := by decide +kernel
theorem dX9_tellsSame_57 : decode cX9_tellsSame 57 = .ok (.aload_n 0, 1) := by decide +kernel
theorem dX9_tellsSame_58 : decode cX9_tellsSame 58 = .ok (.getfield 28, 3) := by decide +kernel
theorem dX9_tellsSame_61 : decode cX9_tellsSame 61 = .ok (.iload 6, 2) := by decide +kernel
theorem dX9_tellsSame_63 : decode cX9_tellsSame 63 = .ok (.iaload, 1) := by decide +kernel
theorem dX9_tellsSame_64 : decode cX9_tellsSame 64 = .ok (.invokevirtual 144, 3) := by decide +kernel
theorem dX9_tellsSame_67 : decode cX9_tellsSame 67 = .ok (.ifCond .eq 11, 3) := by decide +kernel
theorem dX9_tellsSame_70 : decode cX9_tellsSame 70 = .ok (.iload_n 3, 1) := by decide +kernel
theorem dX9_tellsSame_71 : decode cX9_tellsSame 71 = .ok (.ifCond .eq 7, 3) := by decide +kernel
theorem dX9_tellsSame_74 : decode cX9_tellsSame 74 = .ok (.iconst 1, 1) := by decide +kernel
theorem dX9_tellsSame_75 : decode cX9_tellsSame 75 = .ok (.goto 4, 3) := by decide +kernel
theorem dX9_tellsSame_78 : decode cX9_tellsSame 78 = .ok (.iconst 0, 1) := by decide +kernel
theorem dX9_tellsSame_79 : decode cX9_tellsSame 79 = .ok (.istore_n 3, 1) := by decide +kernel
theorem dX9_tellsSame_80 : decode cX9_tellsSame 80 = .ok (.iload 4, 2) := by decide +kernel
theorem dX9_tellsSame_82 : decode cX9_tellsSame 82 = .ok (.ifCond .ne 41, 3) := by decide +kernel
theorem dX9_tellsSame_85 : decode cX9_tellsSame 85 = .ok (.aload_n 0, 1) := by decide +kernel
theorem dX9_tellsSame_86 : decode cX9_tellsSame 86 = .ok (.getfield 113, 3) := by decide +kernel
theorem dX9_tellsSame_89 : decode cX9_tellsSame 89 = .ok (.istore 5, 2) := by decide +kernel
theorem dX9_tellsSame_91 : decode cX9_tellsSame 91 = .ok (.iconst 0, 1) := by decide +kernel
theorem dX9_tellsSame_92 : decode cX9_tellsSame 92 = .ok (.istore 7, 2) := by decide +kernel
theorem dX9_tellsSame_94 : decode cX9_tellsSame 94 = .ok (.iload 7, 2) := by decide +kernel
theorem dX9_tellsSame_96 : decode cX9_tellsSame 96 = .ok (.aload_n 0, 1) := by decide +kernel
theorem dX9_tellsSame_97 : decode cX9_tellsSame 97 = .ok (.getfield 113, 3) := by decide +kernel
theorem dX9_tellsSame_100 : decode cX9_tellsSame 100 = .ok (.if_icmp .ge 23, 3) := by decide +kernel
theorem dX9_tellsSame_103 : decode cX9_tellsSame 103 = .ok (.aload_n 0, 1) := by decide +kernel
theorem dX9_tellsSame_104 : decode cX9_tellsSame 104 = .ok (.getfield 38, 3) := by decide +kernel
theorem dX9_tellsSame_107 : decode cX9_tellsSame 107 = .ok (.iload 7, 2) := by decide +kernel
theorem dX9_tellsSame_109 : decode cX9_tellsSame 109 = .ok (.aload_n 0, 1) := by decide +kernel
theorem dX9_tellsSame_110 : decode cX9_tellsSame 110 = .ok (.getfield 19, 3) := by decide +kernel
theorem dX9_tellsSame_113 : decode cX9_tellsSame 113 = .ok (.iload 7, 2) := by decide +kernel
theorem dX9_tellsSame_115 : decode cX9_tellsSame 115 = .ok (.iaload, 1) := by decide +kernel
theorem dX9_tellsSame_116 : decode cX9_tellsSame 116 = .ok (.iastore, 1) := by decide +kernel
theorem dX9_tellsSame_117 : decode cX9_tellsSame 117 = .ok (.iinc 7 1, 3) := by decide +kernel
theorem dX9_tellsSame_120 : decode cX9_tellsSame 120 = .ok (.goto (-26), 3) := by decide +kernel
theorem dX9_tellsSame_123 : decode cX9_tellsSame 123 = .ok (.iload_n 3, 1) := by decide +kernel
theorem dX9_tellsSame_124 : decode cX9_tellsSame 124 = .ok (.ifCond .eq 16, 3) := by decide +kernel
theorem dX9_tellsSame_127 : decode cX9_tellsSame 127 = .ok (.aload_n 0, 1) := by decide +kernel
theorem dX9_tellsSame_128 : decode cX9_tellsSame 128 = .ok (.getfield 113, 3) := by decide +kernel
theorem dX9_tellsSame_131 : decode cX9_tellsSame 131 = .ok (.iload 5, 2) := by decide +kernel
theorem dX9_tellsSame_133 : decode cX9_tellsSame 133 = .ok (.if_icmp .ne 7, 3) := by decide +kernel
theorem dX9_tellsSame_136 : decode cX9_tellsSame 136 = .ok (.iconst 1, 1) := by decide +kernel
theorem dX9_tellsSame_137 : decode cX9_tellsSame 137 = .ok (.goto 4, 3) := by decide +kernel
theorem dX9_tellsSame_140 : decode cX9_tellsSame 140 = .ok (.iconst 0, 1) := by decide +kernel
theorem dX9_tellsSame_141 : decode cX9_tellsSame 141 = .ok (.istore_n 3, 1) := by decide +kernel
theorem dX9_tellsSame_142 : decode cX9_tellsSame 142 = .ok (.iconst 0, 1) := by decide +kernel
theorem dX9_tellsSame_143 : decode cX9_tellsSame 143 = .ok (.istore 7, 2) := by decide +kernel
theorem dX9_tellsSame_145 : decode cX9_tellsSame 145 = .ok (.iload 7, 2) := by decide +kernel
theorem dX9_tellsSame_147 : decode cX9_tellsSame 147 = .ok (.iload 5, 2) := by decide +kernel
theorem dX9_tellsSame_149 : decode cX9_tellsSame 149 = .ok (.if_icmp .ge 36, 3) := by decide +kernel
theorem dX9_tellsSame_152 : decode cX9_tellsSame 152 = .ok (.iload_n 3, 1) := by decide +kernel
theorem dX9_tellsSame_153 : decode cX9_tellsSame 153 = .ok (.ifCond .eq 32, 3) := by decide +kernel
theorem dX9_tellsSame_156 : decode cX9_tellsSame 156 = .ok (.aload_n 0, 1) := by decide +kernel
theorem dX9_tellsSame_157 : decode cX9_tellsSame 157 = .ok (.getfield 19, 3) := by decide +kernel
theorem dX9_tellsSame_160 : decode cX9_tellsSame 160 = .ok (.iload 7, 2) := by decide +kernel
theorem dX9_tellsSame_162 : decode cX9_tellsSame 162 = .ok (.iaload, 1) := by decide +kernel
theorem dX9_tellsSame_163 : decode cX9_tellsSame 163 = .ok (.aload_n 0, 1) := by decide +kernel
theorem dX9_tellsSame_164 : decode cX9_tellsSame 164 = .ok (.getfield 38, 3) := by decide +kernel
theorem dX9_tellsSame_167 : decode cX9_tellsSame 167 = .ok (.iload 7, 2) := by decide +kernel
theorem dX9_tellsSame_169 : decode cX9_tellsSame 169 = .ok (.iaload, 1) := by decide +kernel
theorem dX9_tellsSame_170 : decode cX9_tellsSame 170 = .ok (.if_icmp .ne 7, 3) := by decide +kernel
theorem dX9_tellsSame_173 : decode cX9_tellsSame 173 = .ok (.iconst 1, 1) := by decide +kernel
theorem dX9_tellsSame_174 : decode cX9_tellsSame 174 = .ok (.goto 4, 3) := by decide +kernel
theorem dX9_tellsSame_177 : decode cX9_tellsSame 177 = .ok (.iconst 0, 1) := by decide +kernel
theorem dX9_tellsSame_178 : decode cX9_tellsSame 178 = .ok (.istore_n 3, 1) := by decide +kernel
theorem dX9_tellsSame_179 : decode cX9_tellsSame 179 = .ok (.iinc 7 1, 3) := by decide +kernel
theorem dX9_tellsSame_182 : decode cX9_tellsSame 182 = .ok (.goto (-37), 3) := by decide +kernel
theorem dX9_tellsSame_185 : decode cX9_tellsSame 185 = .ok (.iconst 0, 1) := by decide +kernel
theorem dX9_tellsSame_186 : decode cX9_tellsSame 186 = .ok (.istore 7, 2) := by decide +kernel
theorem dX9_tellsSame_188 : decode cX9_tellsSame 188 = .ok (.iload 7, 2) := by decide +kernel
theorem dX9_tellsSame_190 : decode cX9_tellsSame 190 = .ok (.aload_n 0, 1) := by decide +kernel
theorem dX9_tellsSame_191 : decode cX9_tellsSame 191 = .ok (.getfield 7, 3) := by decide +kernel
theorem dX9_tellsSame_194 : decode cX9_tellsSame 194 = .ok (.iconst 0, 1) := by decide +kernel
theorem dX9_tellsSame_195 : decode cX9_tellsSame 195 = .ok (.iaload, 1) := by decide +kernel
theorem dX9_tellsSame_196 : decode cX9_tellsSame 196 = .ok (.if_icmp .ge 45, 3) := by decide +kernel
theorem dX9_tellsSame_199 : decode cX9_tellsSame 199 = .ok (.aload_n 0, 1) := by decide +kernel
theorem dX9_tellsSame_200 : decode cX9_tellsSame 200 = .ok (.getfield 25, 3) := by decide +kernel
theorem dX9_tellsSame_203 : decode cX9_tellsSame 203 = .ok (.bipush 32, 2) := by decide +kernel
theorem dX9_tellsSame_205 : decode cX9_tellsSame 205 = .ok (.iload 7, 2) := by decide +kernel
theorem dX9_tellsSame_207 : decode cX9_tellsSame 207 = .ok (.imul, 1) := by decide +kernel
theorem dX9_tellsSame_208 : decode cX9_tellsSame 208 = .ok (.aload_n 0, 1) := by decide +kernel
theorem dX9_tellsSame_209 : decode cX9_tellsSame 209 = .ok (.getfield 7, 3) := by decide +kernel
theorem dX9_tellsSame_212 : decode cX9_tellsSame 212 = .ok (.aload_n 0, 1) := by decide +kernel
theorem dX9_tellsSame_213 : decode cX9_tellsSame 213 = .ok (.iload 7, 2) := by decide +kernel
theorem dX9_tellsSame_215 : decode cX9_tellsSame 215 = .ok (.invokevirtual 79, 3) := by decide +kernel
theorem dX9_tellsSame_218 : decode cX9_tellsSame 218 = .ok (.iconst 1, 1) := by decide +kernel
theorem dX9_tellsSame_219 : decode cX9_tellsSame 219 = .ok (.iadd, 1) := by decide +kernel
theorem dX9_tellsSame_220 : decode cX9_tellsSame 220 = .ok (.aload_n 0, 1) := by decide +kernel
theorem dX9_tellsSame_221 : decode cX9_tellsSame 221 = .ok (.getfield 13, 3) := by decide +kernel
theorem dX9_tellsSame_224 : decode cX9_tellsSame 224 = .ok (.iload 7, 2) := by decide +kernel
theorem dX9_tellsSame_226 : decode cX9_tellsSame 226 = .ok (.iaload, 1) := by decide +kernel
theorem dX9_tellsSame_227 : decode cX9_tellsSame 227 = .ok (.iadd, 1) := by decide +kernel
theorem dX9_tellsSame_228 : decode cX9_tellsSame 228 = .ok (.iaload, 1) := by decide +kernel
theorem dX9_tellsSame_229 : decode cX9_tellsSame 229 = .ok (.iadd, 1) := by decide +kernel
theorem dX9_tellsSame_230 : decode cX9_tellsSame 230 = .ok (.dup2, 1) := by decide +kernel
theorem dX9_tellsSame_231 : decode cX9_tellsSame 231 = .ok (.iaload, 1) := by decide +kernel
theorem dX9_tellsSame_232 : decode cX9_tellsSame 232 = .ok (.iconst 1, 1) := by decide +kernel
theorem dX9_tellsSame_233 : decode cX9_tellsSame 233 = .ok (.iadd, 1) := by decide +kernel
theorem dX9_tellsSame_234 : decode cX9_tellsSame 234 = .ok (.iastore, 1) := by decide +kernel
theorem dX9_tellsSame_235 : decode cX9_tellsSame 235 = .ok (.iinc 7 1, 3) := by decide +kernel
theorem dX9_tellsSame_238 : decode cX9_tellsSame 238 = .ok (.goto (-50), 3) := by decide +kernel
theorem dX9_tellsSame_241 : decode cX9_tellsSame 241 = .ok (.iinc 4 1, 3) := by decide +kernel
theorem dX9_tellsSame_244 : decode cX9_tellsSame 244 = .ok (.iinc 6 1, 3) := by decide +kernel
theorem dX9_tellsSame_247 : decode cX9_tellsSame 247 = .ok (.goto (-211), 3) := by decide +kernel
theorem dX9_tellsSame_250 : decode cX9_tellsSame 250 = .ok (.aload_n 0, 1) := by decide +kernel
theorem dX9_tellsSame_251 : decode cX9_tellsSame 251 = .ok (.iload 4, 2) := by decide +kernel
theorem dX9_tellsSame_253 : decode cX9_tellsSame 253 = .ok (.putfield 166, 3) := by decide +kernel
theorem dX9_tellsSame_256 : decode cX9_tellsSame 256 = .ok (.iload_n 3, 1) := by decide +kernel
theorem dX9_tellsSame_257 : decode cX9_tellsSame 257 = .ok (.ireturn, 1) := by decide +kernel
theorem dX9_partOf_0 : decode cX9_partOf 0 = .ok (.lconst 0, 1) := by decide +kernel
theorem dX9_partOf_1 : decode cX9_partOf 1 = .ok (.lstore 5, 2) := by decide +kernel
theorem dX9_partOf_3 : decode cX9_partOf 3 = .ok (.iconst 0, 1) := by decide +kernel
theorem dX9_partOf_4 : decode cX9_partOf 4 = .ok (.istore 7, 2) := by decide +kernel
theorem dX9_partOf_6 : decode cX9_partOf 6 = .ok (.iload 7, 2) := by decide +kernel
theorem dX9_partOf_8 : decode cX9_partOf 8 = .ok (.aload_n 0, 1) := by decide +kernel
theorem dX9_partOf_9 : decode cX9_partOf 9 = .ok (.getfield 157, 3) := by decide +kernel
theorem dX9_partOf_12 : decode cX9_partOf 12 = .ok (.if_icmp .ge 83, 3) := by decide +kernel
theorem dX9_partOf_15 : decode cX9_partOf 15 = .ok (.lload_n 1, 1) := by decide +kernel
theorem dX9_partOf_16 : decode cX9_partOf 16 = .ok (.iload 7, 2) := by decide +kernel
theorem dX9_partOf_18 : decode cX9_partOf 18 = .ok (.lshr, 1) := by decide +kernel
theorem dX9_partOf_19 : decode cX9_partOf 19 = .ok (.lconst 1, 1) := by decide +kernel
theorem dX9_partOf_20 : decode cX9_partOf 20 = .ok (.land, 1) := by decide +kernel
theorem dX9_partOf_21 : decode cX9_partOf 21 = .ok (.lconst 1, 1) := by decide +kernel
theorem dX9_partOf_22 : decode cX9_partOf 22 = .ok (.lcmp, 1) := by decide +kernel
theorem dX9_partOf_23 : decode cX9_partOf 23 = .ok (.ifCond .ne 21, 3) := by decide +kernel
theorem dX9_partOf_26 : decode cX9_partOf 26 = .ok (.aload_n 0, 1) := by decide +kernel
theorem dX9_partOf_27 : decode cX9_partOf 27 = .ok (.aload_n 0, 1) := by decide +kernel
theorem dX9_partOf_28 : decode cX9_partOf 28 = .ok (.getfield 28, 3) := by decide +kernel
theorem dX9_partOf_31 : decode cX9_partOf 31 = .ok (.iload 7, 2) := by decide +kernel
theorem dX9_partOf_33 : decode cX9_partOf 33 = .ok (.iaload, 1) := by decide +kernel
theorem dX9_partOf_34 : decode cX9_partOf 34 = .ok (.invokevirtual 144, 3) := by decide +kernel
theorem dX9_partOf_37 : decode cX9_partOf 37 = .ok (.ifCond .eq 7, 3) := by decide +kernel
theorem dX9_partOf_40 : decode cX9_partOf 40 = .ok (.iconst 1, 1) := by decide +kernel
theorem dX9_partOf_41 : decode cX9_partOf 41 = .ok (.goto 4, 3) := by decide +kernel
theorem dX9_partOf_44 : decode cX9_partOf 44 = .ok (.iconst 0, 1) := by decide +kernel
theorem dX9_partOf_45 : decode cX9_partOf 45 = .ok (.istore 8, 2) := by decide +kernel
theorem dX9_partOf_47 : decode cX9_partOf 47 = .ok (.lload 5, 2) := by decide +kernel
theorem dX9_partOf_49 : decode cX9_partOf 49 = .ok (.iload 8, 2) := by decide +kernel
theorem dX9_partOf_51 : decode cX9_partOf 51 = .ok (.ifCond .eq 34, 3) := by decide +kernel
theorem dX9_partOf_54 : decode cX9_partOf 54 = .ok (.aload_n 0, 1) := by decide +kernel
theorem dX9_partOf_55 : decode cX9_partOf 55 = .ok (.getfield 7, 3) := by decide +kernel
theorem dX9_partOf_58 : decode cX9_partOf 58 = .ok (.aload_n 0, 1) := by decide +kernel
theorem dX9_partOf_59 : decode cX9_partOf 59 = .ok (.iload_n 3, 1) := by decide +kernel
theorem dX9_partOf_60 : decode cX9_partOf 60 = .ok (.invokevirtual 79, 3) := by decide +kernel
theorem dX9_partOf_63 : decode cX9_partOf 63 = .ok (.iconst 1, 1) := by decide +kernel
theorem dX9_partOf_64 : decode cX9_partOf 64 = .ok (.iadd, 1) := by decide +kernel
theorem dX9_partOf_65 : decode cX9_partOf 65 = .ok (.aload_n 0, 1) := by decide +kernel
theorem dX9_partOf_66 : decode cX9_partOf 66 = .ok (.getfield 13, 3) := by decide +kernel
theorem dX9_partOf_69 : decode cX9_partOf 69 = .ok (.iload_n 3, 1) := by decide +kernel
theorem dX9_partOf_70 : decode cX9_partOf 70 = .ok (.iaload, 1) := by decide +kernel
theorem dX9_partOf_71 : decode cX9_partOf 71 = .ok (.iadd, 1) := by decide +kernel
theorem dX9_partOf_72 : decode cX9_partOf 72 = .ok (.iaload, 1) := by decide +kernel
theorem dX9_partOf_73 : decode cX9_partOf 73 = .ok (.iload 4, 2) := by decide +kernel
theorem dX9_partOf_75 : decode cX9_partOf 75 = .ok (.if_icmp .ne 10, 3) := by decide +kernel
theorem dX9_partOf_78 : decode cX9_partOf 78 = .ok (.lconst 1, 1) := by decide +kernel
theorem dX9_partOf_79 : decode cX9_partOf 79 = .ok (.iload 7, 2) := by decide +kernel
theorem dX9_partOf_81 : decode cX9_partOf 81 = .ok (.lshl, 1) := by decide +kernel
theorem dX9_partOf_82 : decode cX9_partOf 82 = .ok (.goto 4, 3) := by decide +kernel
theorem dX9_partOf_85 : decode cX9_partOf 85 = .ok (.lconst 0, 1) := by decide +kernel
theorem dX9_partOf_86 : decode cX9_partOf 86 = .ok (.lor, 1) := by decide +kernel
theorem dX9_partOf_87 : decode cX9_partOf 87 = .ok (.lstore 5, 2) := by decide +kernel
theorem dX9_partOf_89 : decode cX9_partOf 89 = .ok (.iinc 7 1, 3) := by decide +kernel
theorem dX9_partOf_92 : decode cX9_partOf 92 = .ok (.goto (-86), 3) := by decide +kernel
theorem dX9_partOf_95 : decode cX9_partOf 95 = .ok (.lload 5, 2) := by decide +kernel
theorem dX9_partOf_97 : decode cX9_partOf 97 = .ok (.lreturn, 1) := by decide +kernel
theorem dX9_questions_0 : decode cX9_questions 0 = .ok (.aload_n 0, 1) := by decide +kernel
theorem dX9_questions_1 : decode cX9_questions 1 = .ok (.invokevirtual 169, 3) := by decide +kernel
theorem dX9_questions_4 : decode cX9_questions 4 = .ok (.aload_n 0, 1) := by decide +kernel
theorem dX9_questions_5 : decode cX9_questions 5 = .ok (.getfield 157, 3) := by decide +kernel
theorem dX9_questions_8 : decode cX9_questions 8 = .ok (.ifCond .eq 12, 3) := by decide +kernel
theorem dX9_questions_11 : decode cX9_questions 11 = .ok (.aload_n 0, 1) := by decide +kernel
theorem dX9_questions_12 : decode cX9_questions 12 = .ok (.getfield 157, 3) := by decide +kernel
theorem dX9_questions_15 : decode cX9_questions 15 = .ok (.bipush 60, 2) := by decide +kernel
theorem dX9_questions_17 : decode cX9_questions 17 = .ok (.if_icmp .le 6, 3) := by decide +kernel
theorem dX9_questions_20 : decode cX9_questions 20 = .ok (.bipush (-4), 2) := by decide +kernel
theorem dX9_questions_22 : decode cX9_questions 22 = .ok (.ireturn, 1) := by decide +kernel
theorem dX9_questions_23 : decode cX9_questions 23 = .ok (.iconst 0, 1) := by decide +kernel
theorem dX9_questions_24 : decode cX9_questions 24 = .ok (.istore_n 1, 1) := by decide +kernel
theorem dX9_questions_25 : decode cX9_questions 25 = .ok (.iconst 1, 1) := by decide +kernel
theorem dX9_questions_26 : decode cX9_questions 26 = .ok (.istore_n 2, 1) := by decide +kernel
theorem dX9_questions_27 : decode cX9_questions 27 = .ok (.aload_n 0, 1) := by decide +kernel
theorem dX9_questions_28 : decode cX9_questions 28 = .ok (.getfield 31, 3) := by decide +kernel
theorem dX9_questions_31 : decode cX9_questions 31 = .ok (.iconst 0, 1) := by decide +kernel
theorem dX9_questions_32 : decode cX9_questions 32 = .ok (.lconst 1, 1) := by decide +kernel
theorem dX9_questions_33 : decode cX9_questions 33 = .ok (.aload_n 0, 1) := by decide +kernel
theorem dX9_questions_34 : decode cX9_questions 34 = .ok (.getfield 157, 3) := by decide +kernel
theorem dX9_questions_37 : decode cX9_questions 37 = .ok (.lshl, 1) := by decide +kernel
theorem dX9_questions_38 : decode cX9_questions 38 = .ok (.lconst 1, 1) := by decide +kernel
theorem dX9_questions_39 : decode cX9_questions 39 = .ok (.lsub, 1) := by decide +kernel
theorem dX9_questions_40 : decode cX9_questions 40 = .ok (.lastore, 1) := by decide +kernel
theorem dX9_questions_41 : decode cX9_questions 41 = .ok (.aload_n 0, 1) := by decide +kernel
theorem dX9_questions_42 : decode cX9_questions 42 = .ok (.getfield 35, 3) := by decide +kernel
theorem dX9_questions_45 : decode cX9_questions 45 = .ok (.iconst 0, 1) := by decide +kernel
theorem dX9_questions_46 : decode cX9_questions 46 = .ok (.iconst 0, 1) := by decide +kernel
theorem dX9_questions_47 : decode cX9_questions 47 = .ok (.iastore, 1) := by decide +kernel
theorem dX9_questions_48 : decode cX9_questions 48 = .ok (.iload_n 2, 1) := by decide +kernel
theorem dX9_questions_49 : decode cX9_questions 49 = .ok (.ifCond .le 149, 3) := by decide +kernel
theorem dX9_questions_52 : decode cX9_questions 52 = .ok (.iinc 2 (-1), 3) := by decide +kernel
theorem dX9_questions_55 : decode cX9_questions 55 = .ok (.aload_n 0, 1) := by decide +kernel
theorem dX9_questions_56 : decode cX9_questions 56 = .ok (.getfield 31, 3) := by decide +kernel
theorem dX9_questions_59 : decode cX9_questions 59 = .ok (.iload_n 2, 1) := by decide +kernel
theorem dX9_questions_60 : decode cX9_questions 60 = .ok (.laload, 1) := by decide +kernel
theorem dX9_questions_61 : decode cX9_questions 61 = .ok (.lstore_n 3, 1) := by decide +kernel
theorem dX9_questions_62 : decode cX9_questions 62 = .ok (.aload_n 0, 1) := by decide +kernel
theorem dX9_questions_63 : decode cX9_questions 63 = .ok (.getfield 35, 3) := by decide +kernel
theorem dX9_questions_66 : decode cX9_questions 66 = .ok (.iload_n 2, 1) := by decide +kernel
theorem dX9_questions_67 : decode cX9_questions 67 = .ok (.iaload, 1) := by decide +kernel
theorem dX9_questions_68 : decode cX9_questions 68 = .ok (.istore 5, 2) := by decide +kernel
theorem dX9_questions_70 : decode cX9_questions 70 = .ok (.aload_n 0, 1) := by decide +kernel
theorem dX9_questions_71 : decode cX9_questions 71 = .ok (.lload_n 3, 1) := by decide +kernel
theorem dX9_questions_72 : decode cX9_questions 72 = .ok (.invokevirtual 172, 3) := by decide +kernel
theorem dX9_questions_75 : decode cX9_questions 75 = .ok (.istore 6, 2) := by decide +kernel
theorem dX9_questions_77 : decode cX9_questions 77 = .ok (.iload 6, 2) := by decide +kernel
theorem dX9_questions_79 : decode cX9_questions 79 = .ok (.ifCond .eq 8, 3) := by decide +kernel
theorem dX9_questions_82 : decode cX9_questions 82 = .ok (.bipush (-4), 2) := by decide +kernel
theorem dX9_questions_84 : decode cX9_questions 84 = .ok (.goto 11, 3) := by decide +kernel
theorem dX9_questions_87 : decode cX9_questions 87 = .ok (.aload_n 0, 1) := by decide +kernel
theorem dX9_questions_88 : decode cX9_questions 88 = .ok (.aload_n 0, 1) := by decide +kernel
theorem dX9_questions_89 : decode cX9_questions 89 = .ok (.getfield 166, 3) := by decide +kernel
theorem dX9_questions_92 : decode cX9_questions 92 = .ok (.invokevirtual 176, 3) := by decide +kernel
theorem dX9_questions_95 : decode cX9_questions 95 = .ok (.istore 7, 2) := by decide +kernel
theorem dX9_questions_97 : decode cX9_questions 97 = .ok (.iload 5, 2) := by decide +kernel
theorem dX9_questions_99 : decode cX9_questions 99 = .ok (.iload_n 1, 1) := by decide +kernel
theorem dX9_questions_100 : decode cX9_questions 100 = .ok (.if_icmp .le 8, 3) := by decide +kernel
theorem dX9_questions_103 : decode cX9_questions 103 = .ok (.iload 5, 2) := by decide +kernel
theorem dX9_questions_105 : decode cX9_questions 105 = .ok (.goto 4, 3) := by decide +kernel
theorem dX9_questions_108 : decode cX9_questions 108 = .ok (.iload_n 1, 1) := by decide +kernel
theorem dX9_questions_109 : decode cX9_questions 109 = .ok (.istore_n 1, 1) := by decide +kernel
theorem dX9_questions_110 : decode cX9_questions 110 = .ok (.iconst 0, 1) := by decide +kernel
theorem dX9_questions_111 : decode cX9_questions 111 = .ok (.istore 8, 2) := by decide +kernel
theorem dX9_questions_113 : decode cX9_questions 113 = .ok (.iload 7, 2) := by decide +kernel
theorem dX9_questions_115 : decode cX9_questions 115 = .ok (.bipush (-4), 2) := by decide +kernel
theorem dX9_questions_117 : decode cX9_questions 117 = .ok (.if_icmp .eq 78, 3) := by decide +kernel
theorem dX9_questions_120 : decode cX9_questions 120 = .ok (.iload 8, 2) := by decide +kernel
theorem dX9_questions_122 : decode cX9_questions 122 = .ok (.aload_n 0, 1) := by decide +kernel
theorem dX9_questions_123 : decode cX9_questions 123 = .ok (.getfield 7, 3) := by decide +kernel
theorem dX9_questions_126 : decode cX9_questions 126 = .ok (.aload_n 0, 1) := by decide +kernel
theorem dX9_questions_127 : decode cX9_questions 127 = .ok (.iload 7, 2) := by decide +kernel
theorem dX9_questions_129 : decode cX9_questions 129 = .ok (.invokevirtual 79, 3) := by decide +kernel
theorem dX9_questions_132 : decode cX9_questions 132 = .ok (.iaload, 1) := by decide +kernel
theorem dX9_questions_133 : decode cX9_questions 133 = .ok (.if_icmp .ge 62, 3) := by decide +kernel
theorem dX9_questions_136 : decode cX9_questions 136 = .ok (.aload_n 0, 1) := by decide +kernel
theorem dX9_questions_137 : decode cX9_questions 137 = .ok (.lload_n 3, 1) := by decide +kernel
theorem dX9_questions_138 : decode cX9_questions 138 = .ok (.iload 7, 2) := by decide +kernel
theorem dX9_questions_140 : decode cX9_questions 140 = .ok (.aload_n 0, 1) := by decide +kernel
theorem dX9_questions_141 : decode cX9_questions 141 = .ok (.getfield 7, 3) := by decide +kernel
theorem dX9_questions_144 : decode cX9_questions 144 = .ok (.aload_n 0, 1) := by decide +kernel
theorem dX9_questions_145 : decode cX9_questions 145 = .ok (.iload 7, 2) := by decide +kernel
theorem dX9_questions_147 : decode cX9_questions 147 = .ok (.invokevirtual 79, 3) := by decide +kernel
theorem dX9_questions_150 : decode cX9_questions 150 = .ok (.iconst 1, 1) := by decide +kernel
theorem dX9_questions_151 : decode cX9_questions 151 = .ok (.iadd, 1) := by decide +kernel
theorem dX9_questions_152 : decode cX9_questions 152 = .ok (.iload 8, 2) := by decide +kernel
theorem dX9_questions_154 : decode cX9_questions 154 = .ok (.iadd, 1) := by decide +kernel
theorem dX9_questions_155 : decode cX9_questions 155 = .ok (.iaload, 1) := by decide +kernel
theorem dX9_questions_156 : decode cX9_questions 156 = .ok (.invokevirtual 179, 3) := by decide +kernel
theorem dX9_questions_159 : decode cX9_questions 159 = .ok (.lstore 9, 2) := by decide +kernel
theorem dX9_questions_161 : decode cX9_questions 161 = .ok (.lload 9, 2) := by decide +kernel
theorem dX9_questions_163 : decode cX9_questions 163 = .ok (.lconst 0, 1) := by decide +kernel
theorem dX9_questions_164 : decode cX9_questions 164 = .ok (.lcmp, 1) := by decide +kernel
theorem dX9_questions_165 : decode cX9_questions 165 = .ok (.ifCond .eq 24, 3) := by decide +kernel
theorem dX9_questions_168 : decode cX9_questions 168 = .ok (.aload_n 0, 1) := by decide +kernel
theorem dX9_questions_169 : decode cX9_questions 169 = .ok (.getfield 31, 3) := by decide +kernel
theorem dX9_questions_172 : decode cX9_questions 172 = .ok (.iload_n 2, 1) := by decide +kernel
theorem dX9_questions_173 : decode cX9_questions 173 = .ok (.lload 9, 2) := by decide +kernel
theorem dX9_questions_175 : decode cX9_questions 175 = .ok (.lastore, 1) := by decide +kernel
theorem dX9_questions_176 : decode cX9_questions 176 = .ok (.aload_n 0, 1) := by decide +kernel
theorem dX9_questions_177 : decode cX9_questions 177 = .ok (.getfield 35, 3) := by decide +kernel
theorem dX9_questions_180 : decode cX9_questions 180 = .ok (.iload_n 2, 1) := by decide +kernel
theorem dX9_questions_181 : decode cX9_questions 181 = .ok (.iload 5, 2) := by decide +kernel
theorem dX9_questions_183 : decode cX9_questions 183 = .ok (.iconst 1, 1) := by decide +kernel
theorem dX9_questions_184 : decode cX9_questions 184 = .ok (.iadd, 1) := by decide +kernel
theorem dX9_questions_185 : decode cX9_questions 185 = .ok (.iastore, 1) := by decide +kernel
theorem dX9_questions_186 : decode cX9_questions 186 = .ok (.iinc 2 1, 3) := by decide +kernel
theorem dX9_questions_189 : decode cX9_questions 189 = .ok (.iinc 8 1, 3) := by decide +kernel
theorem dX9_questions_192 : decode cX9_questions 192 = .ok (.goto (-79), 3) := by decide +kernel
theorem dX9_questions_195 : decode cX9_questions 195 = .ok (.goto (-147), 3) := by decide +kernel
theorem dX9_questions_198 : decode cX9_questions 198 = .ok (.iload_n 1, 1) := by decide +kernel
theorem dX9_questions_199 : decode cX9_questions 199 = .ok (.ireturn, 1) := by decide +kernel
theorem dX9_spoilt_0 : decode cX9_spoilt 0 = .ok (.aload_n 0, 1) := by decide +kernel
theorem dX9_spoilt_1 : decode cX9_spoilt 1 = .ok (.invokevirtual 154, 3) := by decide +kernel
theorem dX9_spoilt_4 : decode cX9_spoilt 4 = .ok (.aload_n 0, 1) := by decide +kernel
theorem dX9_spoilt_5 : decode cX9_spoilt 5 = .ok (.getfield 135, 3) := by decide +kernel
theorem dX9_spoilt_8 : decode cX9_spoilt 8 = .ok (.bipush (-4), 2) := by decide +kernel
theorem dX9_spoilt_10 : decode cX9_spoilt 10 = .ok (.if_icmp .ne 6, 3) := by decide +kernel
theorem dX9_spoilt_13 : decode cX9_spoilt 13 = .ok (.bipush (-4), 2) := by decide +kernel
theorem dX9_spoilt_15 : decode cX9_spoilt 15 = .ok (.ireturn, 1) := by decide +kernel
theorem dX9_spoilt_16 : decode cX9_spoilt 16 = .ok (.iconst 0, 1) := by decide +kernel
theorem dX9_spoilt_17 : decode cX9_spoilt 17 = .ok (.istore_n 1, 1) := by decide +kernel
theorem dX9_spoilt_18 : decode cX9_spoilt 18 = .ok (.iconst 0, 1) := by decide +kernel
theorem dX9_spoilt_19 : decode cX9_spoilt 19 = .ok (.istore_n 2, 1) := by decide +kernel
theorem dX9_spoilt_20 : decode cX9_spoilt 20 = .ok (.iload_n 2, 1) := by decide +kernel
theorem dX9_spoilt_21 : decode cX9_spoilt 21 = .ok (.aload_n 0, 1) := by decide +kernel
theorem dX9_spoilt_22 : decode cX9_spoilt 22 = .ok (.getfield 7, 3) := by decide +kernel
theorem dX9_spoilt_25 : decode cX9_spoilt 25 = .ok (.iconst 0, 1) := by decide +kernel
theorem dX9_spoilt_26 : decode cX9_spoilt 26 = .ok (.iaload, 1) := by decide +kernel
theorem dX9_spoilt_27 : decode cX9_spoilt 27 = .ok (.if_icmp .ge 97, 3) := by decide +kernel
theorem dX9_spoilt_30 : decode cX9_spoilt 30 = .ok (.iconst 0, 1) := by decide +kernel
theorem dX9_spoilt_31 : decode cX9_spoilt 31 = .ok (.istore_n 3, 1) := by decide +kernel
theorem dX9_spoilt_32 : decode cX9_spoilt 32 = .ok (.iload_n 3, 1) := by decide +kernel
theorem dX9_spoilt_33 : decode cX9_spoilt 33 = .ok (.aload_n 0, 1) := by decide +kernel
theorem dX9_spoilt_34 : decode cX9_spoilt 34 = .ok (.getfield 7, 3) := by decide +kernel
theorem dX9_spoilt_37 : decode cX9_spoilt 37 = .ok (.aload_n 0, 1) := by decide +kernel
theorem dX9_spoilt_38 : decode cX9_spoilt 38 = .ok (.iload_n 2, 1) := by decide +kernel
theorem dX9_spoilt_39 : decode cX9_spoilt 39 = .ok (.invokevirtual 79, 3) := by decide +kernel
theorem dX9_spoilt_42 : decode cX9_spoilt 42 = .ok (.iaload, 1) := by decide +kernel
theorem dX9_spoilt_43 : decode cX9_spoilt 43 = .ok (.if_icmp .ge 75, 3) := by decide +kernel
theorem dX9_spoilt_46 : decode cX9_spoilt 46 = .ok (.aload_n 0, 1) := by decide +kernel
theorem dX9_spoilt_47 : decode cX9_spoilt 47 = .ok (.aload_n 0, 1) := by decide +kernel
theorem dX9_spoilt_48 : decode cX9_spoilt 48 = .ok (.getfield 135, 3) := by decide +kernel
theorem dX9_spoilt_51 : decode cX9_spoilt 51 = .ok (.invokevirtual 144, 3) := by decide +kernel
theorem dX9_spoilt_54 : decode cX9_spoilt 54 = .ok (.istore 4, 2) := by decide +kernel
theorem dX9_spoilt_56 : decode cX9_spoilt 56 = .ok (.aload_n 0, 1) := by decide +kernel
theorem dX9_spoilt_57 : decode cX9_spoilt 57 = .ok (.getfield 13, 3) := by decide +kernel
theorem dX9_spoilt_60 : decode cX9_spoilt 60 = .ok (.iload_n 2, 1) := by decide +kernel
theorem dX9_spoilt_61 : decode cX9_spoilt 61 = .ok (.iaload, 1) := by decide +kernel
theorem dX9_spoilt_62 : decode cX9_spoilt 62 = .ok (.iload_n 3, 1) := by decide +kernel
theorem dX9_spoilt_63 : decode cX9_spoilt 63 = .ok (.if_icmp .eq 7, 3) := by decide +kernel
theorem dX9_spoilt_66 : decode cX9_spoilt 66 = .ok (.iconst 1, 1) := by decide +kernel
theorem dX9_spoilt_67 : decode cX9_spoilt 67 = .ok (.goto 4, 3) := by decide +kernel
theorem dX9_spoilt_70 : decode cX9_spoilt 70 = .ok (.iconst 0, 1) := by decide +kernel
theorem dX9_spoilt_71 : decode cX9_spoilt 71 = .ok (.istore 5, 2) := by decide +kernel
theorem dX9_spoilt_73 : decode cX9_spoilt 73 = .ok (.aload_n 0, 1) := by decide +kernel
theorem dX9_spoilt_74 : decode cX9_spoilt 74 = .ok (.getfield 13, 3) := by decide +kernel
theorem dX9_spoilt_77 : decode cX9_spoilt 77 = .ok (.iload_n 2, 1) := by decide +kernel
theorem dX9_spoilt_78 : decode cX9_spoilt 78 = .ok (.iload_n 3, 1) := by decide +kernel
theorem dX9_spoilt_79 : decode cX9_spoilt 79 = .ok (.iastore, 1) := by decide +kernel
theorem dX9_spoilt_80 : decode cX9_spoilt 80 = .ok (.iload_n 1, 1) := by decide +kernel
theorem dX9_spoilt_81 : decode cX9_spoilt 81 = .ok (.iload 4, 2) := by decide +kernel
theorem dX9_spoilt_83 : decode cX9_spoilt 83 = .ok (.ifCond .eq 26, 3) := by decide +kernel
theorem dX9_spoilt_86 : decode cX9_spoilt 86 = .ok (.iload 5, 2) := by decide +kernel
theorem dX9_spoilt_88 : decode cX9_spoilt 88 = .ok (.ifCond .eq 21, 3) := by decide +kernel
theorem dX9_spoilt_91 : decode cX9_spoilt 91 = .ok (.aload_n 0, 1) := by decide +kernel
theorem dX9_spoilt_92 : decode cX9_spoilt 92 = .ok (.invokevirtual 119, 3) := by decide +kernel
theorem dX9_spoilt_95 : decode cX9_spoilt 95 = .ok (.ifCond .eq 14, 3) := by decide +kernel
theorem dX9_spoilt_98 : decode cX9_spoilt 98 = .ok (.aload_n 0, 1) := by decide +kernel
theorem dX9_spoilt_99 : decode cX9_spoilt 99 = .ok (.invokevirtual 148, 3) := by decide +kernel
theorem dX9_spoilt_102 : decode cX9_spoilt 102 = .ok (.ifCond .ne 7, 3) := by decide +kernel
theorem dX9_spoilt_105 : decode cX9_spoilt 105 = .ok (.iconst 1, 1) := by decide +kernel
theorem dX9_spoilt_106 : decode cX9_spoilt 106 = .ok (.goto 4, 3) := by decide +kernel
theorem dX9_spoilt_109 : decode cX9_spoilt 109 = .ok (.iconst 0, 1) := by decide +kernel
theorem dX9_spoilt_110 : decode cX9_spoilt 110 = .ok (.iadd, 1) := by decide +kernel
theorem dX9_spoilt_111 : decode cX9_spoilt 111 = .ok (.istore_n 1, 1) := by decide +kernel
theorem dX9_spoilt_112 : decode cX9_spoilt 112 = .ok (.iinc 3 1, 3) := by decide +kernel
theorem dX9_spoilt_115 : decode cX9_spoilt 115 = .ok (.goto (-83), 3) := by decide +kernel
theorem dX9_spoilt_118 : decode cX9_spoilt 118 = .ok (.iinc 2 1, 3) := by decide +kernel
theorem dX9_spoilt_121 : decode cX9_spoilt 121 = .ok (.goto (-101), 3) := by decide +kernel
theorem dX9_spoilt_124 : decode cX9_spoilt 124 = .ok (.iload_n 1, 1) := by decide +kernel
theorem dX9_spoilt_125 : decode cX9_spoilt 125 = .ok (.ireturn, 1) := by decide +kernel
theorem dX9_slot_0 : decode cX9_slot 0 = .ok (.aload_n 0, 1) := by decide +kernel
theorem dX9_slot_1 : decode cX9_slot 1 = .ok (.iload_n 1, 1) := by decide +kernel
theorem dX9_slot_2 : decode cX9_slot 2 = .ok (.invokevirtual 183, 3) := by decide +kernel
theorem dX9_slot_5 : decode cX9_slot 5 = .ok (.ifCond .eq 18, 3) := by decide +kernel
theorem dX9_slot_8 : decode cX9_slot 8 = .ok (.iload_n 2, 1) := by decide +kernel
theorem dX9_slot_9 : decode cX9_slot 9 = .ok (.iconst (-1), 1) := by decide +kernel
theorem dX9_slot_10 : decode cX9_slot 10 = .ok (.if_icmp .lt 13, 3) := by decide +kernel
theorem dX9_slot_13 : decode cX9_slot 13 = .ok (.iload_n 3, 1) := by decide +kernel
theorem dX9_slot_14 : decode cX9_slot 14 = .ok (.i2l, 1) := by decide +kernel
theorem dX9_slot_15 : decode cX9_slot 15 = .ok (.lconst 0, 1) := by decide +kernel
theorem dX9_slot_16 : decode cX9_slot 16 = .ok (.lconst 1, 1) := by decide +kernel
theorem dX9_slot_17 : decode cX9_slot 17 = .ok (.invokestatic 75, 3) := by decide +kernel
theorem dX9_slot_20 : decode cX9_slot 20 = .ok (.ifCond .ne 5, 3) := by decide +kernel
theorem dX9_slot_23 : decode cX9_slot 23 = .ok (.iconst (-1), 1) := by decide +kernel
theorem dX9_slot_24 : decode cX9_slot 24 = .ok (.ireturn, 1) := by decide +kernel
theorem dX9_slot_25 : decode cX9_slot 25 = .ok (.iload_n 2, 1) := by decide +kernel
theorem dX9_slot_26 : decode cX9_slot 26 = .ok (.iconst (-1), 1) := by decide +kernel
theorem dX9_slot_27 : decode cX9_slot 27 = .ok (.if_icmp .ne 16, 3) := by decide +kernel
theorem dX9_slot_30 : decode cX9_slot 30 = .ok (.aload_n 0, 1) := by decide +kernel
theorem dX9_slot_31 : decode cX9_slot 31 = .ok (.getfield 7, 3) := by decide +kernel
theorem dX9_slot_34 : decode cX9_slot 34 = .ok (.aload_n 0, 1) := by decide +kernel
theorem dX9_slot_35 : decode cX9_slot 35 = .ok (.iload_n 1, 1) := by decide +kernel
theorem dX9_slot_36 : decode cX9_slot 36 = .ok (.invokevirtual 79, 3) := by decide +kernel
theorem dX9_slot_39 : decode cX9_slot 39 = .ok (.iaload, 1) := by decide +kernel
theorem dX9_slot_40 : decode cX9_slot 40 = .ok (.goto 40, 3) := by decide +kernel
theorem dX9_slot_43 : decode cX9_slot 43 = .ok (.iload_n 2, 1) := by decide +kernel
theorem dX9_slot_44 : decode cX9_slot 44 = .ok (.aload_n 0, 1) := by decide +kernel
theorem dX9_slot_45 : decode cX9_slot 45 = .ok (.getfield 7, 3) := by decide +kernel
theorem dX9_slot_48 : decode cX9_slot 48 = .ok (.aload_n 0, 1) := by decide +kernel
theorem dX9_slot_49 : decode cX9_slot 49 = .ok (.iload_n 1, 1) := by decide +kernel
theorem dX9_slot_50 : decode cX9_slot 50 = .ok (.invokevirtual 79, 3) := by decide +kernel
theorem dX9_slot_53 : decode cX9_slot 53 = .ok (.iaload, 1) := by decide +kernel
theorem dX9_slot_54 : decode cX9_slot 54 = .ok (.if_icmp .ge 24, 3) := by decide +kernel
theorem dX9_slot_57 : decode cX9_slot 57 = .ok (.aload_n 0, 1) := by decide +kernel
theorem dX9_slot_58 : decode cX9_slot 58 = .ok (.getfield 7, 3) := by decide +kernel
theorem dX9_slot_61 : decode cX9_slot 61 = .ok (.aload_n 0, 1) := by decide +kernel
theorem dX9_slot_62 : decode cX9_slot 62 = .ok (.iload_n 1, 1) := by decide +kernel
theorem dX9_slot_63 : decode cX9_slot 63 = .ok (.invokevirtual 79, 3) := by decide +kernel
theorem dX9_slot_66 : decode cX9_slot 66 = .ok (.iconst 1, 1) := by decide +kernel
theorem dX9_slot_67 : decode cX9_slot 67 = .ok (.iadd, 1) := by decide +kernel
theorem dX9_slot_68 : decode cX9_slot 68 = .ok (.iconst 4, 1) := by decide +kernel
theorem dX9_slot_69 : decode cX9_slot 69 = .ok (.iload_n 3, 1) := by decide +kernel
theorem dX9_slot_70 : decode cX9_slot 70 = .ok (.imul, 1) := by decide +kernel
theorem dX9_slot_71 : decode cX9_slot 71 = .ok (.iadd, 1) := by decide +kernel
theorem dX9_slot_72 : decode cX9_slot 72 = .ok (.iload_n 2, 1) := by decide +kernel
theorem dX9_slot_73 : decode cX9_slot 73 = .ok (.iadd, 1) := by decide +kernel
theorem dX9_slot_74 : decode cX9_slot 74 = .ok (.iaload, 1) := by decide +kernel
theorem dX9_slot_75 : decode cX9_slot 75 = .ok (.goto 5, 3) := by decide +kernel
theorem dX9_slot_78 : decode cX9_slot 78 = .ok (.bipush (-4), 2) := by decide +kernel
theorem dX9_slot_80 : decode cX9_slot 80 = .ok (.ireturn, 1) := by decide +kernel
theorem dX9_count_0 : decode cX9_count 0 = .ok (.iload_n 1, 1) := by decide +kernel
theorem dX9_count_1 : decode cX9_count 1 = .ok (.tableswitch 159 0 10 #[59, 66, 73, 80, 89, 98, 107, 120, 125, 149, 154], 59) := by decide +kernel
theorem dX9_count_60 : decode cX9_count 60 = .ok (.aload_n 0, 1) := by decide +kernel
theorem dX9_count_61 : decode cX9_count 61 = .ok (.getfield 7, 3) := by decide +kernel
theorem dX9_count_64 : decode cX9_count 64 = .ok (.iconst 0, 1) := by decide +kernel
theorem dX9_count_65 : decode cX9_count 65 = .ok (.iaload, 1) := by decide +kernel
theorem dX9_count_66 : decode cX9_count 66 = .ok (.ireturn, 1) := by decide +kernel
theorem dX9_count_67 : decode cX9_count 67 = .ok (.aload_n 0, 1) := by decide +kernel
theorem dX9_count_68 : decode cX9_count 68 = .ok (.getfield 7, 3) := by decide +kernel
theorem dX9_count_71 : decode cX9_count 71 = .ok (.iconst 1, 1) := by decide +kernel
theorem dX9_count_72 : decode cX9_count 72 = .ok (.iaload, 1) := by decide +kernel
theorem dX9_count_73 : decode cX9_count 73 = .ok (.ireturn, 1) := by decide +kernel
theorem dX9_count_74 : decode cX9_count 74 = .ok (.aload_n 0, 1) := by decide +kernel
theorem dX9_count_75 : decode cX9_count 75 = .ok (.getfield 7, 3) := by decide +kernel
theorem dX9_count_78 : decode cX9_count 78 = .ok (.iconst 2, 1) := by decide +kernel
theorem dX9_count_79 : decode cX9_count 79 = .ok (.iaload, 1) := by decide +kernel
theorem dX9_count_80 : decode cX9_count 80 = .ok (.ireturn, 1) := by decide +kernel
theorem dX9_count_81 : decode cX9_count 81 = .ok (.aload_n 0, 1) := by decide +kernel
theorem dX9_count_82 : decode cX9_count 82 = .ok (.invokevirtual 154, 3) := by decide +kernel
theorem dX9_count_85 : decode cX9_count 85 = .ok (.aload_n 0, 1) := by decide +kernel
theorem dX9_count_86 : decode cX9_count 86 = .ok (.getfield 129, 3) := by decide +kernel
theorem dX9_count_89 : decode cX9_count 89 = .ok (.ireturn, 1) := by decide +kernel
theorem dX9_count_90 : decode cX9_count 90 = .ok (.aload_n 0, 1) := by decide +kernel
theorem dX9_count_91 : decode cX9_count 91 = .ok (.invokevirtual 154, 3) := by decide +kernel
theorem dX9_count_94 : decode cX9_count 94 = .ok (.aload_n 0, 1) := by decide +kernel
theorem dX9_count_95 : decode cX9_count 95 = .ok (.getfield 132, 3) := by decide +kernel
theorem dX9_count_98 : decode cX9_count 98 = .ok (.ireturn, 1) := by decide +kernel
theorem dX9_count_99 : decode cX9_count 99 = .ok (.aload_n 0, 1) := by decide +kernel
theorem dX9_count_100 : decode cX9_count 100 = .ok (.invokevirtual 169, 3) := by decide +kernel
theorem dX9_count_103 : decode cX9_count 103 = .ok (.aload_n 0, 1) := by decide +kernel
theorem dX9_count_104 : decode cX9_count 104 = .ok (.getfield 157, 3) := by decide +kernel
theorem dX9_count_107 : decode cX9_count 107 = .ok (.ireturn, 1) := by decide +kernel
theorem dX9_count_108 : decode cX9_count 108 = .ok (.aload_n 0, 1) := by decide +kernel
theorem dX9_count_109 : decode cX9_count 109 = .ok (.invokevirtual 169, 3) := by decide +kernel
theorem dX9_count_112 : decode cX9_count 112 = .ok (.aload_n 0, 1) := by decide +kernel
theorem dX9_count_113 : decode cX9_count 113 = .ok (.aload_n 0, 1) := by decide +kernel
theorem dX9_count_114 : decode cX9_count 114 = .ok (.getfield 157, 3) := by decide +kernel
theorem dX9_count_117 : decode cX9_count 117 = .ok (.invokevirtual 176, 3) := by decide +kernel
theorem dX9_count_120 : decode cX9_count 120 = .ok (.ireturn, 1) := by decide +kernel
theorem dX9_count_121 : decode cX9_count 121 = .ok (.aload_n 0, 1) := by decide +kernel
theorem dX9_count_122 : decode cX9_count 122 = .ok (.invokevirtual 186, 3) := by decide +kernel
theorem dX9_count_125 : decode cX9_count 125 = .ok (.ireturn, 1) := by decide +kernel
theorem dX9_count_126 : decode cX9_count 126 = .ok (.aload_n 0, 1) := by decide +kernel
theorem dX9_count_127 : decode cX9_count 127 = .ok (.invokevirtual 169, 3) := by decide +kernel
theorem dX9_count_130 : decode cX9_count 130 = .ok (.aload_n 0, 1) := by decide +kernel
theorem dX9_count_131 : decode cX9_count 131 = .ok (.getfield 160, 3) := by decide +kernel
theorem dX9_count_134 : decode cX9_count 134 = .ok (.sipush 9999, 3) := by decide +kernel
theorem dX9_count_137 : decode cX9_count 137 = .ok (.if_icmp .ne 8, 3) := by decide +kernel
theorem dX9_count_140 : decode cX9_count 140 = .ok (.bipush (-4), 2) := by decide +kernel
theorem dX9_count_142 : decode cX9_count 142 = .ok (.goto 7, 3) := by decide +kernel
theorem dX9_count_145 : decode cX9_count 145 = .ok (.aload_n 0, 1) := by decide +kernel
theorem dX9_count_146 : decode cX9_count 146 = .ok (.getfield 160, 3) := by decide +kernel
theorem dX9_count_149 : decode cX9_count 149 = .ok (.ireturn, 1) := by decide +kernel
theorem dX9_count_150 : decode cX9_count 150 = .ok (.aload_n 0, 1) := by decide +kernel
theorem dX9_count_151 : decode cX9_count 151 = .ok (.invokevirtual 189, 3) := by decide +kernel
theorem dX9_count_154 : decode cX9_count 154 = .ok (.ireturn, 1) := by decide +kernel
theorem dX9_count_155 : decode cX9_count 155 = .ok (.aload_n 0, 1) := by decide +kernel
theorem dX9_count_156 : decode cX9_count 156 = .ok (.getfield 192, 3) := by decide +kernel
theorem dX9_count_159 : decode cX9_count 159 = .ok (.ireturn, 1) := by decide +kernel
theorem dX9_count_160 : decode cX9_count 160 = .ok (.iconst (-1), 1) := by decide +kernel
theorem dX9_count_161 : decode cX9_count 161 = .ok (.ireturn, 1) := by decide +kernel
theorem dX9_type_0 : decode cX9_type 0 = .ok (.iload_n 1, 1) := by decide +kernel
theorem dX9_type_1 : decode cX9_type 1 = .ok (.i2l, 1) := by decide +kernel
theorem dX9_type_2 : decode cX9_type 2 = .ok (.ldc2_w 195, 3) := by decide +kernel
theorem dX9_type_5 : decode cX9_type 5 = .ok (.ldc2_w 197, 3) := by decide +kernel
theorem dX9_type_8 : decode cX9_type 8 = .ok (.invokestatic 75, 3) := by decide +kernel
theorem dX9_type_11 : decode cX9_type 11 = .ok (.ifCond .ne 5, 3) := by decide +kernel
theorem dX9_type_14 : decode cX9_type 14 = .ok (.iconst (-1), 1) := by decide +kernel
theorem dX9_type_15 : decode cX9_type 15 = .ok (.ireturn, 1) := by decide +kernel
theorem dX9_type_16 : decode cX9_type 16 = .ok (.aload_n 0, 1) := by decide +kernel
theorem dX9_type_17 : decode cX9_type 17 = .ok (.getfield 199, 3) := by decide +kernel
theorem dX9_type_20 : decode cX9_type 20 = .ok (.bipush 120, 2) := by decide +kernel
theorem dX9_type_22 : decode cX9_type 22 = .ok (.if_icmp .ne 6, 3) := by decide +kernel
theorem dX9_type_25 : decode cX9_type 25 = .ok (.bipush (-3), 2) := by decide +kernel
theorem dX9_type_27 : decode cX9_type 27 = .ok (.ireturn, 1) := by decide +kernel
theorem dX9_type_28 : decode cX9_type 28 = .ok (.aload_n 0, 1) := by decide +kernel
theorem dX9_type_29 : decode cX9_type 29 = .ok (.getfield 41, 3) := by decide +kernel
theorem dX9_type_32 : decode cX9_type 32 = .ok (.aload_n 0, 1) := by decide +kernel
theorem dX9_type_33 : decode cX9_type 33 = .ok (.getfield 199, 3) := by decide +kernel
theorem dX9_type_36 : decode cX9_type 36 = .ok (.iload_n 1, 1) := by decide +kernel
theorem dX9_type_37 : decode cX9_type 37 = .ok (.iastore, 1) := by decide +kernel
theorem dX9_type_38 : decode cX9_type 38 = .ok (.aload_n 0, 1) := by decide +kernel
theorem dX9_type_39 : decode cX9_type 39 = .ok (.dup, 1) := by decide +kernel
theorem dX9_type_40 : decode cX9_type 40 = .ok (.getfield 199, 3) := by decide +kernel
theorem dX9_type_43 : decode cX9_type 43 = .ok (.iconst 1, 1) := by decide +kernel
theorem dX9_type_44 : decode cX9_type 44 = .ok (.iadd, 1) := by decide +kernel
theorem dX9_type_45 : decode cX9_type 45 = .ok (.putfield 199, 3) := by decide +kernel
theorem dX9_type_48 : decode cX9_type 48 = .ok (.aload_n 0, 1) := by decide +kernel
theorem dX9_type_49 : decode cX9_type 49 = .ok (.getfield 199, 3) := by decide +kernel
theorem dX9_type_52 : decode cX9_type 52 = .ok (.ireturn, 1) := by decide +kernel
theorem dX9_here_0 : decode cX9_here 0 = .ok (.aload_n 0, 1) := by decide +kernel
theorem dX9_here_1 : decode cX9_here 1 = .ok (.getfield 202, 3) := by decide +kernel
theorem dX9_here_4 : decode cX9_here 4 = .ok (.aload_n 0, 1) := by decide +kernel
theorem dX9_here_5 : decode cX9_here 5 = .ok (.getfield 199, 3) := by decide +kernel
theorem dX9_here_8 : decode cX9_here 8 = .ok (.if_icmp .ge 30, 3) := by decide +kernel
theorem dX9_here_11 : decode cX9_here 11 = .ok (.aload_n 0, 1) := by decide +kernel
theorem dX9_here_12 : decode cX9_here 12 = .ok (.getfield 41, 3) := by decide +kernel
theorem dX9_here_15 : decode cX9_here 15 = .ok (.aload_n 0, 1) := by decide +kernel
theorem dX9_here_16 : decode cX9_here 16 = .ok (.getfield 202, 3) := by decide +kernel
theorem dX9_here_19 : decode cX9_here 19 = .ok (.iaload, 1) := by decide +kernel
theorem dX9_here_20 : decode cX9_here 20 = .ok (.bipush 32, 2) := by decide +kernel
theorem dX9_here_22 : decode cX9_here 22 = .ok (.if_icmp .ne 16, 3) := by decide +kernel
theorem dX9_here_25 : decode cX9_here 25 = .ok (.aload_n 0, 1) := by decide +kernel
theorem dX9_here_26 : decode cX9_here 26 = .ok (.dup, 1) := by decide +kernel
theorem dX9_here_27 : decode cX9_here 27 = .ok (.getfield 202, 3) := by decide +kernel
theorem dX9_here_30 : decode cX9_here 30 = .ok (.iconst 1, 1) := by decide +kernel
theorem dX9_here_31 : decode cX9_here 31 = .ok (.iadd, 1) := by decide +kernel
theorem dX9_here_32 : decode cX9_here 32 = .ok (.putfield 202, 3) := by decide +kernel
theorem dX9_here_35 : decode cX9_here 35 = .ok (.goto (-35), 3) := by decide +kernel
theorem dX9_here_38 : decode cX9_here 38 = .ok (.aload_n 0, 1) := by decide +kernel
theorem dX9_here_39 : decode cX9_here 39 = .ok (.getfield 202, 3) := by decide +kernel
theorem dX9_here_42 : decode cX9_here 42 = .ok (.aload_n 0, 1) := by decide +kernel
theorem dX9_here_43 : decode cX9_here 43 = .ok (.getfield 199, 3) := by decide +kernel
theorem dX9_here_46 : decode cX9_here 46 = .ok (.if_icmp .ge 15, 3) := by decide +kernel
theorem dX9_here_49 : decode cX9_here 49 = .ok (.aload_n 0, 1) := by decide +kernel
theorem dX9_here_50 : decode cX9_here 50 = .ok (.getfield 41, 3) := by decide +kernel
theorem dX9_here_53 : decode cX9_here 53 = .ok (.aload_n 0, 1) := by decide +kernel
theorem dX9_here_54 : decode cX9_here 54 = .ok (.getfield 202, 3) := by decide +kernel
theorem dX9_here_57 : decode cX9_here 57 = .ok (.iaload, 1) := by decide +kernel
theorem dX9_here_58 : decode cX9_here 58 = .ok (.goto 4, 3) := by decide +kernel
theorem dX9_here_61 : decode cX9_here 61 = .ok (.iconst 0, 1) := by decide +kernel
theorem dX9_here_62 : decode cX9_here 62 = .ok (.ireturn, 1) := by decide +kernel
theorem dX9_has_0 : decode cX9_has 0 = .ok (.aload_n 0, 1) := by decide +kernel
theorem dX9_has_1 : decode cX9_has 1 = .ok (.invokevirtual 205, 3) := by decide +kernel
theorem dX9_has_4 : decode cX9_has 4 = .ok (.iload_n 1, 1) := by decide +kernel
theorem dX9_has_5 : decode cX9_has 5 = .ok (.if_icmp .eq 5, 3) := by decide +kernel
theorem dX9_has_8 : decode cX9_has 8 = .ok (.iconst 0, 1) := by decide +kernel
theorem dX9_has_9 : decode cX9_has 9 = .ok (.ireturn, 1) := by decide +kernel
theorem dX9_has_10 : decode cX9_has 10 = .ok (.aload_n 0, 1) := by decide +kernel
theorem dX9_has_11 : decode cX9_has 11 = .ok (.dup, 1) := by decide +kernel
theorem dX9_has_12 : decode cX9_has 12 = .ok (.getfield 202, 3) := by decide +kernel
theorem dX9_has_15 : decode cX9_has 15 = .ok (.iconst 1, 1) := by decide +kernel
theorem dX9_has_16 : decode cX9_has 16 = .ok (.iadd, 1) := by decide +kernel
theorem dX9_has_17 : decode cX9_has 17 = .ok (.putfield 202, 3) := by decide +kernel
theorem dX9_has_20 : decode cX9_has 20 = .ok (.iconst 1, 1) := by decide +kernel
theorem dX9_has_21 : decode cX9_has 21 = .ok (.ireturn, 1) := by decide +kernel
theorem dX9_letterWord_0 : decode cX9_letterWord 0 = .ok (.iload_n 0, 1) := by decide +kernel
theorem dX9_letterWord_1 : decode cX9_letterWord 1 = .ok (.bipush 104, 2) := by decide +kernel
theorem dX9_letterWord_3 : decode cX9_letterWord 3 = .ok (.if_icmp .ne 8, 3) := by decide +kernel
theorem dX9_letterWord_6 : decode cX9_letterWord 6 = .ok (.bipush 28, 2) := by decide +kernel
theorem dX9_letterWord_8 : decode cX9_letterWord 8 = .ok (.goto 48, 3) := by decide +kernel
theorem dX9_letterWord_11 : decode cX9_letterWord 11 = .ok (.iload_n 0, 1) := by decide +kernel
theorem dX9_letterWord_12 : decode cX9_letterWord 12 = .ok (.bipush 116, 2) := by decide +kernel
theorem dX9_letterWord_14 : decode cX9_letterWord 14 = .ok (.if_icmp .ne 8, 3) := by decide +kernel
theorem dX9_letterWord_17 : decode cX9_letterWord 17 = .ok (.bipush 29, 2) := by decide +kernel
theorem dX9_letterWord_19 : decode cX9_letterWord 19 = .ok (.goto 37, 3) := by decide +kernel
theorem dX9_letterWord_22 : decode cX9_letterWord 22 = .ok (.iload_n 0, 1) := by decide +kernel
theorem dX9_letterWord_23 : decode cX9_letterWord 23 = .ok (.bipush 97, 2) := by decide +kernel
theorem dX9_letterWord_25 : decode cX9_letterWord 25 = .ok (.if_icmp .ne 8, 3) := by decide +kernel
theorem dX9_letterWord_28 : decode cX9_letterWord 28 = .ok (.bipush 30, 2) := by decide +kernel
theorem dX9_letterWord_30 : decode cX9_letterWord 30 = .ok (.goto 26, 3) := by decide +kernel
theorem dX9_letterWord_33 : decode cX9_letterWord 33 = .ok (.iload_n 0, 1) := by decide +kernel
theorem dX9_letterWord_34 : decode cX9_letterWord 34 = .ok (.bipush 115, 2) := by decide +kernel
theorem dX9_letterWord_36 : decode cX9_letterWord 36 = .ok (.if_icmp .ne 8, 3) := by decide +kernel
theorem dX9_letterWord_39 : decode cX9_letterWord 39 = .ok (.bipush 31, 2) := by decide +kernel
theorem dX9_letterWord_41 : decode cX9_letterWord 41 = .ok (.goto 15, 3) := by decide +kernel
theorem dX9_letterWord_44 : decode cX9_letterWord 44 = .ok (.iload_n 0, 1) := by decide +kernel
theorem dX9_letterWord_45 : decode cX9_letterWord 45 = .ok (.bipush 110, 2) := by decide +kernel
theorem dX9_letterWord_47 : decode cX9_letterWord 47 = .ok (.if_icmp .ne 7, 3) := by decide +kernel
theorem dX9_letterWord_50 : decode cX9_letterWord 50 = .ok (.iconst 0, 1) := by decide +kernel
theorem dX9_letterWord_51 : decode cX9_letterWord 51 = .ok (.goto 5, 3) := by decide +kernel
theorem dX9_letterWord_54 : decode cX9_letterWord 54 = .ok (.bipush (-4), 2) := by decide +kernel
theorem dX9_letterWord_56 : decode cX9_letterWord 56 = .ok (.ireturn, 1) := by decide +kernel
theorem dX9_wordRead_0 : decode cX9_wordRead 0 = .ok (.aload_n 0, 1) := by decide +kernel
theorem dX9_wordRead_1 : decode cX9_wordRead 1 = .ok (.invokevirtual 205, 3) := by decide +kernel
theorem dX9_wordRead_4 : decode cX9_wordRead 4 = .ok (.i2l, 1) := by decide +kernel
theorem dX9_wordRead_5 : decode cX9_wordRead 5 = .ok (.ldc2_w 208, 3) := by decide +kernel
theorem dX9_wordRead_8 : decode cX9_wordRead 8 = .ok (.ldc2_w 210, 3) := by decide +kernel
theorem dX9_wordRead_11 : decode cX9_wordRead 11 = .ok (.invokestatic 75, 3) := by decide +kernel
theorem dX9_wordRead_14 : decode cX9_wordRead 14 = .ok (.ifCond .ne 33, 3) := by decide +kernel
theorem dX9_wordRead_17 : decode cX9_wordRead 17 = .ok (.aload_n 0, 1) := by decide +kernel
theorem dX9_wordRead_18 : decode cX9_wordRead 18 = .ok (.invokevirtual 205, 3) := by decide +kernel
theorem dX9_wordRead_21 : decode cX9_wordRead 21 = .ok (.invokestatic 212, 3) := by decide +kernel
theorem dX9_wordRead_24 : decode cX9_wordRead 24 = .ok (.istore_n 1, 1) := by decide +kernel
theorem dX9_wordRead_25 : decode cX9_wordRead 25 = .ok (.aload_n 0, 1) := by decide +kernel
theorem dX9_wordRead_26 : decode cX9_wordRead 26 = .ok (.dup, 1) := by decide +kernel
theorem dX9_wordRead_27 : decode cX9_wordRead 27 = .ok (.getfield 202, 3) := by decide +kernel
theorem dX9_wordRead_30 : decode cX9_wordRead 30 = .ok (.iload_n 1, 1) := by decide +kernel
theorem dX9_wordRead_31 : decode cX9_wordRead 31 = .ok (.bipush (-4), 2) := by decide +kernel
theorem dX9_wordRead_33 : decode cX9_wordRead 33 = .ok (.if_icmp .ne 7, 3) := by decide +kernel
theorem dX9_wordRead_36 : decode cX9_wordRead 36 = .ok (.iconst 0, 1) := by decide +kernel
theorem dX9_wordRead_37 : decode cX9_wordRead 37 = .ok (.goto 4, 3) := by decide +kernel
theorem dX9_wordRead_40 : decode cX9_wordRead 40 = .ok (.iconst 1, 1) := by decide +kernel
theorem dX9_wordRead_41 : decode cX9_wordRead 41 = .ok (.iadd, 1) := by decide +kernel
theorem dX9_wordRead_42 : decode cX9_wordRead 42 = .ok (.putfield 202, 3) := by decide +kernel
theorem dX9_wordRead_45 : decode cX9_wordRead 45 = .ok (.iload_n 1, 1) := by decide +kernel
theorem dX9_wordRead_46 : decode cX9_wordRead 46 = .ok (.ireturn, 1) := by decide +kernel
theorem dX9_wordRead_47 : decode cX9_wordRead 47 = .ok (.aload_n 0, 1) := by decide +kernel
theorem dX9_wordRead_48 : decode cX9_wordRead 48 = .ok (.getfield 202, 3) := by decide +kernel
theorem dX9_wordRead_51 : decode cX9_wordRead 51 = .ok (.istore_n 1, 1) := by decide +kernel
theorem dX9_wordRead_52 : decode cX9_wordRead 52 = .ok (.aload_n 0, 1) := by decide +kernel
theorem dX9_wordRead_53 : decode cX9_wordRead 53 = .ok (.getfield 41, 3) := by decide +kernel
theorem dX9_wordRead_56 : decode cX9_wordRead 56 = .ok (.aload_n 0, 1) := by decide +kernel
theorem dX9_wordRead_57 : decode cX9_wordRead 57 = .ok (.getfield 202, 3) := by decide +kernel
theorem dX9_wordRead_60 : decode cX9_wordRead 60 = .ok (.iaload, 1) := by decide +kernel
theorem dX9_wordRead_61 : decode cX9_wordRead 61 = .ok (.bipush 48, 2) := by decide +kernel
theorem dX9_wordRead_63 : decode cX9_wordRead 63 = .ok (.isub, 1) := by decide +kernel
theorem dX9_wordRead_64 : decode cX9_wordRead 64 = .ok (.istore_n 2, 1) := by decide +kernel
theorem dX9_wordRead_65 : decode cX9_wordRead 65 = .ok (.aload_n 0, 1) := by decide +kernel
theorem dX9_wordRead_66 : decode cX9_wordRead 66 = .ok (.dup, 1) := by decide +kernel
theorem dX9_wordRead_67 : decode cX9_wordRead 67 = .ok (.getfield 202, 3) := by decide +kernel
theorem dX9_wordRead_70 : decode cX9_wordRead 70 = .ok (.iconst 1, 1) := by decide +kernel
theorem dX9_wordRead_71 : decode cX9_wordRead 71 = .ok (.iadd, 1) := by decide +kernel
theorem dX9_wordRead_72 : decode cX9_wordRead 72 = .ok (.putfield 202, 3) := by decide +kernel
theorem dX9_wordRead_75 : decode cX9_wordRead 75 = .ok (.aload_n 0, 1) := by decide +kernel
theorem dX9_wordRead_76 : decode cX9_wordRead 76 = .ok (.getfield 202, 3) := by decide +kernel
theorem dX9_wordRead_79 : decode cX9_wordRead 79 = .ok (.aload_n 0, 1) := by decide +kernel
theorem dX9_wordRead_80 : decode cX9_wordRead 80 = .ok (.getfield 199, 3) := by decide +kernel
theorem dX9_wordRead_83 : decode cX9_wordRead 83 = .ok (.if_icmp .ge 53, 3) := by decide +kernel
theorem dX9_wordRead_86 : decode cX9_wordRead 86 = .ok (.aload_n 0, 1) := by decide +kernel
theorem dX9_wordRead_87 : decode cX9_wordRead 87 = .ok (.getfield 41, 3) := by decide +kernel
theorem dX9_wordRead_90 : decode cX9_wordRead 90 = .ok (.aload_n 0, 1) := by decide +kernel
theorem dX9_wordRead_91 : decode cX9_wordRead 91 = .ok (.getfield 202, 3) := by decide +kernel
theorem dX9_wordRead_94 : decode cX9_wordRead 94 = .ok (.iaload, 1) := by decide +kernel
theorem dX9_wordRead_95 : decode cX9_wordRead 95 = .ok (.i2l, 1) := by decide +kernel
theorem dX9_wordRead_96 : decode cX9_wordRead 96 = .ok (.ldc2_w 208, 3) := by decide +kernel
theorem dX9_wordRead_99 : decode cX9_wordRead 99 = .ok (.ldc2_w 210, 3) := by decide +kernel
theorem dX9_wordRead_102 : decode cX9_wordRead 102 = .ok (.invokestatic 75, 3) := by decide +kernel
theorem dX9_wordRead_105 : decode cX9_wordRead 105 = .ok (.ifCond .eq 31, 3) := by decide +kernel
theorem dX9_wordRead_108 : decode cX9_wordRead 108 = .ok (.bipush 10, 2) := by decide +kernel
theorem dX9_wordRead_110 : decode cX9_wordRead 110 = .ok (.iload_n 2, 1) := by decide +kernel
theorem dX9_wordRead_111 : decode cX9_wordRead 111 = .ok (.imul, 1) := by decide +kernel
theorem dX9_wordRead_112 : decode cX9_wordRead 112 = .ok (.aload_n 0, 1) := by decide +kernel
theorem dX9_wordRead_113 : decode cX9_wordRead 113 = .ok (.getfield 41, 3) := by decide +kernel
theorem dX9_wordRead_116 : decode cX9_wordRead 116 = .ok (.aload_n 0, 1) := by decide +kernel
theorem dX9_wordRead_117 : decode cX9_wordRead 117 = .ok (.getfield 202, 3) := by decide +kernel
theorem dX9_wordRead_120 : decode cX9_wordRead 120 = .ok (.iaload, 1) := by decide +kernel
theorem dX9_wordRead_121 : decode cX9_wordRead 121 = .ok (.iadd, 1) := by decide +kernel
theorem dX9_wordRead_122 : decode cX9_wordRead 122 = .ok (.bipush 48, 2) := by decide +kernel
theorem dX9_wordRead_124 : decode cX9_wordRead 124 = .ok (.isub, 1) := by decide +kernel
theorem dX9_wordRead_125 : decode cX9_wordRead 125 = .ok (.istore_n 2, 1) := by decide +kernel
theorem dX9_wordRead_126 : decode cX9_wordRead 126 = .ok (.aload_n 0, 1) := by decide +kernel
theorem dX9_wordRead_127 : decode cX9_wordRead 127 = .ok (.dup, 1) := by decide +kernel
theorem dX9_wordRead_128 : decode cX9_wordRead 128 = .ok (.getfield 202, 3) := by decide +kernel
theorem dX9_wordRead_131 : decode cX9_wordRead 131 = .ok (.iconst 1, 1) := by decide +kernel
theorem dX9_wordRead_132 : decode cX9_wordRead 132 = .ok (.iadd, 1) := by decide +kernel
theorem dX9_wordRead_133 : decode cX9_wordRead 133 = .ok (.putfield 202, 3) := by decide +kernel
theorem dX9_wordRead_136 : decode cX9_wordRead 136 = .ok (.iload_n 2, 1) := by decide +kernel
theorem dX9_wordRead_137 : decode cX9_wordRead 137 = .ok (.i2l, 1) := by decide +kernel
theorem dX9_wordRead_138 : decode cX9_wordRead 138 = .ok (.lconst 1, 1) := by decide +kernel
theorem dX9_wordRead_139 : decode cX9_wordRead 139 = .ok (.ldc2_w 89, 3) := by decide +kernel
theorem dX9_wordRead_142 : decode cX9_wordRead 142 = .ok (.invokestatic 75, 3) := by decide +kernel
theorem dX9_wordRead_145 : decode cX9_wordRead 145 = .ok (.ifCond .eq 7, 3) := by decide +kernel
theorem dX9_wordRead_148 : decode cX9_wordRead 148 = .ok (.iload_n 2, 1) := by decide +kernel
theorem dX9_wordRead_149 : decode cX9_wordRead 149 = .ok (.goto 28, 3) := by decide +kernel
theorem dX9_wordRead_152 : decode cX9_wordRead 152 = .ok (.iload_n 2, 1) := by decide +kernel
theorem dX9_wordRead_153 : decode cX9_wordRead 153 = .ok (.bipush 19, 2) := by decide +kernel
theorem dX9_wordRead_155 : decode cX9_wordRead 155 = .ok (.if_icmp .le 20, 3) := by decide +kernel
theorem dX9_wordRead_158 : decode cX9_wordRead 158 = .ok (.iload_n 2, 1) := by decide +kernel
theorem dX9_wordRead_159 : decode cX9_wordRead 159 = .ok (.bipush 10, 2) := by decide +kernel
theorem dX9_wordRead_161 : decode cX9_wordRead 161 = .ok (.irem, 1) := by decide +kernel
theorem dX9_wordRead_162 : decode cX9_wordRead 162 = .ok (.ifCond .ne 13, 3) := by decide +kernel
theorem dX9_wordRead_165 : decode cX9_wordRead 165 = .ok (.bipush 18, 2) := by decide +kernel
theorem dX9_wordRead_167 : decode cX9_wordRead 167 = .ok (.iload_n 2, 1) := by decide +kernel
theorem dX9_wordRead_168 : decode cX9_wordRead 168 = .ok (.bipush 10, 2) := by decide +kernel
theorem dX9_wordRead_170 : decode cX9_wordRead 170 = .ok (.idiv, 1) := by decide +kernel
theorem dX9_wordRead_171 : decode cX9_wordRead 171 = .ok (.iadd, 1) := by decide +kernel
theorem dX9_wordRead_172 : decode cX9_wordRead 172 = .ok (.goto 5, 3) := by decide +kernel
theorem dX9_wordRead_175 : decode cX9_wordRead 175 = .ok (.bipush (-4), 2) := by decide +kernel
theorem dX9_wordRead_177 : decode cX9_wordRead 177 = .ok (.istore_n 3, 1) := by decide +kernel
theorem dX9_wordRead_178 : decode cX9_wordRead 178 = .ok (.aload_n 0, 1) := by decide +kernel
theorem dX9_wordRead_179 : decode cX9_wordRead 179 = .ok (.iload_n 3, 1) := by decide +kernel
theorem dX9_wordRead_180 : decode cX9_wordRead 180 = .ok (.bipush (-4), 2) := by decide +kernel
theorem dX9_wordRead_182 : decode cX9_wordRead 182 = .ok (.if_icmp .ne 7, 3) := by decide +kernel
theorem dX9_wordRead_185 : decode cX9_wordRead 185 = .ok (.iload_n 1, 1) := by decide +kernel
theorem dX9_wordRead_186 : decode cX9_wordRead 186 = .ok (.goto 7, 3) := by decide +kernel
theorem dX9_wordRead_189 : decode cX9_wordRead 189 = .ok (.aload_n 0, 1) := by decide +kernel
theorem dX9_wordRead_190 : decode cX9_wordRead 190 = .ok (.getfield 202, 3) := by decide +kernel
theorem dX9_wordRead_193 : decode cX9_wordRead 193 = .ok (.putfield 202, 3) := by decide +kernel
theorem dX9_wordRead_196 : decode cX9_wordRead 196 = .ok (.iload_n 3, 1) := by decide +kernel
theorem dX9_wordRead_197 : decode cX9_wordRead 197 = .ok (.ireturn, 1) := by decide +kernel
theorem dX9_reads_0 : decode cX9_reads 0 = .ok (.bipush 9, 2) := by decide +kernel
theorem dX9_reads_2 : decode cX9_reads 2 = .ok (.iload_n 1, 1) := by decide +kernel
theorem dX9_reads_3 : decode cX9_reads 3 = .ok (.imul, 1) := by decide +kernel
theorem dX9_reads_4 : decode cX9_reads 4 = .ok (.istore_n 2, 1) := by decide +kernel
theorem dX9_reads_5 : decode cX9_reads 5 = .ok (.aload_n 0, 1) := by decide +kernel
theorem dX9_reads_6 : decode cX9_reads 6 = .ok (.getfield 44, 3) := by decide +kernel
theorem dX9_reads_9 : decode cX9_reads 9 = .ok (.iload_n 2, 1) := by decide +kernel
theorem dX9_reads_10 : decode cX9_reads 10 = .ok (.iconst 0, 1) := by decide +kernel
theorem dX9_reads_11 : decode cX9_reads 11 = .ok (.iastore, 1) := by decide +kernel
theorem dX9_reads_12 : decode cX9_reads 12 = .ok (.iconst 1, 1) := by decide +kernel
theorem dX9_reads_13 : decode cX9_reads 13 = .ok (.istore_n 3, 1) := by decide +kernel
theorem dX9_reads_14 : decode cX9_reads 14 = .ok (.iload_n 3, 1) := by decide +kernel
theorem dX9_reads_15 : decode cX9_reads 15 = .ok (.ifCond .eq 239, 3) := by decide +kernel
theorem dX9_reads_18 : decode cX9_reads 18 = .ok (.aload_n 0, 1) := by decide +kernel
theorem dX9_reads_19 : decode cX9_reads 19 = .ok (.invokevirtual 205, 3) := by decide +kernel
theorem dX9_reads_22 : decode cX9_reads 22 = .ok (.ifCond .ne 7, 3) := by decide +kernel
theorem dX9_reads_25 : decode cX9_reads 25 = .ok (.iconst 1, 1) := by decide +kernel
theorem dX9_reads_26 : decode cX9_reads 26 = .ok (.goto 4, 3) := by decide +kernel
theorem dX9_reads_29 : decode cX9_reads 29 = .ok (.iconst 0, 1) := by decide +kernel
theorem dX9_reads_30 : decode cX9_reads 30 = .ok (.istore 4, 2) := by decide +kernel
theorem dX9_reads_32 : decode cX9_reads 32 = .ok (.iload 4, 2) := by decide +kernel
theorem dX9_reads_34 : decode cX9_reads 34 = .ok (.ifCond .eq 10, 3) := by decide +kernel
theorem dX9_reads_37 : decode cX9_reads 37 = .ok (.aload_n 0, 1) := by decide +kernel
theorem dX9_reads_38 : decode cX9_reads 38 = .ok (.getfield 199, 3) := by decide +kernel
theorem dX9_reads_41 : decode cX9_reads 41 = .ok (.goto 7, 3) := by decide +kernel
theorem dX9_reads_44 : decode cX9_reads 44 = .ok (.aload_n 0, 1) := by decide +kernel
theorem dX9_reads_45 : decode cX9_reads 45 = .ok (.getfield 202, 3) := by decide +kernel
theorem dX9_reads_48 : decode cX9_reads 48 = .ok (.istore 5, 2) := by decide +kernel
theorem dX9_reads_50 : decode cX9_reads 50 = .ok (.aload_n 0, 1) := by decide +kernel
theorem dX9_reads_51 : decode cX9_reads 51 = .ok (.invokevirtual 215, 3) := by decide +kernel
theorem dX9_reads_54 : decode cX9_reads 54 = .ok (.istore 6, 2) := by decide +kernel
theorem dX9_reads_56 : decode cX9_reads 56 = .ok (.iconst 0, 1) := by decide +kernel
theorem dX9_reads_57 : decode cX9_reads 57 = .ok (.istore 7, 2) := by decide +kernel
theorem dX9_reads_59 : decode cX9_reads 59 = .ok (.iconst 0, 1) := by decide +kernel
theorem dX9_reads_60 : decode cX9_reads 60 = .ok (.istore 8, 2) := by decide +kernel
theorem dX9_reads_62 : decode cX9_reads 62 = .ok (.iload 8, 2) := by decide +kernel
theorem dX9_reads_64 : decode cX9_reads 64 = .ok (.aload_n 0, 1) := by decide +kernel
theorem dX9_reads_65 : decode cX9_reads 65 = .ok (.getfield 44, 3) := by decide +kernel
theorem dX9_reads_68 : decode cX9_reads 68 = .ok (.iload_n 2, 1) := by decide +kernel
theorem dX9_reads_69 : decode cX9_reads 69 = .ok (.iaload, 1) := by decide +kernel
theorem dX9_reads_70 : decode cX9_reads 70 = .ok (.if_icmp .ge 37, 3) := by decide +kernel
theorem dX9_reads_73 : decode cX9_reads 73 = .ok (.iload 7, 2) := by decide +kernel
theorem dX9_reads_75 : decode cX9_reads 75 = .ok (.ifCond .ne 19, 3) := by decide +kernel
theorem dX9_reads_78 : decode cX9_reads 78 = .ok (.aload_n 0, 1) := by decide +kernel
theorem dX9_reads_79 : decode cX9_reads 79 = .ok (.getfield 44, 3) := by decide +kernel
theorem dX9_reads_82 : decode cX9_reads 82 = .ok (.iload_n 2, 1) := by decide +kernel
theorem dX9_reads_83 : decode cX9_reads 83 = .ok (.iconst 1, 1) := by decide +kernel
theorem dX9_reads_84 : decode cX9_reads 84 = .ok (.iadd, 1) := by decide +kernel
theorem dX9_reads_85 : decode cX9_reads 85 = .ok (.iload 8, 2) := by decide +kernel
theorem dX9_reads_87 : decode cX9_reads 87 = .ok (.iadd, 1) := by decide +kernel
theorem dX9_reads_88 : decode cX9_reads 88 = .ok (.iaload, 1) := by decide +kernel
theorem dX9_reads_89 : decode cX9_reads 89 = .ok (.iload 6, 2) := by decide +kernel
theorem dX9_reads_91 : decode cX9_reads 91 = .ok (.if_icmp .ne 7, 3) := by decide +kernel
theorem dX9_reads_94 : decode cX9_reads 94 = .ok (.iconst 1, 1) := by decide +kernel
theorem dX9_reads_95 : decode cX9_reads 95 = .ok (.goto 4, 3) := by decide +kernel
theorem dX9_reads_98 : decode cX9_reads 98 = .ok (.iconst 0, 1) := by decide +kernel
theorem dX9_reads_99 : decode cX9_reads 99 = .ok (.istore 7, 2) := by decide +kernel
theorem dX9_reads_101 : decode cX9_reads 101 = .ok (.iinc 8 1, 3) := by decide +kernel
theorem dX9_reads_104 : decode cX9_reads 104 = .ok (.goto (-42), 3) := by decide +kernel
theorem dX9_reads_107 : decode cX9_reads 107 = .ok (.iload 6, 2) := by decide +kernel
theorem dX9_reads_109 : decode cX9_reads 109 = .ok (.bipush (-4), 2) := by decide +kernel
theorem dX9_reads_111 : decode cX9_reads 111 = .ok (.if_icmp .eq 8, 3) := by decide +kernel
theorem dX9_reads_114 : decode cX9_reads 114 = .ok (.iload 7, 2) := by decide +kernel
theorem dX9_reads_116 : decode cX9_reads 116 = .ok (.ifCond .eq 11, 3) := by decide +kernel
theorem dX9_reads_119 : decode cX9_reads 119 = .ok (.aload_n 0, 1) := by decide +kernel
theorem dX9_reads_120 : decode cX9_reads 120 = .ok (.iload 5, 2) := by decide +kernel
theorem dX9_reads_122 : decode cX9_reads 122 = .ok (.putfield 202, 3) := by decide +kernel
theorem dX9_reads_125 : decode cX9_reads 125 = .ok (.iconst 0, 1) := by decide +kernel
theorem dX9_reads_126 : decode cX9_reads 126 = .ok (.ireturn, 1) := by decide +kernel
theorem dX9_reads_127 : decode cX9_reads 127 = .ok (.aload_n 0, 1) := by decide +kernel
theorem dX9_reads_128 : decode cX9_reads 128 = .ok (.getfield 44, 3) := by decide +kernel
theorem dX9_reads_131 : decode cX9_reads 131 = .ok (.iload_n 2, 1) := by decide +kernel
theorem dX9_reads_132 : decode cX9_reads 132 = .ok (.iaload, 1) := by decide +kernel
theorem dX9_reads_133 : decode cX9_reads 133 = .ok (.istore 8, 2) := by decide +kernel
theorem dX9_reads_135 : decode cX9_reads 135 = .ok (.aload_n 0, 1) := by decide +kernel
theorem dX9_reads_136 : decode cX9_reads 136 = .ok (.getfield 44, 3) := by decide +kernel
theorem dX9_reads_139 : decode cX9_reads 139 = .ok (.iload_n 2, 1) := by decide +kernel
theorem dX9_reads_140 : decode cX9_reads 140 = .ok (.iconst 1, 1) := by decide +kernel
theorem dX9_reads_141 : decode cX9_reads 141 = .ok (.iadd, 1) := by decide +kernel
theorem dX9_reads_142 : decode cX9_reads 142 = .ok (.iload 8, 2) := by decide +kernel
theorem dX9_reads_144 : decode cX9_reads 144 = .ok (.iadd, 1) := by decide +kernel
theorem dX9_reads_145 : decode cX9_reads 145 = .ok (.iload 6, 2) := by decide +kernel
theorem dX9_reads_147 : decode cX9_reads 147 = .ok (.iastore, 1) := by decide +kernel
theorem dX9_reads_148 : decode cX9_reads 148 = .ok (.aload_n 0, 1) := by decide +kernel
theorem dX9_reads_149 : decode cX9_reads 149 = .ok (.getfield 44, 3) := by decide +kernel
theorem dX9_reads_152 : decode cX9_reads 152 = .ok (.iload_n 2, 1) := by decide +kernel
theorem dX9_reads_153 : decode cX9_reads 153 = .ok (.iconst 5, 1) := by decide +kernel
theorem dX9_reads_154 : decode cX9_reads 154 = .ok (.iadd, 1) := by decide +kernel
theorem dX9_reads_155 : decode cX9_reads 155 = .ok (.iload 8, 2) := by decide +kernel
theorem dX9_reads_157 : decode cX9_reads 157 = .ok (.iadd, 1) := by decide +kernel
theorem dX9_reads_158 : decode cX9_reads 158 = .ok (.iconst 0, 1) := by decide +kernel
theorem dX9_reads_159 : decode cX9_reads 159 = .ok (.iastore, 1) := by decide +kernel
theorem dX9_reads_160 : decode cX9_reads 160 = .ok (.aload_n 0, 1) := by decide +kernel
theorem dX9_reads_161 : decode cX9_reads 161 = .ok (.bipush 58, 2) := by decide +kernel
theorem dX9_reads_163 : decode cX9_reads 163 = .ok (.invokevirtual 218, 3) := by decide +kernel
theorem dX9_reads_166 : decode cX9_reads 166 = .ok (.ifCond .eq 50, 3) := by decide +kernel
theorem dX9_reads_169 : decode cX9_reads 169 = .ok (.aload_n 0, 1) := by decide +kernel
theorem dX9_reads_170 : decode cX9_reads 170 = .ok (.invokevirtual 205, 3) := by decide +kernel
theorem dX9_reads_173 : decode cX9_reads 173 = .ok (.i2l, 1) := by decide +kernel
theorem dX9_reads_174 : decode cX9_reads 174 = .ok (.ldc2_w 208, 3) := by decide +kernel
theorem dX9_reads_177 : decode cX9_reads 177 = .ok (.ldc2_w 210, 3) := by decide +kernel
theorem dX9_reads_180 : decode cX9_reads 180 = .ok (.invokestatic 75, 3) := by decide +kernel
theorem dX9_reads_183 : decode cX9_reads 183 = .ok (.ifCond .ne 5, 3) := by decide +kernel
theorem dX9_reads_186 : decode cX9_reads 186 = .ok (.iconst 0, 1) := by decide +kernel
theorem dX9_reads_187 : decode cX9_reads 187 = .ok (.ireturn, 1) := by decide +kernel
theorem dX9_reads_188 : decode cX9_reads 188 = .ok (.aload_n 0, 1) := by decide +kernel
theorem dX9_reads_189 : decode cX9_reads 189 = .ok (.getfield 44, 3) := by decide +kernel
theorem dX9_reads_192 : decode cX9_reads 192 = .ok (.iload_n 2, 1) := by decide +kernel
theorem dX9_reads_193 : decode cX9_reads 193 = .ok (.iconst 5, 1) := by decide +kernel
theorem dX9_reads_194 : decode cX9_reads 194 = .ok (.iadd, 1) := by decide +kernel
theorem dX9_reads_195 : decode cX9_reads 195 = .ok (.iload 8, 2) := by decide +kernel
theorem dX9_reads_197 : decode cX9_reads 197 = .ok (.iadd, 1) := by decide +kernel
theorem dX9_reads_198 : decode cX9_reads 198 = .ok (.aload_n 0, 1) := by decide +kernel
theorem dX9_reads_199 : decode cX9_reads 199 = .ok (.invokevirtual 205, 3) := by decide +kernel
theorem dX9_reads_202 : decode cX9_reads 202 = .ok (.bipush 48, 2) := by decide +kernel
theorem dX9_reads_204 : decode cX9_reads 204 = .ok (.isub, 1) := by decide +kernel
theorem dX9_reads_205 : decode cX9_reads 205 = .ok (.iastore, 1) := by decide +kernel
theorem dX9_reads_206 : decode cX9_reads 206 = .ok (.aload_n 0, 1) := by decide +kernel
theorem dX9_reads_207 : decode cX9_reads 207 = .ok (.dup, 1) := by decide +kernel
theorem dX9_reads_208 : decode cX9_reads 208 = .ok (.getfield 202, 3) := by decide +kernel
theorem dX9_reads_211 : decode cX9_reads 211 = .ok (.iconst 1, 1) := by decide +kernel
theorem dX9_reads_212 : decode cX9_reads 212 = .ok (.iadd, 1) := by decide +kernel
theorem dX9_reads_213 : decode cX9_reads 213 = .ok (.putfield 202, 3) := by decide +kernel
theorem dX9_reads_216 : decode cX9_reads 216 = .ok (.aload_n 0, 1) := by decide +kernel
theorem dX9_reads_217 : decode cX9_reads 217 = .ok (.getfield 44, 3) := by decide +kernel
theorem dX9_reads_220 : decode cX9_reads 220 = .ok (.iload_n 2, 1) := by decide +kernel
theorem dX9_reads_221 : decode cX9_reads 221 = .ok (.dup2, 1) := by decide +kernel
theorem dX9_reads_222 : decode cX9_reads 222 = .ok (.iaload, 1) := by decide +kernel
theorem dX9_reads_223 : decode cX9_reads 223 = .ok (.iconst 1, 1) := by decide +kernel
theorem dX9_reads_224 : decode cX9_reads 224 = .ok (.iadd, 1) := by decide +kernel
theorem dX9_reads_225 : decode cX9_reads 225 = .ok (.iastore, 1) := by decide +kernel
theorem dX9_reads_226 : decode cX9_reads 226 = .ok (.aload_n 0, 1) := by decide +kernel
theorem dX9_reads_227 : decode cX9_reads 227 = .ok (.getfield 44, 3) := by decide +kernel
theorem dX9_reads_230 : decode cX9_reads 230 = .ok (.iload_n 2, 1) := by decide +kernel
theorem dX9_reads_231 : decode cX9_reads 231 = .ok (.iaload, 1) := by decide +kernel
theorem dX9_reads_232 : decode cX9_reads 232 = .ok (.iconst 4, 1) := by decide +kernel
theorem dX9_reads_233 : decode cX9_reads 233 = .ok (.if_icmp .ge 16, 3) := by decide +kernel
theorem dX9_reads_236 : decode cX9_reads 236 = .ok (.aload_n 0, 1) := by decide +kernel
theorem dX9_reads_237 : decode cX9_reads 237 = .ok (.bipush 44, 2) := by decide +kernel
theorem dX9_reads_239 : decode cX9_reads 239 = .ok (.invokevirtual 218, 3) := by decide +kernel
theorem dX9_reads_242 : decode cX9_reads 242 = .ok (.ifCond .eq 7, 3) := by decide +kernel
theorem dX9_reads_245 : decode cX9_reads 245 = .ok (.iconst 1, 1) := by decide +kernel
theorem dX9_reads_246 : decode cX9_reads 246 = .ok (.goto 4, 3) := by decide +kernel
theorem dX9_reads_249 : decode cX9_reads 249 = .ok (.iconst 0, 1) := by decide +kernel
theorem dX9_reads_250 : decode cX9_reads 250 = .ok (.istore_n 3, 1) := by decide +kernel
theorem dX9_reads_251 : decode cX9_reads 251 = .ok (.goto (-237), 3) := by decide +kernel
theorem dX9_reads_254 : decode cX9_reads 254 = .ok (.iconst 1, 1) := by decide +kernel
theorem dX9_reads_255 : decode cX9_reads 255 = .ok (.ireturn, 1) := by decide +kernel
theorem dX9_fault_0 : decode cX9_fault 0 = .ok (.aload_n 0, 1) := by decide +kernel
theorem dX9_fault_1 : decode cX9_fault 1 = .ok (.invokevirtual 205, 3) := by decide +kernel
theorem dX9_fault_4 : decode cX9_fault 4 = .ok (.ifCond .ne 7, 3) := by decide +kernel
theorem dX9_fault_7 : decode cX9_fault 7 = .ok (.iconst 1, 1) := by decide +kernel
theorem dX9_fault_8 : decode cX9_fault 8 = .ok (.goto 4, 3) := by decide +kernel
theorem dX9_fault_11 : decode cX9_fault 11 = .ok (.iconst 0, 1) := by decide +kernel
theorem dX9_fault_12 : decode cX9_fault 12 = .ok (.istore_n 1, 1) := by decide +kernel
theorem dX9_fault_13 : decode cX9_fault 13 = .ok (.bipush (-20), 2) := by decide +kernel
theorem dX9_fault_15 : decode cX9_fault 15 = .ok (.iload_n 1, 1) := by decide +kernel
theorem dX9_fault_16 : decode cX9_fault 16 = .ok (.ifCond .eq 10, 3) := by decide +kernel
theorem dX9_fault_19 : decode cX9_fault 19 = .ok (.aload_n 0, 1) := by decide +kernel
theorem dX9_fault_20 : decode cX9_fault 20 = .ok (.getfield 199, 3) := by decide +kernel
theorem dX9_fault_23 : decode cX9_fault 23 = .ok (.goto 7, 3) := by decide +kernel
theorem dX9_fault_26 : decode cX9_fault 26 = .ok (.aload_n 0, 1) := by decide +kernel
theorem dX9_fault_27 : decode cX9_fault 27 = .ok (.getfield 202, 3) := by decide +kernel
theorem dX9_fault_30 : decode cX9_fault 30 = .ok (.isub, 1) := by decide +kernel
theorem dX9_fault_31 : decode cX9_fault 31 = .ok (.istore_n 2, 1) := by decide +kernel
theorem dX9_fault_32 : decode cX9_fault 32 = .ok (.aload_n 0, 1) := by decide +kernel
theorem dX9_fault_33 : decode cX9_fault 33 = .ok (.iconst 0, 1) := by decide +kernel
theorem dX9_fault_34 : decode cX9_fault 34 = .ok (.putfield 199, 3) := by decide +kernel
theorem dX9_fault_37 : decode cX9_fault 37 = .ok (.iload_n 2, 1) := by decide +kernel
theorem dX9_fault_38 : decode cX9_fault 38 = .ok (.ireturn, 1) := by decide +kernel
theorem dX9_words_0 : decode cX9_words 0 = .ok (.aload_n 0, 1) := by decide +kernel
theorem dX9_words_1 : decode cX9_words 1 = .ok (.iconst 0, 1) := by decide +kernel
theorem dX9_words_2 : decode cX9_words 2 = .ok (.putfield 202, 3) := by decide +kernel
theorem dX9_words_5 : decode cX9_words 5 = .ok (.iconst 0, 1) := by decide +kernel
theorem dX9_words_6 : decode cX9_words 6 = .ok (.istore_n 1, 1) := by decide +kernel
theorem dX9_words_7 : decode cX9_words 7 = .ok (.aload_n 0, 1) := by decide +kernel
theorem dX9_words_8 : decode cX9_words 8 = .ok (.invokevirtual 205, 3) := by decide +kernel
theorem dX9_words_11 : decode cX9_words 11 = .ok (.ifCond .eq 7, 3) := by decide +kernel
theorem dX9_words_14 : decode cX9_words 14 = .ok (.iconst 1, 1) := by decide +kernel
theorem dX9_words_15 : decode cX9_words 15 = .ok (.goto 4, 3) := by decide +kernel
theorem dX9_words_18 : decode cX9_words 18 = .ok (.iconst 0, 1) := by decide +kernel
theorem dX9_words_19 : decode cX9_words 19 = .ok (.istore_n 2, 1) := by decide +kernel
theorem dX9_words_20 : decode cX9_words 20 = .ok (.iload_n 2, 1) := by decide +kernel
theorem dX9_words_21 : decode cX9_words 21 = .ok (.ifCond .eq 43, 3) := by decide +kernel
theorem dX9_words_24 : decode cX9_words 24 = .ok (.aload_n 0, 1) := by decide +kernel
theorem dX9_words_25 : decode cX9_words 25 = .ok (.iload_n 1, 1) := by decide +kernel
theorem dX9_words_26 : decode cX9_words 26 = .ok (.invokevirtual 221, 3) := by decide +kernel
theorem dX9_words_29 : decode cX9_words 29 = .ok (.ifCond .ne 8, 3) := by decide +kernel
theorem dX9_words_32 : decode cX9_words 32 = .ok (.aload_n 0, 1) := by decide +kernel
theorem dX9_words_33 : decode cX9_words 33 = .ok (.invokevirtual 224, 3) := by decide +kernel
theorem dX9_words_36 : decode cX9_words 36 = .ok (.ireturn, 1) := by decide +kernel
theorem dX9_words_37 : decode cX9_words 37 = .ok (.iinc 1 1, 3) := by decide +kernel
theorem dX9_words_40 : decode cX9_words 40 = .ok (.iload_n 1, 1) := by decide +kernel
theorem dX9_words_41 : decode cX9_words 41 = .ok (.bipush 8, 2) := by decide +kernel
theorem dX9_words_43 : decode cX9_words 43 = .ok (.if_icmp .ge 16, 3) := by decide +kernel
theorem dX9_words_46 : decode cX9_words 46 = .ok (.aload_n 0, 1) := by decide +kernel
theorem dX9_words_47 : decode cX9_words 47 = .ok (.bipush 59, 2) := by decide +kernel
theorem dX9_words_49 : decode cX9_words 49 = .ok (.invokevirtual 218, 3) := by decide +kernel
theorem dX9_words_52 : decode cX9_words 52 = .ok (.ifCond .eq 7, 3) := by decide +kernel
theorem dX9_words_55 : decode cX9_words 55 = .ok (.iconst 1, 1) := by decide +kernel
theorem dX9_words_56 : decode cX9_words 56 = .ok (.goto 4, 3) := by decide +kernel
theorem dX9_words_59 : decode cX9_words 59 = .ok (.iconst 0, 1) := by decide +kernel
theorem dX9_words_60 : decode cX9_words 60 = .ok (.istore_n 2, 1) := by decide +kernel
theorem dX9_words_61 : decode cX9_words 61 = .ok (.goto (-41), 3) := by decide +kernel
theorem dX9_words_64 : decode cX9_words 64 = .ok (.aload_n 0, 1) := by decide +kernel
theorem dX9_words_65 : decode cX9_words 65 = .ok (.invokevirtual 205, 3) := by decide +kernel
theorem dX9_words_68 : decode cX9_words 68 = .ok (.ifCond .eq 8, 3) := by decide +kernel
theorem dX9_words_71 : decode cX9_words 71 = .ok (.aload_n 0, 1) := by decide +kernel
theorem dX9_words_72 : decode cX9_words 72 = .ok (.invokevirtual 224, 3) := by decide +kernel
theorem dX9_words_75 : decode cX9_words 75 = .ok (.ireturn, 1) := by decide +kernel
theorem dX9_words_76 : decode cX9_words 76 = .ok (.aload_n 0, 1) := by decide +kernel
theorem dX9_words_77 : decode cX9_words 77 = .ok (.invokevirtual 227, 3) := by decide +kernel
theorem dX9_words_80 : decode cX9_words 80 = .ok (.aload_n 0, 1) := by decide +kernel
theorem dX9_words_81 : decode cX9_words 81 = .ok (.getfield 7, 3) := by decide +kernel
theorem dX9_words_84 : decode cX9_words 84 = .ok (.iconst 0, 1) := by decide +kernel
theorem dX9_words_85 : decode cX9_words 85 = .ok (.iload_n 1, 1) := by decide +kernel
theorem dX9_words_86 : decode cX9_words 86 = .ok (.iastore, 1) := by decide +kernel
theorem dX9_words_87 : decode cX9_words 87 = .ok (.iconst 0, 1) := by decide +kernel
theorem dX9_words_88 : decode cX9_words 88 = .ok (.istore_n 3, 1) := by decide +kernel
theorem dX9_words_89 : decode cX9_words 89 = .ok (.iload_n 3, 1) := by decide +kernel
theorem dX9_words_90 : decode cX9_words 90 = .ok (.bipush 9, 2) := by decide +kernel
theorem dX9_words_92 : decode cX9_words 92 = .ok (.iload_n 1, 1) := by decide +kernel
theorem dX9_words_93 : decode cX9_words 93 = .ok (.imul, 1) := by decide +kernel
theorem dX9_words_94 : decode cX9_words 94 = .ok (.if_icmp .ge 23, 3) := by decide +kernel
theorem dX9_words_97 : decode cX9_words 97 = .ok (.aload_n 0, 1) := by decide +kernel
theorem dX9_words_98 : decode cX9_words 98 = .ok (.getfield 7, 3) := by decide +kernel
theorem dX9_words_101 : decode cX9_words 101 = .ok (.iconst 4, 1) := by decide +kernel
theorem dX9_words_102 : decode cX9_words 102 = .ok (.iload_n 3, 1) := by decide +kernel
theorem dX9_words_103 : decode cX9_words 103 = .ok (.iadd, 1) := by decide +kernel
theorem dX9_words_104 : decode cX9_words 104 = .ok (.aload_n 0, 1) := by decide +kernel
theorem dX9_words_105 : decode cX9_words 105 = .ok (.getfield 44, 3) := by decide +kernel
theorem dX9_words_108 : decode cX9_words 108 = .ok (.iload_n 3, 1) := by decide +kernel
theorem dX9_words_109 : decode cX9_words 109 = .ok (.iaload, 1) := by decide +kernel
theorem dX9_words_110 : decode cX9_words 110 = .ok (.iastore, 1) := by decide +kernel
theorem dX9_words_111 : decode cX9_words 111 = .ok (.iinc 3 1, 3) := by decide +kernel
theorem dX9_words_114 : decode cX9_words 114 = .ok (.goto (-25), 3) := by decide +kernel
theorem dX9_words_117 : decode cX9_words 117 = .ok (.iconst 0, 1) := by decide +kernel
theorem dX9_words_118 : decode cX9_words 118 = .ok (.istore_n 3, 1) := by decide +kernel
theorem dX9_words_119 : decode cX9_words 119 = .ok (.iload_n 3, 1) := by decide +kernel
theorem dX9_words_120 : decode cX9_words 120 = .ok (.iload_n 1, 1) := by decide +kernel
theorem dX9_words_121 : decode cX9_words 121 = .ok (.if_icmp .ge 65, 3) := by decide +kernel
theorem dX9_words_124 : decode cX9_words 124 = .ok (.aload_n 0, 1) := by decide +kernel
theorem dX9_words_125 : decode cX9_words 125 = .ok (.getfield 7, 3) := by decide +kernel
theorem dX9_words_128 : decode cX9_words 128 = .ok (.aload_n 0, 1) := by decide +kernel
theorem dX9_words_129 : decode cX9_words 129 = .ok (.iload_n 3, 1) := by decide +kernel
theorem dX9_words_130 : decode cX9_words 130 = .ok (.invokevirtual 79, 3) := by decide +kernel
theorem dX9_words_133 : decode cX9_words 133 = .ok (.iaload, 1) := by decide +kernel
theorem dX9_words_134 : decode cX9_words 134 = .ok (.istore 4, 2) := by decide +kernel
theorem dX9_words_136 : decode cX9_words 136 = .ok (.iload 4, 2) := by decide +kernel
theorem dX9_words_138 : decode cX9_words 138 = .ok (.iconst 4, 1) := by decide +kernel
theorem dX9_words_139 : decode cX9_words 139 = .ok (.if_icmp .ge 41, 3) := by decide +kernel
theorem dX9_words_142 : decode cX9_words 142 = .ok (.aload_n 0, 1) := by decide +kernel
theorem dX9_words_143 : decode cX9_words 143 = .ok (.getfield 7, 3) := by decide +kernel
theorem dX9_words_146 : decode cX9_words 146 = .ok (.aload_n 0, 1) := by decide +kernel
theorem dX9_words_147 : decode cX9_words 147 = .ok (.iload_n 3, 1) := by decide +kernel
theorem dX9_words_148 : decode cX9_words 148 = .ok (.invokevirtual 79, 3) := by decide +kernel
theorem dX9_words_151 : decode cX9_words 151 = .ok (.iconst 1, 1) := by decide +kernel
theorem dX9_words_152 : decode cX9_words 152 = .ok (.iadd, 1) := by decide +kernel
theorem dX9_words_153 : decode cX9_words 153 = .ok (.iload 4, 2) := by decide +kernel
theorem dX9_words_155 : decode cX9_words 155 = .ok (.iadd, 1) := by decide +kernel
theorem dX9_words_156 : decode cX9_words 156 = .ok (.iconst 0, 1) := by decide +kernel
theorem dX9_words_157 : decode cX9_words 157 = .ok (.iastore, 1) := by decide +kernel
theorem dX9_words_158 : decode cX9_words 158 = .ok (.aload_n 0, 1) := by decide +kernel
theorem dX9_words_159 : decode cX9_words 159 = .ok (.getfield 7, 3) := by decide +kernel
theorem dX9_words_162 : decode cX9_words 162 = .ok (.aload_n 0, 1) := by decide +kernel
theorem dX9_words_163 : decode cX9_words 163 = .ok (.iload_n 3, 1) := by decide +kernel
theorem dX9_words_164 : decode cX9_words 164 = .ok (.invokevirtual 79, 3) := by decide +kernel
theorem dX9_words_167 : decode cX9_words 167 = .ok (.iconst 5, 1) := by decide +kernel
theorem dX9_words_168 : decode cX9_words 168 = .ok (.iadd, 1) := by decide +kernel
theorem dX9_words_169 : decode cX9_words 169 = .ok (.iload 4, 2) := by decide +kernel
theorem dX9_words_171 : decode cX9_words 171 = .ok (.iadd, 1) := by decide +kernel
theorem dX9_words_172 : decode cX9_words 172 = .ok (.iconst 0, 1) := by decide +kernel
theorem dX9_words_173 : decode cX9_words 173 = .ok (.iastore, 1) := by decide +kernel
theorem dX9_words_174 : decode cX9_words 174 = .ok (.iinc 4 1, 3) := by decide +kernel
theorem dX9_words_177 : decode cX9_words 177 = .ok (.goto (-41), 3) := by decide +kernel
theorem dX9_words_180 : decode cX9_words 180 = .ok (.iinc 3 1, 3) := by decide +kernel
theorem dX9_words_183 : decode cX9_words 183 = .ok (.goto (-64), 3) := by decide +kernel
theorem dX9_words_186 : decode cX9_words 186 = .ok (.aload_n 0, 1) := by decide +kernel
theorem dX9_words_187 : decode cX9_words 187 = .ok (.iconst 0, 1) := by decide +kernel
theorem dX9_words_188 : decode cX9_words 188 = .ok (.putfield 192, 3) := by decide +kernel
theorem dX9_words_191 : decode cX9_words 191 = .ok (.aload_n 0, 1) := by decide +kernel
theorem dX9_words_192 : decode cX9_words 192 = .ok (.iconst 0, 1) := by decide +kernel
theorem dX9_words_193 : decode cX9_words 193 = .ok (.putfield 199, 3) := by decide +kernel
theorem dX9_words_196 : decode cX9_words 196 = .ok (.iload_n 1, 1) := by decide +kernel
theorem dX9_words_197 : decode cX9_words 197 = .ok (.ireturn, 1) := by decide +kernel
theorem dX9_clears_0 : decode cX9_clears 0 = .ok (.aload_n 0, 1) := by decide +kernel
theorem dX9_clears_1 : decode cX9_clears 1 = .ok (.getfield 7, 3) := by decide +kernel
theorem dX9_clears_4 : decode cX9_clears 4 = .ok (.iconst 0, 1) := by decide +kernel
theorem dX9_clears_5 : decode cX9_clears 5 = .ok (.iconst 0, 1) := by decide +kernel
theorem dX9_clears_6 : decode cX9_clears 6 = .ok (.iastore, 1) := by decide +kernel
theorem dX9_clears_7 : decode cX9_clears 7 = .ok (.iconst 4, 1) := by decide +kernel
theorem dX9_clears_8 : decode cX9_clears 8 = .ok (.istore_n 1, 1) := by decide +kernel
theorem dX9_clears_9 : decode cX9_clears 9 = .ok (.iload_n 1, 1) := by decide +kernel
theorem dX9_clears_10 : decode cX9_clears 10 = .ok (.bipush 76, 2) := by decide +kernel
theorem dX9_clears_12 : decode cX9_clears 12 = .ok (.if_icmp .ge 16, 3) := by decide +kernel
theorem dX9_clears_15 : decode cX9_clears 15 = .ok (.aload_n 0, 1) := by decide +kernel
theorem dX9_clears_16 : decode cX9_clears 16 = .ok (.getfield 7, 3) := by decide +kernel
theorem dX9_clears_19 : decode cX9_clears 19 = .ok (.iload_n 1, 1) := by decide +kernel
theorem dX9_clears_20 : decode cX9_clears 20 = .ok (.iconst 0, 1) := by decide +kernel
theorem dX9_clears_21 : decode cX9_clears 21 = .ok (.iastore, 1) := by decide +kernel
theorem dX9_clears_22 : decode cX9_clears 22 = .ok (.iinc 1 1, 3) := by decide +kernel
theorem dX9_clears_25 : decode cX9_clears 25 = .ok (.goto (-16), 3) := by decide +kernel
theorem dX9_clears_28 : decode cX9_clears 28 = .ok (.return_, 1) := by decide +kernel
theorem dX9_hears_0 : decode cX9_hears 0 = .ok (.aload_n 0, 1) := by decide +kernel
theorem dX9_hears_1 : decode cX9_hears 1 = .ok (.getfield 7, 3) := by decide +kernel
theorem dX9_hears_4 : decode cX9_hears 4 = .ok (.iconst 0, 1) := by decide +kernel
theorem dX9_hears_5 : decode cX9_hears 5 = .ok (.iaload, 1) := by decide +kernel
theorem dX9_hears_6 : decode cX9_hears 6 = .ok (.istore_n 3, 1) := by decide +kernel
theorem dX9_hears_7 : decode cX9_hears 7 = .ok (.aload_n 0, 1) := by decide +kernel
theorem dX9_hears_8 : decode cX9_hears 8 = .ok (.getfield 7, 3) := by decide +kernel
theorem dX9_hears_11 : decode cX9_hears 11 = .ok (.iconst 0, 1) := by decide +kernel
theorem dX9_hears_12 : decode cX9_hears 12 = .ok (.dup2, 1) := by decide +kernel
theorem dX9_hears_13 : decode cX9_hears 13 = .ok (.iaload, 1) := by decide +kernel
theorem dX9_hears_14 : decode cX9_hears 14 = .ok (.iconst 1, 1) := by decide +kernel
theorem dX9_hears_15 : decode cX9_hears 15 = .ok (.iadd, 1) := by decide +kernel
theorem dX9_hears_16 : decode cX9_hears 16 = .ok (.iastore, 1) := by decide +kernel
theorem dX9_hears_17 : decode cX9_hears 17 = .ok (.aload_n 0, 1) := by decide +kernel
theorem dX9_hears_18 : decode cX9_hears 18 = .ok (.getfield 7, 3) := by decide +kernel
theorem dX9_hears_21 : decode cX9_hears 21 = .ok (.aload_n 0, 1) := by decide +kernel
theorem dX9_hears_22 : decode cX9_hears 22 = .ok (.iload_n 3, 1) := by decide +kernel
theorem dX9_hears_23 : decode cX9_hears 23 = .ok (.invokevirtual 79, 3) := by decide +kernel
theorem dX9_hears_26 : decode cX9_hears 26 = .ok (.iconst 1, 1) := by decide +kernel
theorem dX9_hears_27 : decode cX9_hears 27 = .ok (.iastore, 1) := by decide +kernel
theorem dX9_hears_28 : decode cX9_hears 28 = .ok (.aload_n 0, 1) := by decide +kernel
theorem dX9_hears_29 : decode cX9_hears 29 = .ok (.getfield 7, 3) := by decide +kernel
theorem dX9_hears_32 : decode cX9_hears 32 = .ok (.aload_n 0, 1) := by decide +kernel
theorem dX9_hears_33 : decode cX9_hears 33 = .ok (.iload_n 3, 1) := by decide +kernel
theorem dX9_hears_34 : decode cX9_hears 34 = .ok (.invokevirtual 79, 3) := by decide +kernel
theorem dX9_hears_37 : decode cX9_hears 37 = .ok (.iconst 1, 1) := by decide +kernel
theorem dX9_hears_38 : decode cX9_hears 38 = .ok (.iadd, 1) := by decide +kernel
theorem dX9_hears_39 : decode cX9_hears 39 = .ok (.iload_n 1, 1) := by decide +kernel
theorem dX9_hears_40 : decode cX9_hears 40 = .ok (.iastore, 1) := by decide +kernel
theorem dX9_hears_41 : decode cX9_hears 41 = .ok (.aload_n 0, 1) := by decide +kernel
theorem dX9_hears_42 : decode cX9_hears 42 = .ok (.getfield 7, 3) := by decide +kernel
theorem dX9_hears_45 : decode cX9_hears 45 = .ok (.aload_n 0, 1) := by decide +kernel
theorem dX9_hears_46 : decode cX9_hears 46 = .ok (.iload_n 3, 1) := by decide +kernel
theorem dX9_hears_47 : decode cX9_hears 47 = .ok (.invokevirtual 79, 3) := by decide +kernel
theorem dX9_hears_50 : decode cX9_hears 50 = .ok (.iconst 5, 1) := by decide +kernel
theorem dX9_hears_51 : decode cX9_hears 51 = .ok (.iadd, 1) := by decide +kernel
theorem dX9_hears_52 : decode cX9_hears 52 = .ok (.iload_n 2, 1) := by decide +kernel
theorem dX9_hears_53 : decode cX9_hears 53 = .ok (.iastore, 1) := by decide +kernel
theorem dX9_hears_54 : decode cX9_hears 54 = .ok (.return_, 1) := by decide +kernel
theorem dX9_says_0 : decode cX9_says 0 = .ok (.aload_n 0, 1) := by decide +kernel
theorem dX9_says_1 : decode cX9_says 1 = .ok (.getfield 47, 3) := by decide +kernel
theorem dX9_says_4 : decode cX9_says 4 = .ok (.aload_n 0, 1) := by decide +kernel
theorem dX9_says_5 : decode cX9_says 5 = .ok (.getfield 230, 3) := by decide +kernel
theorem dX9_says_8 : decode cX9_says 8 = .ok (.iload_n 1, 1) := by decide +kernel
theorem dX9_says_9 : decode cX9_says 9 = .ok (.iastore, 1) := by decide +kernel
theorem dX9_says_10 : decode cX9_says 10 = .ok (.aload_n 0, 1) := by decide +kernel
theorem dX9_says_11 : decode cX9_says 11 = .ok (.dup, 1) := by decide +kernel
theorem dX9_says_12 : decode cX9_says 12 = .ok (.getfield 230, 3) := by decide +kernel
theorem dX9_says_15 : decode cX9_says 15 = .ok (.iconst 1, 1) := by decide +kernel
theorem dX9_says_16 : decode cX9_says 16 = .ok (.iadd, 1) := by decide +kernel
theorem dX9_says_17 : decode cX9_says 17 = .ok (.putfield 230, 3) := by decide +kernel
theorem dX9_says_20 : decode cX9_says 20 = .ok (.return_, 1) := by decide +kernel
theorem dX9_saysSmall_0 : decode cX9_saysSmall 0 = .ok (.iload_n 1, 1) := by decide +kernel
theorem dX9_saysSmall_1 : decode cX9_saysSmall 1 = .ok (.bipush 100, 2) := by decide +kernel
theorem dX9_saysSmall_3 : decode cX9_saysSmall 3 = .ok (.if_icmp .lt 17, 3) := by decide +kernel
theorem dX9_saysSmall_6 : decode cX9_saysSmall 6 = .ok (.aload_n 0, 1) := by decide +kernel
theorem dX9_saysSmall_7 : decode cX9_saysSmall 7 = .ok (.iload_n 1, 1) := by decide +kernel
theorem dX9_saysSmall_8 : decode cX9_saysSmall 8 = .ok (.bipush 100, 2) := by decide +kernel
theorem dX9_saysSmall_10 : decode cX9_saysSmall 10 = .ok (.idiv, 1) := by decide +kernel
theorem dX9_saysSmall_11 : decode cX9_saysSmall 11 = .ok (.invokevirtual 233, 3) := by decide +kernel
theorem dX9_saysSmall_14 : decode cX9_saysSmall 14 = .ok (.aload_n 0, 1) := by decide +kernel
theorem dX9_saysSmall_15 : decode cX9_saysSmall 15 = .ok (.bipush 28, 2) := by decide +kernel
theorem dX9_saysSmall_17 : decode cX9_saysSmall 17 = .ok (.invokevirtual 233, 3) := by decide +kernel
theorem dX9_saysSmall_20 : decode cX9_saysSmall 20 = .ok (.iload_n 1, 1) := by decide +kernel
theorem dX9_saysSmall_21 : decode cX9_saysSmall 21 = .ok (.bipush 100, 2) := by decide +kernel
theorem dX9_saysSmall_23 : decode cX9_saysSmall 23 = .ok (.irem, 1) := by decide +kernel
theorem dX9_saysSmall_24 : decode cX9_saysSmall 24 = .ok (.istore_n 2, 1) := by decide +kernel
theorem dX9_saysSmall_25 : decode cX9_saysSmall 25 = .ok (.iload_n 2, 1) := by decide +kernel
theorem dX9_saysSmall_26 : decode cX9_saysSmall 26 = .ok (.bipush 19, 2) := by decide +kernel
theorem dX9_saysSmall_28 : decode cX9_saysSmall 28 = .ok (.if_icmp .le 14, 3) := by decide +kernel
theorem dX9_saysSmall_31 : decode cX9_saysSmall 31 = .ok (.aload_n 0, 1) := by decide +kernel
theorem dX9_saysSmall_32 : decode cX9_saysSmall 32 = .ok (.bipush 18, 2) := by decide +kernel
theorem dX9_saysSmall_34 : decode cX9_saysSmall 34 = .ok (.iload_n 2, 1) := by decide +kernel
theorem dX9_saysSmall_35 : decode cX9_saysSmall 35 = .ok (.bipush 10, 2) := by decide +kernel
theorem dX9_saysSmall_37 : decode cX9_saysSmall 37 = .ok (.idiv, 1) := by decide +kernel
theorem dX9_saysSmall_38 : decode cX9_saysSmall 38 = .ok (.iadd, 1) := by decide +kernel
theorem dX9_saysSmall_39 : decode cX9_saysSmall 39 = .ok (.invokevirtual 233, 3) := by decide +kernel
theorem dX9_saysSmall_42 : decode cX9_saysSmall 42 = .ok (.iload_n 2, 1) := by decide +kernel
theorem dX9_saysSmall_43 : decode cX9_saysSmall 43 = .ok (.bipush 19, 2) := by decide +kernel
theorem dX9_saysSmall_45 : decode cX9_saysSmall 45 = .ok (.if_icmp .le 10, 3) := by decide +kernel
theorem dX9_saysSmall_48 : decode cX9_saysSmall 48 = .ok (.iload_n 2, 1) := by decide +kernel
theorem dX9_saysSmall_49 : decode cX9_saysSmall 49 = .ok (.bipush 10, 2) := by decide +kernel
theorem dX9_saysSmall_51 : decode cX9_saysSmall 51 = .ok (.irem, 1) := by decide +kernel
theorem dX9_saysSmall_52 : decode cX9_saysSmall 52 = .ok (.goto 4, 3) := by decide +kernel
theorem dX9_saysSmall_55 : decode cX9_saysSmall 55 = .ok (.iload_n 2, 1) := by decide +kernel
theorem dX9_saysSmall_56 : decode cX9_saysSmall 56 = .ok (.istore_n 3, 1) := by decide +kernel
theorem dX9_saysSmall_57 : decode cX9_saysSmall 57 = .ok (.iload_n 3, 1) := by decide +kernel
theorem dX9_saysSmall_58 : decode cX9_saysSmall 58 = .ok (.ifCond .le 8, 3) := by decide +kernel
theorem dX9_saysSmall_61 : decode cX9_saysSmall 61 = .ok (.aload_n 0, 1) := by decide +kernel
theorem dX9_saysSmall_62 : decode cX9_saysSmall 62 = .ok (.iload_n 3, 1) := by decide +kernel
theorem dX9_saysSmall_63 : decode cX9_saysSmall 63 = .ok (.invokevirtual 233, 3) := by decide +kernel
theorem dX9_saysSmall_66 : decode cX9_saysSmall 66 = .ok (.return_, 1) := by decide +kernel
theorem dX9_say_0 : decode cX9_say 0 = .ok (.iload_n 1, 1) := by decide +kernel
theorem dX9_say_1 : decode cX9_say 1 = .ok (.i2l, 1) := by decide +kernel
theorem dX9_say_2 : decode cX9_say 2 = .ok (.lconst 1, 1) := by decide +kernel
theorem dX9_say_3 : decode cX9_say 3 = .ok (.ldc2_w 237, 3) := by decide +kernel
theorem dX9_say_6 : decode cX9_say 6 = .ok (.invokestatic 75, 3) := by decide +kernel
theorem dX9_say_9 : decode cX9_say 9 = .ok (.ifCond .ne 5, 3) := by decide +kernel
theorem dX9_say_12 : decode cX9_say 12 = .ok (.iconst (-1), 1) := by decide +kernel
theorem dX9_say_13 : decode cX9_say 13 = .ok (.ireturn, 1) := by decide +kernel
theorem dX9_say_14 : decode cX9_say 14 = .ok (.aload_n 0, 1) := by decide +kernel
theorem dX9_say_15 : decode cX9_say 15 = .ok (.iconst 0, 1) := by decide +kernel
theorem dX9_say_16 : decode cX9_say 16 = .ok (.putfield 230, 3) := by decide +kernel
theorem dX9_say_19 : decode cX9_say 19 = .ok (.iload_n 1, 1) := by decide +kernel
theorem dX9_say_20 : decode cX9_say 20 = .ok (.sipush 1000, 3) := by decide +kernel
theorem dX9_say_23 : decode cX9_say 23 = .ok (.if_icmp .lt 18, 3) := by decide +kernel
theorem dX9_say_26 : decode cX9_say 26 = .ok (.aload_n 0, 1) := by decide +kernel
theorem dX9_say_27 : decode cX9_say 27 = .ok (.iload_n 1, 1) := by decide +kernel
theorem dX9_say_28 : decode cX9_say 28 = .ok (.sipush 1000, 3) := by decide +kernel
theorem dX9_say_31 : decode cX9_say 31 = .ok (.idiv, 1) := by decide +kernel
theorem dX9_say_32 : decode cX9_say 32 = .ok (.invokevirtual 239, 3) := by decide +kernel
theorem dX9_say_35 : decode cX9_say 35 = .ok (.aload_n 0, 1) := by decide +kernel
theorem dX9_say_36 : decode cX9_say 36 = .ok (.bipush 29, 2) := by decide +kernel
theorem dX9_say_38 : decode cX9_say 38 = .ok (.invokevirtual 233, 3) := by decide +kernel
theorem dX9_say_41 : decode cX9_say 41 = .ok (.aload_n 0, 1) := by decide +kernel
theorem dX9_say_42 : decode cX9_say 42 = .ok (.iload_n 1, 1) := by decide +kernel
theorem dX9_say_43 : decode cX9_say 43 = .ok (.sipush 1000, 3) := by decide +kernel
theorem dX9_say_46 : decode cX9_say 46 = .ok (.irem, 1) := by decide +kernel
theorem dX9_say_47 : decode cX9_say 47 = .ok (.invokevirtual 239, 3) := by decide +kernel
theorem dX9_say_50 : decode cX9_say 50 = .ok (.aload_n 0, 1) := by decide +kernel
theorem dX9_say_51 : decode cX9_say 51 = .ok (.getfield 230, 3) := by decide +kernel
theorem dX9_say_54 : decode cX9_say 54 = .ok (.bipush 8, 2) := by decide +kernel
theorem dX9_say_56 : decode cX9_say 56 = .ok (.if_icmp .le 6, 3) := by decide +kernel
theorem dX9_say_59 : decode cX9_say 59 = .ok (.bipush (-3), 2) := by decide +kernel
theorem dX9_say_61 : decode cX9_say 61 = .ok (.ireturn, 1) := by decide +kernel
theorem dX9_say_62 : decode cX9_say 62 = .ok (.aload_n 0, 1) := by decide +kernel
theorem dX9_say_63 : decode cX9_say 63 = .ok (.invokevirtual 227, 3) := by decide +kernel
theorem dX9_say_66 : decode cX9_say 66 = .ok (.iconst 0, 1) := by decide +kernel
theorem dX9_say_67 : decode cX9_say 67 = .ok (.istore_n 2, 1) := by decide +kernel
theorem dX9_say_68 : decode cX9_say 68 = .ok (.iload_n 2, 1) := by decide +kernel
theorem dX9_say_69 : decode cX9_say 69 = .ok (.aload_n 0, 1) := by decide +kernel
theorem dX9_say_70 : decode cX9_say 70 = .ok (.getfield 230, 3) := by decide +kernel
theorem dX9_say_73 : decode cX9_say 73 = .ok (.if_icmp .ge 20, 3) := by decide +kernel
theorem dX9_say_76 : decode cX9_say 76 = .ok (.aload_n 0, 1) := by decide +kernel
theorem dX9_say_77 : decode cX9_say 77 = .ok (.aload_n 0, 1) := by decide +kernel
theorem dX9_say_78 : decode cX9_say 78 = .ok (.getfield 47, 3) := by decide +kernel
theorem dX9_say_81 : decode cX9_say 81 = .ok (.iload_n 2, 1) := by decide +kernel
theorem dX9_say_82 : decode cX9_say 82 = .ok (.iaload, 1) := by decide +kernel
theorem dX9_say_83 : decode cX9_say 83 = .ok (.iconst 0, 1) := by decide +kernel
theorem dX9_say_84 : decode cX9_say 84 = .ok (.invokevirtual 242, 3) := by decide +kernel
theorem dX9_say_87 : decode cX9_say 87 = .ok (.iinc 2 1, 3) := by decide +kernel
theorem dX9_say_90 : decode cX9_say 90 = .ok (.goto (-22), 3) := by decide +kernel
theorem dX9_say_93 : decode cX9_say 93 = .ok (.aload_n 0, 1) := by decide +kernel
theorem dX9_say_94 : decode cX9_say 94 = .ok (.iconst 0, 1) := by decide +kernel
theorem dX9_say_95 : decode cX9_say 95 = .ok (.putfield 192, 3) := by decide +kernel
theorem dX9_say_98 : decode cX9_say 98 = .ok (.aload_n 0, 1) := by decide +kernel
theorem dX9_say_99 : decode cX9_say 99 = .ok (.getfield 230, 3) := by decide +kernel
theorem dX9_say_102 : decode cX9_say 102 = .ok (.ireturn, 1) := by decide +kernel
theorem dX9_notes_0 : decode cX9_notes 0 = .ok (.aload_n 0, 1) := by decide +kernel
theorem dX9_notes_1 : decode cX9_notes 1 = .ok (.getfield 192, 3) := by decide +kernel
theorem dX9_notes_4 : decode cX9_notes 4 = .ok (.bipush 8, 2) := by decide +kernel
theorem dX9_notes_6 : decode cX9_notes 6 = .ok (.if_icmp .ne 40, 3) := by decide +kernel
theorem dX9_notes_9 : decode cX9_notes 9 = .ok (.bipush 76, 2) := by decide +kernel
theorem dX9_notes_11 : decode cX9_notes 11 = .ok (.istore_n 1, 1) := by decide +kernel
theorem dX9_notes_12 : decode cX9_notes 12 = .ok (.iload_n 1, 1) := by decide +kernel
theorem dX9_notes_13 : decode cX9_notes 13 = .ok (.sipush 608, 3) := by decide +kernel
theorem dX9_notes_16 : decode cX9_notes 16 = .ok (.if_icmp .ge 24, 3) := by decide +kernel
theorem dX9_notes_19 : decode cX9_notes 19 = .ok (.aload_n 0, 1) := by decide +kernel
theorem dX9_notes_20 : decode cX9_notes 20 = .ok (.getfield 50, 3) := by decide +kernel
theorem dX9_notes_23 : decode cX9_notes 23 = .ok (.iload_n 1, 1) := by decide +kernel
theorem dX9_notes_24 : decode cX9_notes 24 = .ok (.bipush 76, 2) := by decide +kernel
theorem dX9_notes_26 : decode cX9_notes 26 = .ok (.isub, 1) := by decide +kernel
theorem dX9_notes_27 : decode cX9_notes 27 = .ok (.aload_n 0, 1) := by decide +kernel
theorem dX9_notes_28 : decode cX9_notes 28 = .ok (.getfield 50, 3) := by decide +kernel
theorem dX9_notes_31 : decode cX9_notes 31 = .ok (.iload_n 1, 1) := by decide +kernel
theorem dX9_notes_32 : decode cX9_notes 32 = .ok (.iaload, 1) := by decide +kernel
theorem dX9_notes_33 : decode cX9_notes 33 = .ok (.iastore, 1) := by decide +kernel
theorem dX9_notes_34 : decode cX9_notes 34 = .ok (.iinc 1 1, 3) := by decide +kernel
theorem dX9_notes_37 : decode cX9_notes 37 = .ok (.goto (-25), 3) := by decide +kernel
theorem dX9_notes_40 : decode cX9_notes 40 = .ok (.aload_n 0, 1) := by decide +kernel
theorem dX9_notes_41 : decode cX9_notes 41 = .ok (.bipush 7, 2) := by decide +kernel
theorem dX9_notes_43 : decode cX9_notes 43 = .ok (.putfield 192, 3) := by decide +kernel
theorem dX9_notes_46 : decode cX9_notes 46 = .ok (.iconst 0, 1) := by decide +kernel
theorem dX9_notes_47 : decode cX9_notes 47 = .ok (.istore_n 1, 1) := by decide +kernel
theorem dX9_notes_48 : decode cX9_notes 48 = .ok (.iload_n 1, 1) := by decide +kernel
theorem dX9_notes_49 : decode cX9_notes 49 = .ok (.bipush 76, 2) := by decide +kernel
theorem dX9_notes_51 : decode cX9_notes 51 = .ok (.if_icmp .ge 29, 3) := by decide +kernel
theorem dX9_notes_54 : decode cX9_notes 54 = .ok (.aload_n 0, 1) := by decide +kernel
theorem dX9_notes_55 : decode cX9_notes 55 = .ok (.getfield 50, 3) := by decide +kernel
theorem dX9_notes_58 : decode cX9_notes 58 = .ok (.bipush 76, 2) := by decide +kernel
theorem dX9_notes_60 : decode cX9_notes 60 = .ok (.aload_n 0, 1) := by decide +kernel
theorem dX9_notes_61 : decode cX9_notes 61 = .ok (.getfield 192, 3) := by decide +kernel
theorem dX9_notes_64 : decode cX9_notes 64 = .ok (.imul, 1) := by decide +kernel
theorem dX9_notes_65 : decode cX9_notes 65 = .ok (.iload_n 1, 1) := by decide +kernel
theorem dX9_notes_66 : decode cX9_notes 66 = .ok (.iadd, 1) := by decide +kernel
theorem dX9_notes_67 : decode cX9_notes 67 = .ok (.aload_n 0, 1) := by decide +kernel
theorem dX9_notes_68 : decode cX9_notes 68 = .ok (.getfield 7, 3) := by decide +kernel
theorem dX9_notes_71 : decode cX9_notes 71 = .ok (.iload_n 1, 1) := by decide +kernel
theorem dX9_notes_72 : decode cX9_notes 72 = .ok (.iaload, 1) := by decide +kernel
theorem dX9_notes_73 : decode cX9_notes 73 = .ok (.iastore, 1) := by decide +kernel
theorem dX9_notes_74 : decode cX9_notes 74 = .ok (.iinc 1 1, 3) := by decide +kernel
theorem dX9_notes_77 : decode cX9_notes 77 = .ok (.goto (-29), 3) := by decide +kernel
theorem dX9_notes_80 : decode cX9_notes 80 = .ok (.aload_n 0, 1) := by decide +kernel
theorem dX9_notes_81 : decode cX9_notes 81 = .ok (.dup, 1) := by decide +kernel
theorem dX9_notes_82 : decode cX9_notes 82 = .ok (.getfield 192, 3) := by decide +kernel
theorem dX9_notes_85 : decode cX9_notes 85 = .ok (.iconst 1, 1) := by decide +kernel
theorem dX9_notes_86 : decode cX9_notes 86 = .ok (.iadd, 1) := by decide +kernel
theorem dX9_notes_87 : decode cX9_notes 87 = .ok (.putfield 192, 3) := by decide +kernel
theorem dX9_notes_90 : decode cX9_notes 90 = .ok (.return_, 1) := by decide +kernel
theorem dX9_isWord_0 : decode cX9_isWord 0 = .ok (.iload_n 0, 1) := by decide +kernel
theorem dX9_isWord_1 : decode cX9_isWord 1 = .ok (.i2l, 1) := by decide +kernel
theorem dX9_isWord_2 : decode cX9_isWord 2 = .ok (.lconst 0, 1) := by decide +kernel
theorem dX9_isWord_3 : decode cX9_isWord 3 = .ok (.ldc2_w 246, 3) := by decide +kernel
theorem dX9_isWord_6 : decode cX9_isWord 6 = .ok (.invokestatic 75, 3) := by decide +kernel
theorem dX9_isWord_9 : decode cX9_isWord 9 = .ok (.ireturn, 1) := by decide +kernel
theorem dX9_hear_0 : decode cX9_hear 0 = .ok (.iload_n 1, 1) := by decide +kernel
theorem dX9_hear_1 : decode cX9_hear 1 = .ok (.invokestatic 248, 3) := by decide +kernel
theorem dX9_hear_4 : decode cX9_hear 4 = .ok (.ifCond .eq 15, 3) := by decide +kernel
theorem dX9_hear_7 : decode cX9_hear 7 = .ok (.iload_n 2, 1) := by decide +kernel
theorem dX9_hear_8 : decode cX9_hear 8 = .ok (.i2l, 1) := by decide +kernel
theorem dX9_hear_9 : decode cX9_hear 9 = .ok (.lconst 0, 1) := by decide +kernel
theorem dX9_hear_10 : decode cX9_hear 10 = .ok (.ldc2_w 102, 3) := by decide +kernel
theorem dX9_hear_13 : decode cX9_hear 13 = .ok (.invokestatic 75, 3) := by decide +kernel
theorem dX9_hear_16 : decode cX9_hear 16 = .ok (.ifCond .ne 5, 3) := by decide +kernel
theorem dX9_hear_19 : decode cX9_hear 19 = .ok (.iconst (-1), 1) := by decide +kernel
theorem dX9_hear_20 : decode cX9_hear 20 = .ok (.ireturn, 1) := by decide +kernel
theorem dX9_hear_21 : decode cX9_hear 21 = .ok (.aload_n 0, 1) := by decide +kernel
theorem dX9_hear_22 : decode cX9_hear 22 = .ok (.getfield 7, 3) := by decide +kernel
theorem dX9_hear_25 : decode cX9_hear 25 = .ok (.iconst 0, 1) := by decide +kernel
theorem dX9_hear_26 : decode cX9_hear 26 = .ok (.iaload, 1) := by decide +kernel
theorem dX9_hear_27 : decode cX9_hear 27 = .ok (.bipush 8, 2) := by decide +kernel
theorem dX9_hear_29 : decode cX9_hear 29 = .ok (.if_icmp .ne 6, 3) := by decide +kernel
theorem dX9_hear_32 : decode cX9_hear 32 = .ok (.bipush (-3), 2) := by decide +kernel
theorem dX9_hear_34 : decode cX9_hear 34 = .ok (.ireturn, 1) := by decide +kernel
theorem dX9_hear_35 : decode cX9_hear 35 = .ok (.aload_n 0, 1) := by decide +kernel
theorem dX9_hear_36 : decode cX9_hear 36 = .ok (.invokevirtual 251, 3) := by decide +kernel
theorem dX9_hear_39 : decode cX9_hear 39 = .ok (.aload_n 0, 1) := by decide +kernel
theorem dX9_hear_40 : decode cX9_hear 40 = .ok (.iload_n 1, 1) := by decide +kernel
theorem dX9_hear_41 : decode cX9_hear 41 = .ok (.iload_n 2, 1) := by decide +kernel
theorem dX9_hear_42 : decode cX9_hear 42 = .ok (.invokevirtual 242, 3) := by decide +kernel
theorem dX9_hear_45 : decode cX9_hear 45 = .ok (.aload_n 0, 1) := by decide +kernel
theorem dX9_hear_46 : decode cX9_hear 46 = .ok (.getfield 7, 3) := by decide +kernel
theorem dX9_hear_49 : decode cX9_hear 49 = .ok (.iconst 0, 1) := by decide +kernel
theorem dX9_hear_50 : decode cX9_hear 50 = .ok (.iaload, 1) := by decide +kernel
theorem dX9_hear_51 : decode cX9_hear 51 = .ok (.ireturn, 1) := by decide +kernel
theorem dX9_comes_0 : decode cX9_comes 0 = .ok (.aload_n 0, 1) := by decide +kernel
theorem dX9_comes_1 : decode cX9_comes 1 = .ok (.getfield 7, 3) := by decide +kernel
theorem dX9_comes_4 : decode cX9_comes 4 = .ok (.aload_n 0, 1) := by decide +kernel
theorem dX9_comes_5 : decode cX9_comes 5 = .ok (.iload_n 1, 1) := by decide +kernel
theorem dX9_comes_6 : decode cX9_comes 6 = .ok (.invokevirtual 79, 3) := by decide +kernel
theorem dX9_comes_9 : decode cX9_comes 9 = .ok (.iaload, 1) := by decide +kernel
theorem dX9_comes_10 : decode cX9_comes 10 = .ok (.istore 4, 2) := by decide +kernel
theorem dX9_comes_12 : decode cX9_comes 12 = .ok (.aload_n 0, 1) := by decide +kernel
theorem dX9_comes_13 : decode cX9_comes 13 = .ok (.getfield 7, 3) := by decide +kernel
theorem dX9_comes_16 : decode cX9_comes 16 = .ok (.aload_n 0, 1) := by decide +kernel
theorem dX9_comes_17 : decode cX9_comes 17 = .ok (.iload_n 1, 1) := by decide +kernel
theorem dX9_comes_18 : decode cX9_comes 18 = .ok (.invokevirtual 79, 3) := by decide +kernel
theorem dX9_comes_21 : decode cX9_comes 21 = .ok (.iconst 1, 1) := by decide +kernel
theorem dX9_comes_22 : decode cX9_comes 22 = .ok (.iadd, 1) := by decide +kernel
theorem dX9_comes_23 : decode cX9_comes 23 = .ok (.iload 4, 2) := by decide +kernel
theorem dX9_comes_25 : decode cX9_comes 25 = .ok (.iadd, 1) := by decide +kernel
theorem dX9_comes_26 : decode cX9_comes 26 = .ok (.iload_n 2, 1) := by decide +kernel
theorem dX9_comes_27 : decode cX9_comes 27 = .ok (.iastore, 1) := by decide +kernel
theorem dX9_comes_28 : decode cX9_comes 28 = .ok (.aload_n 0, 1) := by decide +kernel
theorem dX9_comes_29 : decode cX9_comes 29 = .ok (.getfield 7, 3) := by decide +kernel
theorem dX9_comes_32 : decode cX9_comes 32 = .ok (.aload_n 0, 1) := by decide +kernel
theorem dX9_comes_33 : decode cX9_comes 33 = .ok (.iload_n 1, 1) := by decide +kernel
theorem dX9_comes_34 : decode cX9_comes 34 = .ok (.invokevirtual 79, 3) := by decide +kernel
theorem dX9_comes_37 : decode cX9_comes 37 = .ok (.iconst 5, 1) := by decide +kernel
theorem dX9_comes_38 : decode cX9_comes 38 = .ok (.iadd, 1) := by decide +kernel
theorem dX9_comes_39 : decode cX9_comes 39 = .ok (.iload 4, 2) := by decide +kernel
theorem dX9_comes_41 : decode cX9_comes 41 = .ok (.iadd, 1) := by decide +kernel
theorem dX9_comes_42 : decode cX9_comes 42 = .ok (.iload_n 3, 1) := by decide +kernel
theorem dX9_comes_43 : decode cX9_comes 43 = .ok (.iastore, 1) := by decide +kernel
theorem dX9_comes_44 : decode cX9_comes 44 = .ok (.aload_n 0, 1) := by decide +kernel
theorem dX9_comes_45 : decode cX9_comes 45 = .ok (.getfield 7, 3) := by decide +kernel
theorem dX9_comes_48 : decode cX9_comes 48 = .ok (.aload_n 0, 1) := by decide +kernel
theorem dX9_comes_49 : decode cX9_comes 49 = .ok (.iload_n 1, 1) := by decide +kernel
theorem dX9_comes_50 : decode cX9_comes 50 = .ok (.invokevirtual 79, 3) := by decide +kernel
theorem dX9_comes_53 : decode cX9_comes 53 = .ok (.dup2, 1) := by decide +kernel
theorem dX9_comes_54 : decode cX9_comes 54 = .ok (.iaload, 1) := by decide +kernel
theorem dX9_comes_55 : decode cX9_comes 55 = .ok (.iconst 1, 1) := by decide +kernel
theorem dX9_comes_56 : decode cX9_comes 56 = .ok (.iadd, 1) := by decide +kernel
theorem dX9_comes_57 : decode cX9_comes 57 = .ok (.iastore, 1) := by decide +kernel
theorem dX9_comes_58 : decode cX9_comes 58 = .ok (.return_, 1) := by decide +kernel
theorem dX9_also_0 : decode cX9_also 0 = .ok (.aload_n 0, 1) := by decide +kernel
theorem dX9_also_1 : decode cX9_also 1 = .ok (.iload_n 1, 1) := by decide +kernel
theorem dX9_also_2 : decode cX9_also 2 = .ok (.invokevirtual 183, 3) := by decide +kernel
theorem dX9_also_5 : decode cX9_also 5 = .ok (.ifCond .eq 22, 3) := by decide +kernel
theorem dX9_also_8 : decode cX9_also 8 = .ok (.iload_n 2, 1) := by decide +kernel
theorem dX9_also_9 : decode cX9_also 9 = .ok (.invokestatic 248, 3) := by decide +kernel
theorem dX9_also_12 : decode cX9_also 12 = .ok (.ifCond .eq 15, 3) := by decide +kernel
theorem dX9_also_15 : decode cX9_also 15 = .ok (.iload_n 3, 1) := by decide +kernel
theorem dX9_also_16 : decode cX9_also 16 = .ok (.i2l, 1) := by decide +kernel
theorem dX9_also_17 : decode cX9_also 17 = .ok (.lconst 0, 1) := by decide +kernel
theorem dX9_also_18 : decode cX9_also 18 = .ok (.ldc2_w 102, 3) := by decide +kernel
theorem dX9_also_21 : decode cX9_also 21 = .ok (.invokestatic 75, 3) := by decide +kernel
theorem dX9_also_24 : decode cX9_also 24 = .ok (.ifCond .ne 5, 3) := by decide +kernel
theorem dX9_also_27 : decode cX9_also 27 = .ok (.iconst (-1), 1) := by decide +kernel
theorem dX9_also_28 : decode cX9_also 28 = .ok (.ireturn, 1) := by decide +kernel
theorem dX9_also_29 : decode cX9_also 29 = .ok (.aload_n 0, 1) := by decide +kernel
theorem dX9_also_30 : decode cX9_also 30 = .ok (.iload_n 1, 1) := by decide +kernel
theorem dX9_also_31 : decode cX9_also 31 = .ok (.iload_n 2, 1) := by decide +kernel
theorem dX9_also_32 : decode cX9_also 32 = .ok (.invokevirtual 254, 3) := by decide +kernel
theorem dX9_also_35 : decode cX9_also 35 = .ok (.bipush (-4), 2) := by decide +kernel
theorem dX9_also_37 : decode cX9_also 37 = .ok (.if_icmp .eq 6, 3) := by decide +kernel
theorem dX9_also_40 : decode cX9_also 40 = .ok (.bipush (-2), 2) := by decide +kernel
theorem dX9_also_42 : decode cX9_also 42 = .ok (.ireturn, 1) := by decide +kernel
theorem dX9_also_43 : decode cX9_also 43 = .ok (.aload_n 0, 1) := by decide +kernel
theorem dX9_also_44 : decode cX9_also 44 = .ok (.getfield 7, 3) := by decide +kernel
theorem dX9_also_47 : decode cX9_also 47 = .ok (.aload_n 0, 1) := by decide +kernel
theorem dX9_also_48 : decode cX9_also 48 = .ok (.iload_n 1, 1) := by decide +kernel
theorem dX9_also_49 : decode cX9_also 49 = .ok (.invokevirtual 79, 3) := by decide +kernel
theorem dX9_also_52 : decode cX9_also 52 = .ok (.iaload, 1) := by decide +kernel
theorem dX9_also_53 : decode cX9_also 53 = .ok (.iconst 4, 1) := by decide +kernel
theorem dX9_also_54 : decode cX9_also 54 = .ok (.if_icmp .ne 6, 3) := by decide +kernel
theorem dX9_also_57 : decode cX9_also 57 = .ok (.bipush (-3), 2) := by decide +kernel
theorem dX9_also_59 : decode cX9_also 59 = .ok (.ireturn, 1) := by decide +kernel
theorem dX9_also_60 : decode cX9_also 60 = .ok (.aload_n 0, 1) := by decide +kernel
theorem dX9_also_61 : decode cX9_also 61 = .ok (.invokevirtual 251, 3) := by decide +kernel
theorem dX9_also_64 : decode cX9_also 64 = .ok (.aload_n 0, 1) := by decide +kernel
theorem dX9_also_65 : decode cX9_also 65 = .ok (.iload_n 1, 1) := by decide +kernel
theorem dX9_also_66 : decode cX9_also 66 = .ok (.iload_n 2, 1) := by decide +kernel
theorem dX9_also_67 : decode cX9_also 67 = .ok (.iload_n 3, 1) := by decide +kernel
theorem dX9_also_68 : decode cX9_also 68 = .ok (.invokevirtual 258, 3) := by decide +kernel
theorem dX9_also_71 : decode cX9_also 71 = .ok (.aload_n 0, 1) := by decide +kernel
theorem dX9_also_72 : decode cX9_also 72 = .ok (.getfield 7, 3) := by decide +kernel
theorem dX9_also_75 : decode cX9_also 75 = .ok (.aload_n 0, 1) := by decide +kernel
theorem dX9_also_76 : decode cX9_also 76 = .ok (.iload_n 1, 1) := by decide +kernel
theorem dX9_also_77 : decode cX9_also 77 = .ok (.invokevirtual 79, 3) := by decide +kernel
theorem dX9_also_80 : decode cX9_also 80 = .ok (.iaload, 1) := by decide +kernel
theorem dX9_also_81 : decode cX9_also 81 = .ok (.ireturn, 1) := by decide +kernel
theorem dX9_lose_0 : decode cX9_lose 0 = .ok (.aload_n 0, 1) := by decide +kernel
theorem dX9_lose_1 : decode cX9_lose 1 = .ok (.iload_n 1, 1) := by decide +kernel
theorem dX9_lose_2 : decode cX9_lose 2 = .ok (.invokevirtual 183, 3) := by decide +kernel
theorem dX9_lose_5 : decode cX9_lose 5 = .ok (.ifCond .ne 5, 3) := by decide +kernel
theorem dX9_lose_8 : decode cX9_lose 8 = .ok (.iconst (-1), 1) := by decide +kernel
theorem dX9_lose_9 : decode cX9_lose 9 = .ok (.ireturn, 1) := by decide +kernel
theorem dX9_lose_10 : decode cX9_lose 10 = .ok (.aload_n 0, 1) := by decide +kernel
theorem dX9_lose_11 : decode cX9_lose 11 = .ok (.invokevirtual 251, 3) := by decide +kernel
theorem dX9_lose_14 : decode cX9_lose 14 = .ok (.aload_n 0, 1) := by decide +kernel
theorem dX9_lose_15 : decode cX9_lose 15 = .ok (.getfield 7, 3) := by decide +kernel
theorem dX9_lose_18 : decode cX9_lose 18 = .ok (.iconst 0, 1) := by decide +kernel
theorem dX9_lose_19 : decode cX9_lose 19 = .ok (.dup2, 1) := by decide +kernel
theorem dX9_lose_20 : decode cX9_lose 20 = .ok (.iaload, 1) := by decide +kernel
theorem dX9_lose_21 : decode cX9_lose 21 = .ok (.iconst 1, 1) := by decide +kernel
theorem dX9_lose_22 : decode cX9_lose 22 = .ok (.isub, 1) := by decide +kernel
theorem dX9_lose_23 : decode cX9_lose 23 = .ok (.iastore, 1) := by decide +kernel
theorem dX9_lose_24 : decode cX9_lose 24 = .ok (.aload_n 0, 1) := by decide +kernel
theorem dX9_lose_25 : decode cX9_lose 25 = .ok (.iload_n 1, 1) := by decide +kernel
theorem dX9_lose_26 : decode cX9_lose 26 = .ok (.invokevirtual 79, 3) := by decide +kernel
theorem dX9_lose_29 : decode cX9_lose 29 = .ok (.istore_n 2, 1) := by decide +kernel
theorem dX9_lose_30 : decode cX9_lose 30 = .ok (.iload_n 2, 1) := by decide +kernel
theorem dX9_lose_31 : decode cX9_lose 31 = .ok (.aload_n 0, 1) := by decide +kernel
theorem dX9_lose_32 : decode cX9_lose 32 = .ok (.aload_n 0, 1) := by decide +kernel
theorem dX9_lose_33 : decode cX9_lose 33 = .ok (.getfield 7, 3) := by decide +kernel
theorem dX9_lose_36 : decode cX9_lose 36 = .ok (.iconst 0, 1) := by decide +kernel
theorem dX9_lose_37 : decode cX9_lose 37 = .ok (.iaload, 1) := by decide +kernel
theorem dX9_lose_38 : decode cX9_lose 38 = .ok (.invokevirtual 79, 3) := by decide +kernel
theorem dX9_lose_41 : decode cX9_lose 41 = .ok (.if_icmp .ge 24, 3) := by decide +kernel
theorem dX9_lose_44 : decode cX9_lose 44 = .ok (.aload_n 0, 1) := by decide +kernel
theorem dX9_lose_45 : decode cX9_lose 45 = .ok (.getfield 7, 3) := by decide +kernel
theorem dX9_lose_48 : decode cX9_lose 48 = .ok (.iload_n 2, 1) := by decide +kernel
theorem dX9_lose_49 : decode cX9_lose 49 = .ok (.aload_n 0, 1) := by decide +kernel
theorem dX9_lose_50 : decode cX9_lose 50 = .ok (.getfield 7, 3) := by decide +kernel
theorem dX9_lose_53 : decode cX9_lose 53 = .ok (.iload_n 2, 1) := by decide +kernel
theorem dX9_lose_54 : decode cX9_lose 54 = .ok (.bipush 9, 2) := by decide +kernel
theorem dX9_lose_56 : decode cX9_lose 56 = .ok (.iadd, 1) := by decide +kernel
theorem dX9_lose_57 : decode cX9_lose 57 = .ok (.iaload, 1) := by decide +kernel
theorem dX9_lose_58 : decode cX9_lose 58 = .ok (.iastore, 1) := by decide +kernel
theorem dX9_lose_59 : decode cX9_lose 59 = .ok (.iinc 2 1, 3) := by decide +kernel
theorem dX9_lose_62 : decode cX9_lose 62 = .ok (.goto (-32), 3) := by decide +kernel
theorem dX9_lose_65 : decode cX9_lose 65 = .ok (.iconst 0, 1) := by decide +kernel
theorem dX9_lose_66 : decode cX9_lose 66 = .ok (.istore_n 2, 1) := by decide +kernel
theorem dX9_lose_67 : decode cX9_lose 67 = .ok (.iload_n 2, 1) := by decide +kernel
theorem dX9_lose_68 : decode cX9_lose 68 = .ok (.bipush 9, 2) := by decide +kernel
theorem dX9_lose_70 : decode cX9_lose 70 = .ok (.if_icmp .ge 27, 3) := by decide +kernel
theorem dX9_lose_73 : decode cX9_lose 73 = .ok (.aload_n 0, 1) := by decide +kernel
theorem dX9_lose_74 : decode cX9_lose 74 = .ok (.getfield 7, 3) := by decide +kernel
theorem dX9_lose_77 : decode cX9_lose 77 = .ok (.aload_n 0, 1) := by decide +kernel
theorem dX9_lose_78 : decode cX9_lose 78 = .ok (.aload_n 0, 1) := by decide +kernel
theorem dX9_lose_79 : decode cX9_lose 79 = .ok (.getfield 7, 3) := by decide +kernel
theorem dX9_lose_82 : decode cX9_lose 82 = .ok (.iconst 0, 1) := by decide +kernel
theorem dX9_lose_83 : decode cX9_lose 83 = .ok (.iaload, 1) := by decide +kernel
theorem dX9_lose_84 : decode cX9_lose 84 = .ok (.invokevirtual 79, 3) := by decide +kernel
theorem dX9_lose_87 : decode cX9_lose 87 = .ok (.iload_n 2, 1) := by decide +kernel
theorem dX9_lose_88 : decode cX9_lose 88 = .ok (.iadd, 1) := by decide +kernel
theorem dX9_lose_89 : decode cX9_lose 89 = .ok (.iconst 0, 1) := by decide +kernel
theorem dX9_lose_90 : decode cX9_lose 90 = .ok (.iastore, 1) := by decide +kernel
theorem dX9_lose_91 : decode cX9_lose 91 = .ok (.iinc 2 1, 3) := by decide +kernel
theorem dX9_lose_94 : decode cX9_lose 94 = .ok (.goto (-27), 3) := by decide +kernel
theorem dX9_lose_97 : decode cX9_lose 97 = .ok (.aload_n 0, 1) := by decide +kernel
theorem dX9_lose_98 : decode cX9_lose 98 = .ok (.getfield 7, 3) := by decide +kernel
theorem dX9_lose_101 : decode cX9_lose 101 = .ok (.iconst 0, 1) := by decide +kernel
theorem dX9_lose_102 : decode cX9_lose 102 = .ok (.iaload, 1) := by decide +kernel
theorem dX9_lose_103 : decode cX9_lose 103 = .ok (.ireturn, 1) := by decide +kernel
theorem dX9_settle_0 : decode cX9_settle 0 = .ok (.aload_n 0, 1) := by decide +kernel
theorem dX9_settle_1 : decode cX9_settle 1 = .ok (.iload_n 1, 1) := by decide +kernel
theorem dX9_settle_2 : decode cX9_settle 2 = .ok (.invokevirtual 183, 3) := by decide +kernel
theorem dX9_settle_5 : decode cX9_settle 5 = .ok (.ifCond .eq 10, 3) := by decide +kernel
theorem dX9_settle_8 : decode cX9_settle 8 = .ok (.iload_n 2, 1) := by decide +kernel
theorem dX9_settle_9 : decode cX9_settle 9 = .ok (.invokestatic 248, 3) := by decide +kernel
theorem dX9_settle_12 : decode cX9_settle 12 = .ok (.ifCond .ne 5, 3) := by decide +kernel
theorem dX9_settle_15 : decode cX9_settle 15 = .ok (.iconst (-1), 1) := by decide +kernel
theorem dX9_settle_16 : decode cX9_settle 16 = .ok (.ireturn, 1) := by decide +kernel
theorem dX9_settle_17 : decode cX9_settle 17 = .ok (.aload_n 0, 1) := by decide +kernel
theorem dX9_settle_18 : decode cX9_settle 18 = .ok (.iload_n 1, 1) := by decide +kernel
theorem dX9_settle_19 : decode cX9_settle 19 = .ok (.iload_n 2, 1) := by decide +kernel
theorem dX9_settle_20 : decode cX9_settle 20 = .ok (.invokevirtual 254, 3) := by decide +kernel
theorem dX9_settle_23 : decode cX9_settle 23 = .ok (.istore_n 3, 1) := by decide +kernel
theorem dX9_settle_24 : decode cX9_settle 24 = .ok (.aload_n 0, 1) := by decide +kernel
theorem dX9_settle_25 : decode cX9_settle 25 = .ok (.getfield 7, 3) := by decide +kernel
theorem dX9_settle_28 : decode cX9_settle 28 = .ok (.aload_n 0, 1) := by decide +kernel
theorem dX9_settle_29 : decode cX9_settle 29 = .ok (.iload_n 1, 1) := by decide +kernel
theorem dX9_settle_30 : decode cX9_settle 30 = .ok (.invokevirtual 79, 3) := by decide +kernel
theorem dX9_settle_33 : decode cX9_settle 33 = .ok (.iaload, 1) := by decide +kernel
theorem dX9_settle_34 : decode cX9_settle 34 = .ok (.istore 4, 2) := by decide +kernel
theorem dX9_settle_36 : decode cX9_settle 36 = .ok (.iload_n 3, 1) := by decide +kernel
theorem dX9_settle_37 : decode cX9_settle 37 = .ok (.bipush (-4), 2) := by decide +kernel
theorem dX9_settle_39 : decode cX9_settle 39 = .ok (.if_icmp .eq 9, 3) := by decide +kernel
theorem dX9_settle_42 : decode cX9_settle 42 = .ok (.iload 4, 2) := by decide +kernel
theorem dX9_settle_44 : decode cX9_settle 44 = .ok (.iconst 1, 1) := by decide +kernel
theorem dX9_settle_45 : decode cX9_settle 45 = .ok (.if_icmp .ne 6, 3) := by decide +kernel
theorem dX9_settle_48 : decode cX9_settle 48 = .ok (.bipush (-2), 2) := by decide +kernel
theorem dX9_settle_50 : decode cX9_settle 50 = .ok (.ireturn, 1) := by decide +kernel
theorem dX9_settle_51 : decode cX9_settle 51 = .ok (.aload_n 0, 1) := by decide +kernel
theorem dX9_settle_52 : decode cX9_settle 52 = .ok (.invokevirtual 251, 3) := by decide +kernel
theorem dX9_settle_55 : decode cX9_settle 55 = .ok (.aload_n 0, 1) := by decide +kernel
theorem dX9_settle_56 : decode cX9_settle 56 = .ok (.getfield 7, 3) := by decide +kernel
theorem dX9_settle_59 : decode cX9_settle 59 = .ok (.aload_n 0, 1) := by decide +kernel
theorem dX9_settle_60 : decode cX9_settle 60 = .ok (.iload_n 1, 1) := by decide +kernel
theorem dX9_settle_61 : decode cX9_settle 61 = .ok (.invokevirtual 79, 3) := by decide +kernel
theorem dX9_settle_64 : decode cX9_settle 64 = .ok (.iconst 5, 1) := by decide +kernel
theorem dX9_settle_65 : decode cX9_settle 65 = .ok (.iadd, 1) := by decide +kernel
theorem dX9_settle_66 : decode cX9_settle 66 = .ok (.iload_n 3, 1) := by decide +kernel
theorem dX9_settle_67 : decode cX9_settle 67 = .ok (.iadd, 1) := by decide +kernel
theorem dX9_settle_68 : decode cX9_settle 68 = .ok (.iaload, 1) := by decide +kernel
theorem dX9_settle_69 : decode cX9_settle 69 = .ok (.istore 5, 2) := by decide +kernel
theorem dX9_settle_71 : decode cX9_settle 71 = .ok (.iconst 0, 1) := by decide +kernel
theorem dX9_settle_72 : decode cX9_settle 72 = .ok (.istore 6, 2) := by decide +kernel
theorem dX9_settle_74 : decode cX9_settle 74 = .ok (.iload 6, 2) := by decide +kernel
theorem dX9_settle_76 : decode cX9_settle 76 = .ok (.bipush 9, 2) := by decide +kernel
theorem dX9_settle_78 : decode cX9_settle 78 = .ok (.if_icmp .ge 23, 3) := by decide +kernel
theorem dX9_settle_81 : decode cX9_settle 81 = .ok (.aload_n 0, 1) := by decide +kernel
theorem dX9_settle_82 : decode cX9_settle 82 = .ok (.getfield 7, 3) := by decide +kernel
theorem dX9_settle_85 : decode cX9_settle 85 = .ok (.aload_n 0, 1) := by decide +kernel
theorem dX9_settle_86 : decode cX9_settle 86 = .ok (.iload_n 1, 1) := by decide +kernel
theorem dX9_settle_87 : decode cX9_settle 87 = .ok (.invokevirtual 79, 3) := by decide +kernel
theorem dX9_settle_90 : decode cX9_settle 90 = .ok (.iload 6, 2) := by decide +kernel
theorem dX9_settle_92 : decode cX9_settle 92 = .ok (.iadd, 1) := by decide +kernel
theorem dX9_settle_93 : decode cX9_settle 93 = .ok (.iconst 0, 1) := by decide +kernel
theorem dX9_settle_94 : decode cX9_settle 94 = .ok (.iastore, 1) := by decide +kernel
theorem dX9_settle_95 : decode cX9_settle 95 = .ok (.iinc 6 1, 3) := by decide +kernel
theorem dX9_settle_98 : decode cX9_settle 98 = .ok (.goto (-24), 3) := by decide +kernel
theorem dX9_settle_101 : decode cX9_settle 101 = .ok (.aload_n 0, 1) := by decide +kernel
theorem dX9_settle_102 : decode cX9_settle 102 = .ok (.iload_n 1, 1) := by decide +kernel
theorem dX9_settle_103 : decode cX9_settle 103 = .ok (.iload_n 2, 1) := by decide +kernel
theorem dX9_settle_104 : decode cX9_settle 104 = .ok (.iload 5, 2) := by decide +kernel
theorem dX9_settle_106 : decode cX9_settle 106 = .ok (.invokevirtual 258, 3) := by decide +kernel
theorem dX9_settle_109 : decode cX9_settle 109 = .ok (.iload 4, 2) := by decide +kernel
theorem dX9_settle_111 : decode cX9_settle 111 = .ok (.iconst 1, 1) := by decide +kernel
theorem dX9_settle_112 : decode cX9_settle 112 = .ok (.isub, 1) := by decide +kernel
theorem dX9_settle_113 : decode cX9_settle 113 = .ok (.ireturn, 1) := by decide +kernel
theorem dX9_check_0 : decode cX9_check 0 = .ok (.iload_n 1, 1) := by decide +kernel
theorem dX9_check_1 : decode cX9_check 1 = .ok (.i2l, 1) := by decide +kernel
theorem dX9_check_2 : decode cX9_check 2 = .ok (.lconst 0, 1) := by decide +kernel
theorem dX9_check_3 : decode cX9_check 3 = .ok (.ldc2_w 262, 3) := by decide +kernel
theorem dX9_check_6 : decode cX9_check 6 = .ok (.invokestatic 75, 3) := by decide +kernel
theorem dX9_check_9 : decode cX9_check 9 = .ok (.ifCond .ne 5, 3) := by decide +kernel
theorem dX9_check_12 : decode cX9_check 12 = .ok (.iconst (-1), 1) := by decide +kernel
theorem dX9_check_13 : decode cX9_check 13 = .ok (.ireturn, 1) := by decide +kernel
theorem dX9_check_14 : decode cX9_check 14 = .ok (.aload_n 0, 1) := by decide +kernel
theorem dX9_check_15 : decode cX9_check 15 = .ok (.getfield 7, 3) := by decide +kernel
theorem dX9_check_18 : decode cX9_check 18 = .ok (.iconst 1, 1) := by decide +kernel
theorem dX9_check_19 : decode cX9_check 19 = .ok (.iaload, 1) := by decide +kernel
theorem dX9_check_20 : decode cX9_check 20 = .ok (.istore_n 2, 1) := by decide +kernel
theorem dX9_check_21 : decode cX9_check 21 = .ok (.iload_n 2, 1) := by decide +kernel
theorem dX9_check_22 : decode cX9_check 22 = .ok (.iload_n 1, 1) := by decide +kernel
theorem dX9_check_23 : decode cX9_check 23 = .ok (.if_icmp .ne 6, 3) := by decide +kernel
theorem dX9_check_26 : decode cX9_check 26 = .ok (.bipush (-2), 2) := by decide +kernel
theorem dX9_check_28 : decode cX9_check 28 = .ok (.ireturn, 1) := by decide +kernel
theorem dX9_check_29 : decode cX9_check 29 = .ok (.aload_n 0, 1) := by decide +kernel
theorem dX9_check_30 : decode cX9_check 30 = .ok (.invokevirtual 251, 3) := by decide +kernel
theorem dX9_check_33 : decode cX9_check 33 = .ok (.aload_n 0, 1) := by decide +kernel
theorem dX9_check_34 : decode cX9_check 34 = .ok (.getfield 7, 3) := by decide +kernel
theorem dX9_check_37 : decode cX9_check 37 = .ok (.iconst 1, 1) := by decide +kernel
theorem dX9_check_38 : decode cX9_check 38 = .ok (.iload_n 1, 1) := by decide +kernel
theorem dX9_check_39 : decode cX9_check 39 = .ok (.iastore, 1) := by decide +kernel
theorem dX9_check_40 : decode cX9_check 40 = .ok (.iload_n 2, 1) := by decide +kernel
theorem dX9_check_41 : decode cX9_check 41 = .ok (.ireturn, 1) := by decide +kernel
theorem dX9_slack_0 : decode cX9_slack 0 = .ok (.iload_n 1, 1) := by decide +kernel
theorem dX9_slack_1 : decode cX9_slack 1 = .ok (.i2l, 1) := by decide +kernel
theorem dX9_slack_2 : decode cX9_slack 2 = .ok (.lconst 0, 1) := by decide +kernel
theorem dX9_slack_3 : decode cX9_slack 3 = .ok (.ldc2_w 91, 3) := by decide +kernel
theorem dX9_slack_6 : decode cX9_slack 6 = .ok (.invokestatic 75, 3) := by decide +kernel
theorem dX9_slack_9 : decode cX9_slack 9 = .ok (.ifCond .ne 5, 3) := by decide +kernel
theorem dX9_slack_12 : decode cX9_slack 12 = .ok (.iconst (-1), 1) := by decide +kernel
theorem dX9_slack_13 : decode cX9_slack 13 = .ok (.ireturn, 1) := by decide +kernel
theorem dX9_slack_14 : decode cX9_slack 14 = .ok (.aload_n 0, 1) := by decide +kernel
theorem dX9_slack_15 : decode cX9_slack 15 = .ok (.getfield 7, 3) := by decide +kernel
theorem dX9_slack_18 : decode cX9_slack 18 = .ok (.iconst 2, 1) := by decide +kernel
theorem dX9_slack_19 : decode cX9_slack 19 = .ok (.iaload, 1) := by decide +kernel
theorem dX9_slack_20 : decode cX9_slack 20 = .ok (.istore_n 2, 1) := by decide +kernel
theorem dX9_slack_21 : decode cX9_slack 21 = .ok (.iload_n 2, 1) := by decide +kernel
theorem dX9_slack_22 : decode cX9_slack 22 = .ok (.iload_n 1, 1) := by decide +kernel
theorem dX9_slack_23 : decode cX9_slack 23 = .ok (.if_icmp .ne 6, 3) := by decide +kernel
theorem dX9_slack_26 : decode cX9_slack 26 = .ok (.bipush (-2), 2) := by decide +kernel
theorem dX9_slack_28 : decode cX9_slack 28 = .ok (.ireturn, 1) := by decide +kernel
theorem dX9_slack_29 : decode cX9_slack 29 = .ok (.aload_n 0, 1) := by decide +kernel
theorem dX9_slack_30 : decode cX9_slack 30 = .ok (.invokevirtual 251, 3) := by decide +kernel
theorem dX9_slack_33 : decode cX9_slack 33 = .ok (.aload_n 0, 1) := by decide +kernel
theorem dX9_slack_34 : decode cX9_slack 34 = .ok (.getfield 7, 3) := by decide +kernel
theorem dX9_slack_37 : decode cX9_slack 37 = .ok (.iconst 2, 1) := by decide +kernel
theorem dX9_slack_38 : decode cX9_slack 38 = .ok (.iload_n 1, 1) := by decide +kernel
theorem dX9_slack_39 : decode cX9_slack 39 = .ok (.iastore, 1) := by decide +kernel
theorem dX9_slack_40 : decode cX9_slack 40 = .ok (.iload_n 2, 1) := by decide +kernel
theorem dX9_slack_41 : decode cX9_slack 41 = .ok (.ireturn, 1) := by decide +kernel
theorem dX9_storm_0 : decode cX9_storm 0 = .ok (.iload_n 1, 1) := by decide +kernel
theorem dX9_storm_1 : decode cX9_storm 1 = .ok (.i2l, 1) := by decide +kernel
theorem dX9_storm_2 : decode cX9_storm 2 = .ok (.lconst 1, 1) := by decide +kernel
theorem dX9_storm_3 : decode cX9_storm 3 = .ok (.ldc2_w 264, 3) := by decide +kernel
theorem dX9_storm_6 : decode cX9_storm 6 = .ok (.invokestatic 75, 3) := by decide +kernel
theorem dX9_storm_9 : decode cX9_storm 9 = .ok (.ifCond .ne 5, 3) := by decide +kernel
theorem dX9_storm_12 : decode cX9_storm 12 = .ok (.iconst (-1), 1) := by decide +kernel
theorem dX9_storm_13 : decode cX9_storm 13 = .ok (.ireturn, 1) := by decide +kernel
theorem dX9_storm_14 : decode cX9_storm 14 = .ok (.iconst 0, 1) := by decide +kernel
theorem dX9_storm_15 : decode cX9_storm 15 = .ok (.istore_n 2, 1) := by decide +kernel
theorem dX9_storm_16 : decode cX9_storm 16 = .ok (.iload_n 2, 1) := by decide +kernel
theorem dX9_storm_17 : decode cX9_storm 17 = .ok (.iload_n 1, 1) := by decide +kernel
theorem dX9_storm_18 : decode cX9_storm 18 = .ok (.if_icmp .ge 130, 3) := by decide +kernel
theorem dX9_storm_21 : decode cX9_storm 21 = .ok (.aload_n 0, 1) := by decide +kernel
theorem dX9_storm_22 : decode cX9_storm 22 = .ok (.invokevirtual 251, 3) := by decide +kernel
theorem dX9_storm_25 : decode cX9_storm 25 = .ok (.aload_n 0, 1) := by decide +kernel
theorem dX9_storm_26 : decode cX9_storm 26 = .ok (.getfield 7, 3) := by decide +kernel
theorem dX9_storm_29 : decode cX9_storm 29 = .ok (.iconst 3, 1) := by decide +kernel
theorem dX9_storm_30 : decode cX9_storm 30 = .ok (.iaload, 1) := by decide +kernel
theorem dX9_storm_31 : decode cX9_storm 31 = .ok (.i2l, 1) := by decide +kernel
theorem dX9_storm_32 : decode cX9_storm 32 = .ok (.ldc2_w 266, 3) := by decide +kernel
theorem dX9_storm_35 : decode cX9_storm 35 = .ok (.lmul, 1) := by decide +kernel
theorem dX9_storm_36 : decode cX9_storm 36 = .ok (.ldc2_w 268, 3) := by decide +kernel
theorem dX9_storm_39 : decode cX9_storm 39 = .ok (.ladd, 1) := by decide +kernel
theorem dX9_storm_40 : decode cX9_storm 40 = .ok (.ldc2_w 270, 3) := by decide +kernel
theorem dX9_storm_43 : decode cX9_storm 43 = .ok (.lrem, 1) := by decide +kernel
theorem dX9_storm_44 : decode cX9_storm 44 = .ok (.lstore_n 3, 1) := by decide +kernel
theorem dX9_storm_45 : decode cX9_storm 45 = .ok (.aload_n 0, 1) := by decide +kernel
theorem dX9_storm_46 : decode cX9_storm 46 = .ok (.getfield 7, 3) := by decide +kernel
theorem dX9_storm_49 : decode cX9_storm 49 = .ok (.iconst 3, 1) := by decide +kernel
theorem dX9_storm_50 : decode cX9_storm 50 = .ok (.lload_n 3, 1) := by decide +kernel
theorem dX9_storm_51 : decode cX9_storm 51 = .ok (.l2i, 1) := by decide +kernel
theorem dX9_storm_52 : decode cX9_storm 52 = .ok (.iastore, 1) := by decide +kernel
theorem dX9_storm_53 : decode cX9_storm 53 = .ok (.aload_n 0, 1) := by decide +kernel
theorem dX9_storm_54 : decode cX9_storm 54 = .ok (.getfield 7, 3) := by decide +kernel
theorem dX9_storm_57 : decode cX9_storm 57 = .ok (.iconst 3, 1) := by decide +kernel
theorem dX9_storm_58 : decode cX9_storm 58 = .ok (.iaload, 1) := by decide +kernel
theorem dX9_storm_59 : decode cX9_storm 59 = .ok (.ldc_w 272, 3) := by decide +kernel
theorem dX9_storm_62 : decode cX9_storm 62 = .ok (.idiv, 1) := by decide +kernel
theorem dX9_storm_63 : decode cX9_storm 63 = .ok (.istore 5, 2) := by decide +kernel
theorem dX9_storm_65 : decode cX9_storm 65 = .ok (.aload_n 0, 1) := by decide +kernel
theorem dX9_storm_66 : decode cX9_storm 66 = .ok (.getfield 7, 3) := by decide +kernel
theorem dX9_storm_69 : decode cX9_storm 69 = .ok (.iconst 0, 1) := by decide +kernel
theorem dX9_storm_70 : decode cX9_storm 70 = .ok (.iaload, 1) := by decide +kernel
theorem dX9_storm_71 : decode cX9_storm 71 = .ok (.ifCond .le 71, 3) := by decide +kernel
theorem dX9_storm_74 : decode cX9_storm 74 = .ok (.iload 5, 2) := by decide +kernel
theorem dX9_storm_76 : decode cX9_storm 76 = .ok (.aload_n 0, 1) := by decide +kernel
theorem dX9_storm_77 : decode cX9_storm 77 = .ok (.getfield 7, 3) := by decide +kernel
theorem dX9_storm_80 : decode cX9_storm 80 = .ok (.iconst 0, 1) := by decide +kernel
theorem dX9_storm_81 : decode cX9_storm 81 = .ok (.iaload, 1) := by decide +kernel
theorem dX9_storm_82 : decode cX9_storm 82 = .ok (.irem, 1) := by decide +kernel
theorem dX9_storm_83 : decode cX9_storm 83 = .ok (.istore 6, 2) := by decide +kernel
theorem dX9_storm_85 : decode cX9_storm 85 = .ok (.aload_n 0, 1) := by decide +kernel
theorem dX9_storm_86 : decode cX9_storm 86 = .ok (.getfield 7, 3) := by decide +kernel
theorem dX9_storm_89 : decode cX9_storm 89 = .ok (.aload_n 0, 1) := by decide +kernel
theorem dX9_storm_90 : decode cX9_storm 90 = .ok (.iload 6, 2) := by decide +kernel
theorem dX9_storm_92 : decode cX9_storm 92 = .ok (.invokevirtual 79, 3) := by decide +kernel
theorem dX9_storm_95 : decode cX9_storm 95 = .ok (.iaload, 1) := by decide +kernel
theorem dX9_storm_96 : decode cX9_storm 96 = .ok (.iconst 4, 1) := by decide +kernel
theorem dX9_storm_97 : decode cX9_storm 97 = .ok (.if_icmp .ge 45, 3) := by decide +kernel
theorem dX9_storm_100 : decode cX9_storm 100 = .ok (.aload_n 0, 1) := by decide +kernel
theorem dX9_storm_101 : decode cX9_storm 101 = .ok (.iload 6, 2) := by decide +kernel
theorem dX9_storm_103 : decode cX9_storm 103 = .ok (.iload 5, 2) := by decide +kernel
theorem dX9_storm_105 : decode cX9_storm 105 = .ok (.bipush 8, 2) := by decide +kernel
theorem dX9_storm_107 : decode cX9_storm 107 = .ok (.idiv, 1) := by decide +kernel
theorem dX9_storm_108 : decode cX9_storm 108 = .ok (.bipush 32, 2) := by decide +kernel
theorem dX9_storm_110 : decode cX9_storm 110 = .ok (.irem, 1) := by decide +kernel
theorem dX9_storm_111 : decode cX9_storm 111 = .ok (.invokevirtual 254, 3) := by decide +kernel
theorem dX9_storm_114 : decode cX9_storm 114 = .ok (.bipush (-4), 2) := by decide +kernel
theorem dX9_storm_116 : decode cX9_storm 116 = .ok (.if_icmp .ne 26, 3) := by decide +kernel
theorem dX9_storm_119 : decode cX9_storm 119 = .ok (.aload_n 0, 1) := by decide +kernel
theorem dX9_storm_120 : decode cX9_storm 120 = .ok (.iload 6, 2) := by decide +kernel
theorem dX9_storm_122 : decode cX9_storm 122 = .ok (.iload 5, 2) := by decide +kernel
theorem dX9_storm_124 : decode cX9_storm 124 = .ok (.bipush 8, 2) := by decide +kernel
theorem dX9_storm_126 : decode cX9_storm 126 = .ok (.idiv, 1) := by decide +kernel
theorem dX9_storm_127 : decode cX9_storm 127 = .ok (.bipush 32, 2) := by decide +kernel
theorem dX9_storm_129 : decode cX9_storm 129 = .ok (.irem, 1) := by decide +kernel
theorem dX9_storm_130 : decode cX9_storm 130 = .ok (.iload 5, 2) := by decide +kernel
theorem dX9_storm_132 : decode cX9_storm 132 = .ok (.sipush 256, 3) := by decide +kernel
theorem dX9_storm_135 : decode cX9_storm 135 = .ok (.idiv, 1) := by decide +kernel
theorem dX9_storm_136 : decode cX9_storm 136 = .ok (.bipush 10, 2) := by decide +kernel
theorem dX9_storm_138 : decode cX9_storm 138 = .ok (.irem, 1) := by decide +kernel
theorem dX9_storm_139 : decode cX9_storm 139 = .ok (.invokevirtual 258, 3) := by decide +kernel
theorem dX9_storm_142 : decode cX9_storm 142 = .ok (.iinc 2 1, 3) := by decide +kernel
theorem dX9_storm_145 : decode cX9_storm 145 = .ok (.goto (-129), 3) := by decide +kernel
theorem dX9_storm_148 : decode cX9_storm 148 = .ok (.iconst 0, 1) := by decide +kernel
theorem dX9_storm_149 : decode cX9_storm 149 = .ok (.istore_n 2, 1) := by decide +kernel
theorem dX9_storm_150 : decode cX9_storm 150 = .ok (.iconst 0, 1) := by decide +kernel
theorem dX9_storm_151 : decode cX9_storm 151 = .ok (.istore_n 3, 1) := by decide +kernel
theorem dX9_storm_152 : decode cX9_storm 152 = .ok (.iload_n 3, 1) := by decide +kernel
theorem dX9_storm_153 : decode cX9_storm 153 = .ok (.aload_n 0, 1) := by decide +kernel
theorem dX9_storm_154 : decode cX9_storm 154 = .ok (.getfield 7, 3) := by decide +kernel
theorem dX9_storm_157 : decode cX9_storm 157 = .ok (.iconst 0, 1) := by decide +kernel
theorem dX9_storm_158 : decode cX9_storm 158 = .ok (.iaload, 1) := by decide +kernel
theorem dX9_storm_159 : decode cX9_storm 159 = .ok (.if_icmp .ge 22, 3) := by decide +kernel
theorem dX9_storm_162 : decode cX9_storm 162 = .ok (.iload_n 2, 1) := by decide +kernel
theorem dX9_storm_163 : decode cX9_storm 163 = .ok (.aload_n 0, 1) := by decide +kernel
theorem dX9_storm_164 : decode cX9_storm 164 = .ok (.getfield 7, 3) := by decide +kernel
theorem dX9_storm_167 : decode cX9_storm 167 = .ok (.aload_n 0, 1) := by decide +kernel
theorem dX9_storm_168 : decode cX9_storm 168 = .ok (.iload_n 3, 1) := by decide +kernel
theorem dX9_storm_169 : decode cX9_storm 169 = .ok (.invokevirtual 79, 3) := by decide +kernel
theorem dX9_storm_172 : decode cX9_storm 172 = .ok (.iaload, 1) := by decide +kernel
theorem dX9_storm_173 : decode cX9_storm 173 = .ok (.iadd, 1) := by decide +kernel
theorem dX9_storm_174 : decode cX9_storm 174 = .ok (.istore_n 2, 1) := by decide +kernel
theorem dX9_storm_175 : decode cX9_storm 175 = .ok (.iinc 3 1, 3) := by decide +kernel
theorem dX9_storm_178 : decode cX9_storm 178 = .ok (.goto (-26), 3) := by decide +kernel
theorem dX9_storm_181 : decode cX9_storm 181 = .ok (.iload_n 2, 1) := by decide +kernel
theorem dX9_storm_182 : decode cX9_storm 182 = .ok (.ireturn, 1) := by decide +kernel
theorem dX9_undo_0 : decode cX9_undo 0 = .ok (.aload_n 0, 1) := by decide +kernel
theorem dX9_undo_1 : decode cX9_undo 1 = .ok (.getfield 192, 3) := by decide +kernel
theorem dX9_undo_4 : decode cX9_undo 4 = .ok (.ifCond .ne 6, 3) := by decide +kernel
theorem dX9_undo_7 : decode cX9_undo 7 = .ok (.bipush (-4), 2) := by decide +kernel
theorem dX9_undo_9 : decode cX9_undo 9 = .ok (.ireturn, 1) := by decide +kernel
theorem dX9_undo_10 : decode cX9_undo 10 = .ok (.aload_n 0, 1) := by decide +kernel
theorem dX9_undo_11 : decode cX9_undo 11 = .ok (.dup, 1) := by decide +kernel
theorem dX9_undo_12 : decode cX9_undo 12 = .ok (.getfield 192, 3) := by decide +kernel
theorem dX9_undo_15 : decode cX9_undo 15 = .ok (.iconst 1, 1) := by decide +kernel
theorem dX9_undo_16 : decode cX9_undo 16 = .ok (.isub, 1) := by decide +kernel
theorem dX9_undo_17 : decode cX9_undo 17 = .ok (.putfield 192, 3) := by decide +kernel
theorem dX9_undo_20 : decode cX9_undo 20 = .ok (.iconst 0, 1) := by decide +kernel
theorem dX9_undo_21 : decode cX9_undo 21 = .ok (.istore_n 1, 1) := by decide +kernel
theorem dX9_undo_22 : decode cX9_undo 22 = .ok (.iload_n 1, 1) := by decide +kernel
theorem dX9_undo_23 : decode cX9_undo 23 = .ok (.bipush 76, 2) := by decide +kernel
theorem dX9_undo_25 : decode cX9_undo 25 = .ok (.if_icmp .ge 29, 3) := by decide +kernel
theorem dX9_undo_28 : decode cX9_undo 28 = .ok (.aload_n 0, 1) := by decide +kernel
theorem dX9_undo_29 : decode cX9_undo 29 = .ok (.getfield 7, 3) := by decide +kernel
theorem dX9_undo_32 : decode cX9_undo 32 = .ok (.iload_n 1, 1) := by decide +kernel
theorem dX9_undo_33 : decode cX9_undo 33 = .ok (.aload_n 0, 1) := by decide +kernel
theorem dX9_undo_34 : decode cX9_undo 34 = .ok (.getfield 50, 3) := by decide +kernel
theorem dX9_undo_37 : decode cX9_undo 37 = .ok (.bipush 76, 2) := by decide +kernel
theorem dX9_undo_39 : decode cX9_undo 39 = .ok (.aload_n 0, 1) := by decide +kernel
theorem dX9_undo_40 : decode cX9_undo 40 = .ok (.getfield 192, 3) := by decide +kernel
theorem dX9_undo_43 : decode cX9_undo 43 = .ok (.imul, 1) := by decide +kernel
theorem dX9_undo_44 : decode cX9_undo 44 = .ok (.iload_n 1, 1) := by decide +kernel
theorem dX9_undo_45 : decode cX9_undo 45 = .ok (.iadd, 1) := by decide +kernel
theorem dX9_undo_46 : decode cX9_undo 46 = .ok (.iaload, 1) := by decide +kernel
theorem dX9_undo_47 : decode cX9_undo 47 = .ok (.iastore, 1) := by decide +kernel
theorem dX9_undo_48 : decode cX9_undo 48 = .ok (.iinc 1 1, 3) := by decide +kernel
theorem dX9_undo_51 : decode cX9_undo 51 = .ok (.goto (-29), 3) := by decide +kernel
theorem dX9_undo_54 : decode cX9_undo 54 = .ok (.aload_n 0, 1) := by decide +kernel
theorem dX9_undo_55 : decode cX9_undo 55 = .ok (.getfield 192, 3) := by decide +kernel
theorem dX9_undo_58 : decode cX9_undo 58 = .ok (.ireturn, 1) := by decide +kernel
theorem dX9_seed_0 : decode cX9_seed 0 = .ok (.iload_n 1, 1) := by decide +kernel
theorem dX9_seed_1 : decode cX9_seed 1 = .ok (.ifCond .ge 5, 3) := by decide +kernel
theorem dX9_seed_4 : decode cX9_seed 4 = .ok (.iconst (-1), 1) := by decide +kernel
theorem dX9_seed_5 : decode cX9_seed 5 = .ok (.ireturn, 1) := by decide +kernel
theorem dX9_seed_6 : decode cX9_seed 6 = .ok (.aload_n 0, 1) := by decide +kernel
theorem dX9_seed_7 : decode cX9_seed 7 = .ok (.getfield 7, 3) := by decide +kernel
theorem dX9_seed_10 : decode cX9_seed 10 = .ok (.iconst 3, 1) := by decide +kernel
theorem dX9_seed_11 : decode cX9_seed 11 = .ok (.iaload, 1) := by decide +kernel
theorem dX9_seed_12 : decode cX9_seed 12 = .ok (.istore_n 2, 1) := by decide +kernel
theorem dX9_seed_13 : decode cX9_seed 13 = .ok (.aload_n 0, 1) := by decide +kernel
theorem dX9_seed_14 : decode cX9_seed 14 = .ok (.getfield 7, 3) := by decide +kernel
theorem dX9_seed_17 : decode cX9_seed 17 = .ok (.iconst 3, 1) := by decide +kernel
theorem dX9_seed_18 : decode cX9_seed 18 = .ok (.iload_n 1, 1) := by decide +kernel
theorem dX9_seed_19 : decode cX9_seed 19 = .ok (.iastore, 1) := by decide +kernel
theorem dX9_seed_20 : decode cX9_seed 20 = .ok (.iload_n 2, 1) := by decide +kernel
theorem dX9_seed_21 : decode cX9_seed 21 = .ok (.ireturn, 1) := by decide +kernel
theorem dX9_best_0 : decode cX9_best 0 = .ok (.iload_n 1, 1) := by decide +kernel
theorem dX9_best_1 : decode cX9_best 1 = .ok (.bipush (-2), 2) := by decide +kernel
theorem dX9_best_3 : decode cX9_best 3 = .ok (.if_icmp .ge 5, 3) := by decide +kernel
theorem dX9_best_6 : decode cX9_best 6 = .ok (.iconst (-1), 1) := by decide +kernel
theorem dX9_best_7 : decode cX9_best 7 = .ok (.ireturn, 1) := by decide +kernel
theorem dX9_best_8 : decode cX9_best 8 = .ok (.aload_n 0, 1) := by decide +kernel
theorem dX9_best_9 : decode cX9_best 9 = .ok (.invokevirtual 154, 3) := by decide +kernel
theorem dX9_best_12 : decode cX9_best 12 = .ok (.aload_n 0, 1) := by decide +kernel
theorem dX9_best_13 : decode cX9_best 13 = .ok (.getfield 135, 3) := by decide +kernel
theorem dX9_best_16 : decode cX9_best 16 = .ok (.bipush (-4), 2) := by decide +kernel
theorem dX9_best_18 : decode cX9_best 18 = .ok (.if_icmp .ne 6, 3) := by decide +kernel
theorem dX9_best_21 : decode cX9_best 21 = .ok (.bipush (-4), 2) := by decide +kernel
theorem dX9_best_23 : decode cX9_best 23 = .ok (.ireturn, 1) := by decide +kernel
theorem dX9_best_24 : decode cX9_best 24 = .ok (.iload_n 1, 1) := by decide +kernel
theorem dX9_best_25 : decode cX9_best 25 = .ok (.iconst (-1), 1) := by decide +kernel
theorem dX9_best_26 : decode cX9_best 26 = .ok (.if_icmp .ne 10, 3) := by decide +kernel
theorem dX9_best_29 : decode cX9_best 29 = .ok (.aload_n 0, 1) := by decide +kernel
theorem dX9_best_30 : decode cX9_best 30 = .ok (.getfield 138, 3) := by decide +kernel
theorem dX9_best_33 : decode cX9_best 33 = .ok (.goto 35, 3) := by decide +kernel
theorem dX9_best_36 : decode cX9_best 36 = .ok (.iload_n 1, 1) := by decide +kernel
theorem dX9_best_37 : decode cX9_best 37 = .ok (.bipush (-2), 2) := by decide +kernel
theorem dX9_best_39 : decode cX9_best 39 = .ok (.if_icmp .ne 10, 3) := by decide +kernel
theorem dX9_best_42 : decode cX9_best 42 = .ok (.aload_n 0, 1) := by decide +kernel
theorem dX9_best_43 : decode cX9_best 43 = .ok (.getfield 151, 3) := by decide +kernel
theorem dX9_best_46 : decode cX9_best 46 = .ok (.goto 22, 3) := by decide +kernel
theorem dX9_best_49 : decode cX9_best 49 = .ok (.iload_n 1, 1) := by decide +kernel
theorem dX9_best_50 : decode cX9_best 50 = .ok (.aload_n 0, 1) := by decide +kernel
theorem dX9_best_51 : decode cX9_best 51 = .ok (.getfield 151, 3) := by decide +kernel
theorem dX9_best_54 : decode cX9_best 54 = .ok (.if_icmp .ge 12, 3) := by decide +kernel
theorem dX9_best_57 : decode cX9_best 57 = .ok (.aload_n 0, 1) := by decide +kernel
theorem dX9_best_58 : decode cX9_best 58 = .ok (.getfield 22, 3) := by decide +kernel
theorem dX9_best_61 : decode cX9_best 61 = .ok (.iload_n 1, 1) := by decide +kernel
theorem dX9_best_62 : decode cX9_best 62 = .ok (.iaload, 1) := by decide +kernel
theorem dX9_best_63 : decode cX9_best 63 = .ok (.goto 5, 3) := by decide +kernel
theorem dX9_best_66 : decode cX9_best 66 = .ok (.bipush (-4), 2) := by decide +kernel
theorem dX9_best_68 : decode cX9_best 68 = .ok (.ireturn, 1) := by decide +kernel
theorem dX9_taken_0 : decode cX9_taken 0 = .ok (.aload_n 0, 1) := by decide +kernel
theorem dX9_taken_1 : decode cX9_taken 1 = .ok (.iload_n 1, 1) := by decide +kernel
theorem dX9_taken_2 : decode cX9_taken 2 = .ok (.invokevirtual 183, 3) := by decide +kernel
theorem dX9_taken_5 : decode cX9_taken 5 = .ok (.ifCond .ne 5, 3) := by decide +kernel
theorem dX9_taken_8 : decode cX9_taken 8 = .ok (.iconst (-1), 1) := by decide +kernel
theorem dX9_taken_9 : decode cX9_taken 9 = .ok (.ireturn, 1) := by decide +kernel
theorem dX9_taken_10 : decode cX9_taken 10 = .ok (.aload_n 0, 1) := by decide +kernel
theorem dX9_taken_11 : decode cX9_taken 11 = .ok (.invokevirtual 154, 3) := by decide +kernel
theorem dX9_taken_14 : decode cX9_taken 14 = .ok (.aload_n 0, 1) := by decide +kernel
theorem dX9_taken_15 : decode cX9_taken 15 = .ok (.getfield 135, 3) := by decide +kernel
theorem dX9_taken_18 : decode cX9_taken 18 = .ok (.bipush (-4), 2) := by decide +kernel
theorem dX9_taken_20 : decode cX9_taken 20 = .ok (.if_icmp .eq 36, 3) := by decide +kernel
theorem dX9_taken_23 : decode cX9_taken 23 = .ok (.aload_n 0, 1) := by decide +kernel
theorem dX9_taken_24 : decode cX9_taken 24 = .ok (.aload_n 0, 1) := by decide +kernel
theorem dX9_taken_25 : decode cX9_taken 25 = .ok (.getfield 135, 3) := by decide +kernel
theorem dX9_taken_28 : decode cX9_taken 28 = .ok (.invokevirtual 144, 3) := by decide +kernel
theorem dX9_taken_31 : decode cX9_taken 31 = .ok (.ifCond .eq 25, 3) := by decide +kernel
theorem dX9_taken_34 : decode cX9_taken 34 = .ok (.aload_n 0, 1) := by decide +kernel
theorem dX9_taken_35 : decode cX9_taken 35 = .ok (.getfield 7, 3) := by decide +kernel
theorem dX9_taken_38 : decode cX9_taken 38 = .ok (.aload_n 0, 1) := by decide +kernel
theorem dX9_taken_39 : decode cX9_taken 39 = .ok (.iload_n 1, 1) := by decide +kernel
theorem dX9_taken_40 : decode cX9_taken 40 = .ok (.invokevirtual 79, 3) := by decide +kernel
theorem dX9_taken_43 : decode cX9_taken 43 = .ok (.iconst 1, 1) := by decide +kernel
theorem dX9_taken_44 : decode cX9_taken 44 = .ok (.iadd, 1) := by decide +kernel
theorem dX9_taken_45 : decode cX9_taken 45 = .ok (.aload_n 0, 1) := by decide +kernel
theorem dX9_taken_46 : decode cX9_taken 46 = .ok (.getfield 13, 3) := by decide +kernel
theorem dX9_taken_49 : decode cX9_taken 49 = .ok (.iload_n 1, 1) := by decide +kernel
theorem dX9_taken_50 : decode cX9_taken 50 = .ok (.iaload, 1) := by decide +kernel
theorem dX9_taken_51 : decode cX9_taken 51 = .ok (.iadd, 1) := by decide +kernel
theorem dX9_taken_52 : decode cX9_taken 52 = .ok (.iaload, 1) := by decide +kernel
theorem dX9_taken_53 : decode cX9_taken 53 = .ok (.goto 5, 3) := by decide +kernel
theorem dX9_taken_56 : decode cX9_taken 56 = .ok (.bipush (-4), 2) := by decide +kernel
theorem dX9_taken_58 : decode cX9_taken 58 = .ok (.ireturn, 1) := by decide +kernel
theorem dX9_open_0 : decode cX9_open 0 = .ok (.aload_n 0, 1) := by decide +kernel
theorem dX9_open_1 : decode cX9_open 1 = .ok (.iload_n 1, 1) := by decide +kernel
theorem dX9_open_2 : decode cX9_open 2 = .ok (.invokevirtual 183, 3) := by decide +kernel
theorem dX9_open_5 : decode cX9_open 5 = .ok (.ifCond .ne 7, 3) := by decide +kernel
theorem dX9_open_8 : decode cX9_open 8 = .ok (.ldc2_w 273, 3) := by decide +kernel
theorem dX9_open_11 : decode cX9_open 11 = .ok (.lreturn, 1) := by decide +kernel
theorem dX9_open_12 : decode cX9_open 12 = .ok (.aload_n 0, 1) := by decide +kernel
theorem dX9_open_13 : decode cX9_open 13 = .ok (.invokevirtual 169, 3) := by decide +kernel
theorem dX9_open_16 : decode cX9_open 16 = .ok (.lconst 0, 1) := by decide +kernel
theorem dX9_open_17 : decode cX9_open 17 = .ok (.lstore_n 2, 1) := by decide +kernel
theorem dX9_open_18 : decode cX9_open 18 = .ok (.iconst 0, 1) := by decide +kernel
theorem dX9_open_19 : decode cX9_open 19 = .ok (.istore 4, 2) := by decide +kernel
theorem dX9_open_21 : decode cX9_open 21 = .ok (.iload 4, 2) := by decide +kernel
theorem dX9_open_23 : decode cX9_open 23 = .ok (.bipush 32, 2) := by decide +kernel
theorem dX9_open_25 : decode cX9_open 25 = .ok (.if_icmp .ge 35, 3) := by decide +kernel
theorem dX9_open_28 : decode cX9_open 28 = .ok (.lload_n 2, 1) := by decide +kernel
theorem dX9_open_29 : decode cX9_open 29 = .ok (.aload_n 0, 1) := by decide +kernel
theorem dX9_open_30 : decode cX9_open 30 = .ok (.getfield 25, 3) := by decide +kernel
theorem dX9_open_33 : decode cX9_open 33 = .ok (.bipush 32, 2) := by decide +kernel
theorem dX9_open_35 : decode cX9_open 35 = .ok (.iload_n 1, 1) := by decide +kernel
theorem dX9_open_36 : decode cX9_open 36 = .ok (.imul, 1) := by decide +kernel
theorem dX9_open_37 : decode cX9_open 37 = .ok (.iload 4, 2) := by decide +kernel
theorem dX9_open_39 : decode cX9_open 39 = .ok (.iadd, 1) := by decide +kernel
theorem dX9_open_40 : decode cX9_open 40 = .ok (.iaload, 1) := by decide +kernel
theorem dX9_open_41 : decode cX9_open 41 = .ok (.ifCond .le 10, 3) := by decide +kernel
theorem dX9_open_44 : decode cX9_open 44 = .ok (.lconst 1, 1) := by decide +kernel
theorem dX9_open_45 : decode cX9_open 45 = .ok (.iload 4, 2) := by decide +kernel
theorem dX9_open_47 : decode cX9_open 47 = .ok (.lshl, 1) := by decide +kernel
theorem dX9_open_48 : decode cX9_open 48 = .ok (.goto 4, 3) := by decide +kernel
theorem dX9_open_51 : decode cX9_open 51 = .ok (.lconst 0, 1) := by decide +kernel
theorem dX9_open_52 : decode cX9_open 52 = .ok (.lor, 1) := by decide +kernel
theorem dX9_open_53 : decode cX9_open 53 = .ok (.lstore_n 2, 1) := by decide +kernel
theorem dX9_open_54 : decode cX9_open 54 = .ok (.iinc 4 1, 3) := by decide +kernel
theorem dX9_open_57 : decode cX9_open 57 = .ok (.goto (-36), 3) := by decide +kernel
theorem dX9_open_60 : decode cX9_open 60 = .ok (.lload_n 2, 1) := by decide +kernel
theorem dX9_open_61 : decode cX9_open 61 = .ok (.lreturn, 1) := by decide +kernel
theorem dX9_counted_0 : decode cX9_counted 0 = .ok (.iload_n 1, 1) := by decide +kernel
theorem dX9_counted_1 : decode cX9_counted 1 = .ok (.ifCond .lt 13, 3) := by decide +kernel
theorem dX9_counted_4 : decode cX9_counted 4 = .ok (.iload_n 2, 1) := by decide +kernel
theorem dX9_counted_5 : decode cX9_counted 5 = .ok (.i2l, 1) := by decide +kernel
theorem dX9_counted_6 : decode cX9_counted 6 = .ok (.lconst 0, 1) := by decide +kernel
theorem dX9_counted_7 : decode cX9_counted 7 = .ok (.lconst 1, 1) := by decide +kernel
theorem dX9_counted_8 : decode cX9_counted 8 = .ok (.invokestatic 75, 3) := by decide +kernel
theorem dX9_counted_11 : decode cX9_counted 11 = .ok (.ifCond .ne 5, 3) := by decide +kernel
theorem dX9_counted_14 : decode cX9_counted 14 = .ok (.iconst (-1), 1) := by decide +kernel
theorem dX9_counted_15 : decode cX9_counted 15 = .ok (.ireturn, 1) := by decide +kernel
theorem dX9_counted_16 : decode cX9_counted 16 = .ok (.aload_n 0, 1) := by decide +kernel
theorem dX9_counted_17 : decode cX9_counted 17 = .ok (.invokevirtual 154, 3) := by decide +kernel
theorem dX9_counted_20 : decode cX9_counted 20 = .ok (.aload_n 0, 1) := by decide +kernel
theorem dX9_counted_21 : decode cX9_counted 21 = .ok (.getfield 135, 3) := by decide +kernel
theorem dX9_counted_24 : decode cX9_counted 24 = .ok (.bipush (-4), 2) := by decide +kernel
theorem dX9_counted_26 : decode cX9_counted 26 = .ok (.if_icmp .ne 7, 3) := by decide +kernel
theorem dX9_counted_29 : decode cX9_counted 29 = .ok (.iconst 0, 1) := by decide +kernel
theorem dX9_counted_30 : decode cX9_counted 30 = .ok (.goto 7, 3) := by decide +kernel
theorem dX9_counted_33 : decode cX9_counted 33 = .ok (.aload_n 0, 1) := by decide +kernel
theorem dX9_counted_34 : decode cX9_counted 34 = .ok (.invokevirtual 141, 3) := by decide +kernel
theorem dX9_counted_37 : decode cX9_counted 37 = .ok (.istore_n 3, 1) := by decide +kernel
theorem dX9_counted_38 : decode cX9_counted 38 = .ok (.iconst 0, 1) := by decide +kernel
theorem dX9_counted_39 : decode cX9_counted 39 = .ok (.istore 4, 2) := by decide +kernel
theorem dX9_counted_41 : decode cX9_counted 41 = .ok (.iconst 0, 1) := by decide +kernel
theorem dX9_counted_42 : decode cX9_counted 42 = .ok (.istore 5, 2) := by decide +kernel
theorem dX9_counted_44 : decode cX9_counted 44 = .ok (.iload 5, 2) := by decide +kernel
theorem dX9_counted_46 : decode cX9_counted 46 = .ok (.iload_n 3, 1) := by decide +kernel
theorem dX9_counted_47 : decode cX9_counted 47 = .ok (.if_icmp .ge 50, 3) := by decide +kernel
theorem dX9_counted_50 : decode cX9_counted 50 = .ok (.aload_n 0, 1) := by decide +kernel
theorem dX9_counted_51 : decode cX9_counted 51 = .ok (.iload 5, 2) := by decide +kernel
theorem dX9_counted_53 : decode cX9_counted 53 = .ok (.invokevirtual 275, 3) := by decide +kernel
theorem dX9_counted_56 : decode cX9_counted 56 = .ok (.ifCond .eq 35, 3) := by decide +kernel
theorem dX9_counted_59 : decode cX9_counted 59 = .ok (.iload 4, 2) := by decide +kernel
theorem dX9_counted_61 : decode cX9_counted 61 = .ok (.iload_n 1, 1) := by decide +kernel
theorem dX9_counted_62 : decode cX9_counted 62 = .ok (.if_icmp .ne 26, 3) := by decide +kernel
theorem dX9_counted_65 : decode cX9_counted 65 = .ok (.iload_n 2, 1) := by decide +kernel
theorem dX9_counted_66 : decode cX9_counted 66 = .ok (.ifCond .ne 10, 3) := by decide +kernel
theorem dX9_counted_69 : decode cX9_counted 69 = .ok (.aload_n 0, 1) := by decide +kernel
theorem dX9_counted_70 : decode cX9_counted 70 = .ok (.getfield 123, 3) := by decide +kernel
theorem dX9_counted_73 : decode cX9_counted 73 = .ok (.goto 14, 3) := by decide +kernel
theorem dX9_counted_76 : decode cX9_counted 76 = .ok (.aload_n 0, 1) := by decide +kernel
theorem dX9_counted_77 : decode cX9_counted 77 = .ok (.getfield 19, 3) := by decide +kernel
theorem dX9_counted_80 : decode cX9_counted 80 = .ok (.aload_n 0, 1) := by decide +kernel
theorem dX9_counted_81 : decode cX9_counted 81 = .ok (.getfield 113, 3) := by decide +kernel
theorem dX9_counted_84 : decode cX9_counted 84 = .ok (.iconst 1, 1) := by decide +kernel
theorem dX9_counted_85 : decode cX9_counted 85 = .ok (.isub, 1) := by decide +kernel
theorem dX9_counted_86 : decode cX9_counted 86 = .ok (.iaload, 1) := by decide +kernel
theorem dX9_counted_87 : decode cX9_counted 87 = .ok (.ireturn, 1) := by decide +kernel
theorem dX9_counted_88 : decode cX9_counted 88 = .ok (.iinc 4 1, 3) := by decide +kernel
theorem dX9_counted_91 : decode cX9_counted 91 = .ok (.iinc 5 1, 3) := by decide +kernel
theorem dX9_counted_94 : decode cX9_counted 94 = .ok (.goto (-50), 3) := by decide +kernel
theorem dX9_counted_97 : decode cX9_counted 97 = .ok (.bipush (-4), 2) := by decide +kernel
theorem dX9_counted_99 : decode cX9_counted 99 = .ok (.ireturn, 1) := by decide +kernel
theorem dX9_likely_0 : decode cX9_likely 0 = .ok (.iload_n 1, 1) := by decide +kernel
theorem dX9_likely_1 : decode cX9_likely 1 = .ok (.i2l, 1) := by decide +kernel
theorem dX9_likely_2 : decode cX9_likely 2 = .ok (.lconst 0, 1) := by decide +kernel
theorem dX9_likely_3 : decode cX9_likely 3 = .ok (.ldc2_w 237, 3) := by decide +kernel
theorem dX9_likely_6 : decode cX9_likely 6 = .ok (.invokestatic 75, 3) := by decide +kernel
theorem dX9_likely_9 : decode cX9_likely 9 = .ok (.ifCond .eq 13, 3) := by decide +kernel
theorem dX9_likely_12 : decode cX9_likely 12 = .ok (.iload_n 2, 1) := by decide +kernel
theorem dX9_likely_13 : decode cX9_likely 13 = .ok (.i2l, 1) := by decide +kernel
theorem dX9_likely_14 : decode cX9_likely 14 = .ok (.lconst 0, 1) := by decide +kernel
theorem dX9_likely_15 : decode cX9_likely 15 = .ok (.lconst 1, 1) := by decide +kernel
theorem dX9_likely_16 : decode cX9_likely 16 = .ok (.invokestatic 75, 3) := by decide +kernel
theorem dX9_likely_19 : decode cX9_likely 19 = .ok (.ifCond .ne 7, 3) := by decide +kernel
theorem dX9_likely_22 : decode cX9_likely 22 = .ok (.ldc2_w 273, 3) := by decide +kernel
theorem dX9_likely_25 : decode cX9_likely 25 = .ok (.lreturn, 1) := by decide +kernel
theorem dX9_likely_26 : decode cX9_likely 26 = .ok (.lconst 0, 1) := by decide +kernel
theorem dX9_likely_27 : decode cX9_likely 27 = .ok (.lstore_n 3, 1) := by decide +kernel
theorem dX9_likely_28 : decode cX9_likely 28 = .ok (.lconst 0, 1) := by decide +kernel
theorem dX9_likely_29 : decode cX9_likely 29 = .ok (.lstore 5, 2) := by decide +kernel
theorem dX9_likely_31 : decode cX9_likely 31 = .ok (.aload_n 0, 1) := by decide +kernel
theorem dX9_likely_32 : decode cX9_likely 32 = .ok (.invokevirtual 141, 3) := by decide +kernel
theorem dX9_likely_35 : decode cX9_likely 35 = .ok (.istore 7, 2) := by decide +kernel
theorem dX9_likely_37 : decode cX9_likely 37 = .ok (.iconst 0, 1) := by decide +kernel
theorem dX9_likely_38 : decode cX9_likely 38 = .ok (.istore 8, 2) := by decide +kernel
theorem dX9_likely_40 : decode cX9_likely 40 = .ok (.iload 8, 2) := by decide +kernel
theorem dX9_likely_42 : decode cX9_likely 42 = .ok (.iload 7, 2) := by decide +kernel
theorem dX9_likely_44 : decode cX9_likely 44 = .ok (.if_icmp .ge 109, 3) := by decide +kernel
theorem dX9_likely_47 : decode cX9_likely 47 = .ok (.aload_n 0, 1) := by decide +kernel
theorem dX9_likely_48 : decode cX9_likely 48 = .ok (.iload 8, 2) := by decide +kernel
theorem dX9_likely_50 : decode cX9_likely 50 = .ok (.invokevirtual 144, 3) := by decide +kernel
theorem dX9_likely_53 : decode cX9_likely 53 = .ok (.ifCond .eq 94, 3) := by decide +kernel
theorem dX9_likely_56 : decode cX9_likely 56 = .ok (.aload_n 0, 1) := by decide +kernel
theorem dX9_likely_57 : decode cX9_likely 57 = .ok (.invokevirtual 148, 3) := by decide +kernel
theorem dX9_likely_60 : decode cX9_likely 60 = .ok (.ifCond .eq 87, 3) := by decide +kernel
theorem dX9_likely_63 : decode cX9_likely 63 = .ok (.lconst 1, 1) := by decide +kernel
theorem dX9_likely_64 : decode cX9_likely 64 = .ok (.lstore 9, 2) := by decide +kernel
theorem dX9_likely_66 : decode cX9_likely 66 = .ok (.iconst 0, 1) := by decide +kernel
theorem dX9_likely_67 : decode cX9_likely 67 = .ok (.istore 11, 2) := by decide +kernel
theorem dX9_likely_69 : decode cX9_likely 69 = .ok (.iload 11, 2) := by decide +kernel
theorem dX9_likely_71 : decode cX9_likely 71 = .ok (.aload_n 0, 1) := by decide +kernel
theorem dX9_likely_72 : decode cX9_likely 72 = .ok (.getfield 7, 3) := by decide +kernel
theorem dX9_likely_75 : decode cX9_likely 75 = .ok (.iconst 0, 1) := by decide +kernel
theorem dX9_likely_76 : decode cX9_likely 76 = .ok (.iaload, 1) := by decide +kernel
theorem dX9_likely_77 : decode cX9_likely 77 = .ok (.if_icmp .ge 39, 3) := by decide +kernel
theorem dX9_likely_80 : decode cX9_likely 80 = .ok (.lload 9, 2) := by decide +kernel
theorem dX9_likely_82 : decode cX9_likely 82 = .ok (.bipush 10, 2) := by decide +kernel
theorem dX9_likely_84 : decode cX9_likely 84 = .ok (.aload_n 0, 1) := by decide +kernel
theorem dX9_likely_85 : decode cX9_likely 85 = .ok (.getfield 7, 3) := by decide +kernel
theorem dX9_likely_88 : decode cX9_likely 88 = .ok (.aload_n 0, 1) := by decide +kernel
theorem dX9_likely_89 : decode cX9_likely 89 = .ok (.iload 11, 2) := by decide +kernel
theorem dX9_likely_91 : decode cX9_likely 91 = .ok (.invokevirtual 79, 3) := by decide +kernel
theorem dX9_likely_94 : decode cX9_likely 94 = .ok (.iconst 5, 1) := by decide +kernel
theorem dX9_likely_95 : decode cX9_likely 95 = .ok (.iadd, 1) := by decide +kernel
theorem dX9_likely_96 : decode cX9_likely 96 = .ok (.aload_n 0, 1) := by decide +kernel
theorem dX9_likely_97 : decode cX9_likely 97 = .ok (.getfield 13, 3) := by decide +kernel
theorem dX9_likely_100 : decode cX9_likely 100 = .ok (.iload 11, 2) := by decide +kernel
theorem dX9_likely_102 : decode cX9_likely 102 = .ok (.iaload, 1) := by decide +kernel
theorem dX9_likely_103 : decode cX9_likely 103 = .ok (.iadd, 1) := by decide +kernel
theorem dX9_likely_104 : decode cX9_likely 104 = .ok (.iaload, 1) := by decide +kernel
theorem dX9_likely_105 : decode cX9_likely 105 = .ok (.isub, 1) := by decide +kernel
theorem dX9_likely_106 : decode cX9_likely 106 = .ok (.i2l, 1) := by decide +kernel
theorem dX9_likely_107 : decode cX9_likely 107 = .ok (.lmul, 1) := by decide +kernel
theorem dX9_likely_108 : decode cX9_likely 108 = .ok (.lstore 9, 2) := by decide +kernel
theorem dX9_likely_110 : decode cX9_likely 110 = .ok (.iinc 11 1, 3) := by decide +kernel
theorem dX9_likely_113 : decode cX9_likely 113 = .ok (.goto (-44), 3) := by decide +kernel
theorem dX9_likely_116 : decode cX9_likely 116 = .ok (.lload 5, 2) := by decide +kernel
theorem dX9_likely_118 : decode cX9_likely 118 = .ok (.lload 9, 2) := by decide +kernel
theorem dX9_likely_120 : decode cX9_likely 120 = .ok (.ladd, 1) := by decide +kernel
theorem dX9_likely_121 : decode cX9_likely 121 = .ok (.lstore 5, 2) := by decide +kernel
theorem dX9_likely_123 : decode cX9_likely 123 = .ok (.lload_n 3, 1) := by decide +kernel
theorem dX9_likely_124 : decode cX9_likely 124 = .ok (.aload_n 0, 1) := by decide +kernel
theorem dX9_likely_125 : decode cX9_likely 125 = .ok (.getfield 19, 3) := by decide +kernel
theorem dX9_likely_128 : decode cX9_likely 128 = .ok (.aload_n 0, 1) := by decide +kernel
theorem dX9_likely_129 : decode cX9_likely 129 = .ok (.getfield 113, 3) := by decide +kernel
theorem dX9_likely_132 : decode cX9_likely 132 = .ok (.iconst 1, 1) := by decide +kernel
theorem dX9_likely_133 : decode cX9_likely 133 = .ok (.isub, 1) := by decide +kernel
theorem dX9_likely_134 : decode cX9_likely 134 = .ok (.iaload, 1) := by decide +kernel
theorem dX9_likely_135 : decode cX9_likely 135 = .ok (.iload_n 1, 1) := by decide +kernel
theorem dX9_likely_136 : decode cX9_likely 136 = .ok (.if_icmp .ne 8, 3) := by decide +kernel
theorem dX9_likely_139 : decode cX9_likely 139 = .ok (.lload 9, 2) := by decide +kernel
theorem dX9_likely_141 : decode cX9_likely 141 = .ok (.goto 4, 3) := by decide +kernel
theorem dX9_likely_144 : decode cX9_likely 144 = .ok (.lconst 0, 1) := by decide +kernel
theorem dX9_likely_145 : decode cX9_likely 145 = .ok (.ladd, 1) := by decide +kernel
theorem dX9_likely_146 : decode cX9_likely 146 = .ok (.lstore_n 3, 1) := by decide +kernel
theorem dX9_likely_147 : decode cX9_likely 147 = .ok (.iinc 8 1, 3) := by decide +kernel
theorem dX9_likely_150 : decode cX9_likely 150 = .ok (.goto (-110), 3) := by decide +kernel
theorem dX9_likely_153 : decode cX9_likely 153 = .ok (.lload 5, 2) := by decide +kernel
theorem dX9_likely_155 : decode cX9_likely 155 = .ok (.lconst 0, 1) := by decide +kernel
theorem dX9_likely_156 : decode cX9_likely 156 = .ok (.lcmp, 1) := by decide +kernel
theorem dX9_likely_157 : decode cX9_likely 157 = .ok (.ifCond .ne 7, 3) := by decide +kernel
theorem dX9_likely_160 : decode cX9_likely 160 = .ok (.ldc2_w 278, 3) := by decide +kernel
theorem dX9_likely_163 : decode cX9_likely 163 = .ok (.lreturn, 1) := by decide +kernel
theorem dX9_likely_164 : decode cX9_likely 164 = .ok (.lload_n 3, 1) := by decide +kernel
theorem dX9_likely_165 : decode cX9_likely 165 = .ok (.lstore 8, 2) := by decide +kernel
theorem dX9_likely_167 : decode cX9_likely 167 = .ok (.lload 5, 2) := by decide +kernel
theorem dX9_likely_169 : decode cX9_likely 169 = .ok (.lstore 10, 2) := by decide +kernel
theorem dX9_likely_171 : decode cX9_likely 171 = .ok (.lload 10, 2) := by decide +kernel
theorem dX9_likely_173 : decode cX9_likely 173 = .ok (.lconst 0, 1) := by decide +kernel
theorem dX9_likely_174 : decode cX9_likely 174 = .ok (.lcmp, 1) := by decide +kernel
theorem dX9_likely_175 : decode cX9_likely 175 = .ok (.ifCond .eq 21, 3) := by decide +kernel
theorem dX9_likely_178 : decode cX9_likely 178 = .ok (.lload 8, 2) := by decide +kernel
theorem dX9_likely_180 : decode cX9_likely 180 = .ok (.lload 10, 2) := by decide +kernel
theorem dX9_likely_182 : decode cX9_likely 182 = .ok (.lrem, 1) := by decide +kernel
theorem dX9_likely_183 : decode cX9_likely 183 = .ok (.lstore 12, 2) := by decide +kernel
theorem dX9_likely_185 : decode cX9_likely 185 = .ok (.lload 10, 2) := by decide +kernel
theorem dX9_likely_187 : decode cX9_likely 187 = .ok (.lstore 8, 2) := by decide +kernel
theorem dX9_likely_189 : decode cX9_likely 189 = .ok (.lload 12, 2) := by decide +kernel
theorem dX9_likely_191 : decode cX9_likely 191 = .ok (.lstore 10, 2) := by decide +kernel
theorem dX9_likely_193 : decode cX9_likely 193 = .ok (.goto (-22), 3) := by decide +kernel
theorem dX9_likely_196 : decode cX9_likely 196 = .ok (.iload_n 2, 1) := by decide +kernel
theorem dX9_likely_197 : decode cX9_likely 197 = .ok (.ifCond .ne 7, 3) := by decide +kernel
theorem dX9_likely_200 : decode cX9_likely 200 = .ok (.lload_n 3, 1) := by decide +kernel
theorem dX9_likely_201 : decode cX9_likely 201 = .ok (.goto 5, 3) := by decide +kernel
theorem dX9_likely_204 : decode cX9_likely 204 = .ok (.lload 5, 2) := by decide +kernel
theorem dX9_likely_206 : decode cX9_likely 206 = .ok (.lload 8, 2) := by decide +kernel
theorem dX9_likely_208 : decode cX9_likely 208 = .ok (.ldiv, 1) := by decide +kernel
theorem dX9_likely_209 : decode cX9_likely 209 = .ok (.lreturn, 1) := by decide +kernel
theorem dX9_image_0 : decode cX9_image 0 = .ok (.iconst 0, 1) := by decide +kernel
theorem dX9_image_1 : decode cX9_image 1 = .ok (.istore_n 1, 1) := by decide +kernel
theorem dX9_image_2 : decode cX9_image 2 = .ok (.iload_n 1, 1) := by decide +kernel
theorem dX9_image_3 : decode cX9_image 3 = .ok (.bipush 76, 2) := by decide +kernel
theorem dX9_image_5 : decode cX9_image 5 = .ok (.if_icmp .ge 21, 3) := by decide +kernel
theorem dX9_image_8 : decode cX9_image 8 = .ok (.aload_n 0, 1) := by decide +kernel
theorem dX9_image_9 : decode cX9_image 9 = .ok (.getfield 53, 3) := by decide +kernel
theorem dX9_image_12 : decode cX9_image 12 = .ok (.iload_n 1, 1) := by decide +kernel
theorem dX9_image_13 : decode cX9_image 13 = .ok (.aload_n 0, 1) := by decide +kernel
theorem dX9_image_14 : decode cX9_image 14 = .ok (.getfield 7, 3) := by decide +kernel
theorem dX9_image_17 : decode cX9_image 17 = .ok (.iload_n 1, 1) := by decide +kernel
theorem dX9_image_18 : decode cX9_image 18 = .ok (.iaload, 1) := by decide +kernel
theorem dX9_image_19 : decode cX9_image 19 = .ok (.iastore, 1) := by decide +kernel
theorem dX9_image_20 : decode cX9_image 20 = .ok (.iinc 1 1, 3) := by decide +kernel
theorem dX9_image_23 : decode cX9_image 23 = .ok (.goto (-21), 3) := by decide +kernel
theorem dX9_image_26 : decode cX9_image 26 = .ok (.iconst 0, 1) := by decide +kernel
theorem dX9_image_27 : decode cX9_image 27 = .ok (.istore_n 1, 1) := by decide +kernel
theorem dX9_image_28 : decode cX9_image 28 = .ok (.iload_n 1, 1) := by decide +kernel
theorem dX9_image_29 : decode cX9_image 29 = .ok (.sipush 608, 3) := by decide +kernel
theorem dX9_image_32 : decode cX9_image 32 = .ok (.if_icmp .ge 21, 3) := by decide +kernel
theorem dX9_image_35 : decode cX9_image 35 = .ok (.aload_n 0, 1) := by decide +kernel
theorem dX9_image_36 : decode cX9_image 36 = .ok (.getfield 56, 3) := by decide +kernel
theorem dX9_image_39 : decode cX9_image 39 = .ok (.iload_n 1, 1) := by decide +kernel
theorem dX9_image_40 : decode cX9_image 40 = .ok (.aload_n 0, 1) := by decide +kernel
theorem dX9_image_41 : decode cX9_image 41 = .ok (.getfield 50, 3) := by decide +kernel
theorem dX9_image_44 : decode cX9_image 44 = .ok (.iload_n 1, 1) := by decide +kernel
theorem dX9_image_45 : decode cX9_image 45 = .ok (.iaload, 1) := by decide +kernel
theorem dX9_image_46 : decode cX9_image 46 = .ok (.iastore, 1) := by decide +kernel
theorem dX9_image_47 : decode cX9_image 47 = .ok (.iinc 1 1, 3) := by decide +kernel
theorem dX9_image_50 : decode cX9_image 50 = .ok (.goto (-22), 3) := by decide +kernel
theorem dX9_image_53 : decode cX9_image 53 = .ok (.aload_n 0, 1) := by decide +kernel
theorem dX9_image_54 : decode cX9_image 54 = .ok (.aload_n 0, 1) := by decide +kernel
theorem dX9_image_55 : decode cX9_image 55 = .ok (.getfield 192, 3) := by decide +kernel
theorem dX9_image_58 : decode cX9_image 58 = .ok (.putfield 59, 3) := by decide +kernel
theorem dX9_image_61 : decode cX9_image 61 = .ok (.iconst 1, 1) := by decide +kernel
theorem dX9_image_62 : decode cX9_image 62 = .ok (.ireturn, 1) := by decide +kernel
theorem dX9_restore_0 : decode cX9_restore 0 = .ok (.aload_n 0, 1) := by decide +kernel
theorem dX9_restore_1 : decode cX9_restore 1 = .ok (.getfield 59, 3) := by decide +kernel
theorem dX9_restore_4 : decode cX9_restore 4 = .ok (.ifCond .ge 6, 3) := by decide +kernel
theorem dX9_restore_7 : decode cX9_restore 7 = .ok (.bipush (-4), 2) := by decide +kernel
theorem dX9_restore_9 : decode cX9_restore 9 = .ok (.ireturn, 1) := by decide +kernel
theorem dX9_restore_10 : decode cX9_restore 10 = .ok (.iconst 0, 1) := by decide +kernel
theorem dX9_restore_11 : decode cX9_restore 11 = .ok (.istore_n 1, 1) := by decide +kernel
theorem dX9_restore_12 : decode cX9_restore 12 = .ok (.iload_n 1, 1) := by decide +kernel
theorem dX9_restore_13 : decode cX9_restore 13 = .ok (.bipush 76, 2) := by decide +kernel
theorem dX9_restore_15 : decode cX9_restore 15 = .ok (.if_icmp .ge 21, 3) := by decide +kernel
theorem dX9_restore_18 : decode cX9_restore 18 = .ok (.aload_n 0, 1) := by decide +kernel
theorem dX9_restore_19 : decode cX9_restore 19 = .ok (.getfield 7, 3) := by decide +kernel
theorem dX9_restore_22 : decode cX9_restore 22 = .ok (.iload_n 1, 1) := by decide +kernel
theorem dX9_restore_23 : decode cX9_restore 23 = .ok (.aload_n 0, 1) := by decide +kernel
theorem dX9_restore_24 : decode cX9_restore 24 = .ok (.getfield 53, 3) := by decide +kernel
theorem dX9_restore_27 : decode cX9_restore 27 = .ok (.iload_n 1, 1) := by decide +kernel
theorem dX9_restore_28 : decode cX9_restore 28 = .ok (.iaload, 1) := by decide +kernel
theorem dX9_restore_29 : decode cX9_restore 29 = .ok (.iastore, 1) := by decide +kernel
theorem dX9_restore_30 : decode cX9_restore 30 = .ok (.iinc 1 1, 3) := by decide +kernel
theorem dX9_restore_33 : decode cX9_restore 33 = .ok (.goto (-21), 3) := by decide +kernel
theorem dX9_restore_36 : decode cX9_restore 36 = .ok (.iconst 0, 1) := by decide +kernel
theorem dX9_restore_37 : decode cX9_restore 37 = .ok (.istore_n 1, 1) := by decide +kernel
theorem dX9_restore_38 : decode cX9_restore 38 = .ok (.iload_n 1, 1) := by decide +kernel
theorem dX9_restore_39 : decode cX9_restore 39 = .ok (.sipush 608, 3) := by decide +kernel
theorem dX9_restore_42 : decode cX9_restore 42 = .ok (.if_icmp .ge 21, 3) := by decide +kernel
theorem dX9_restore_45 : decode cX9_restore 45 = .ok (.aload_n 0, 1) := by decide +kernel
theorem dX9_restore_46 : decode cX9_restore 46 = .ok (.getfield 50, 3) := by decide +kernel
theorem dX9_restore_49 : decode cX9_restore 49 = .ok (.iload_n 1, 1) := by decide +kernel
theorem dX9_restore_50 : decode cX9_restore 50 = .ok (.aload_n 0, 1) := by decide +kernel
theorem dX9_restore_51 : decode cX9_restore 51 = .ok (.getfield 56, 3) := by decide +kernel
theorem dX9_restore_54 : decode cX9_restore 54 = .ok (.iload_n 1, 1) := by decide +kernel
theorem dX9_restore_55 : decode cX9_restore 55 = .ok (.iaload, 1) := by decide +kernel
theorem dX9_restore_56 : decode cX9_restore 56 = .ok (.iastore, 1) := by decide +kernel
theorem dX9_restore_57 : decode cX9_restore 57 = .ok (.iinc 1 1, 3) := by decide +kernel
theorem dX9_restore_60 : decode cX9_restore 60 = .ok (.goto (-22), 3) := by decide +kernel
theorem dX9_restore_63 : decode cX9_restore 63 = .ok (.aload_n 0, 1) := by decide +kernel
theorem dX9_restore_64 : decode cX9_restore 64 = .ok (.aload_n 0, 1) := by decide +kernel
theorem dX9_restore_65 : decode cX9_restore 65 = .ok (.getfield 59, 3) := by decide +kernel
theorem dX9_restore_68 : decode cX9_restore 68 = .ok (.putfield 192, 3) := by decide +kernel
theorem dX9_restore_71 : decode cX9_restore 71 = .ok (.iconst 1, 1) := by decide +kernel
theorem dX9_restore_72 : decode cX9_restore 72 = .ok (.ireturn, 1) := by decide +kernel
theorem dX9_isSheet_0 : decode cX9_isSheet 0 = .ok (.iload_n 0, 1) := by decide +kernel
theorem dX9_isSheet_1 : decode cX9_isSheet 1 = .ok (.i2l, 1) := by decide +kernel
theorem dX9_isSheet_2 : decode cX9_isSheet 2 = .ok (.lconst 0, 1) := by decide +kernel
theorem dX9_isSheet_3 : decode cX9_isSheet 3 = .ok (.ldc2_w 280, 3) := by decide +kernel
theorem dX9_isSheet_6 : decode cX9_isSheet 6 = .ok (.invokestatic 75, 3) := by decide +kernel
theorem dX9_isSheet_9 : decode cX9_isSheet 9 = .ok (.ireturn, 1) := by decide +kernel
theorem dX9_cut_0 : decode cX9_cut 0 = .ok (.iload_n 2, 1) := by decide +kernel
theorem dX9_cut_1 : decode cX9_cut 1 = .ok (.ifCond .ne 10, 3) := by decide +kernel
theorem dX9_cut_4 : decode cX9_cut 4 = .ok (.lload_n 0, 1) := by decide +kernel
theorem dX9_cut_5 : decode cX9_cut 5 = .ok (.l2i, 1) := by decide +kernel
theorem dX9_cut_6 : decode cX9_cut 6 = .ok (.i2b, 1) := by decide +kernel
theorem dX9_cut_7 : decode cX9_cut 7 = .ok (.i2l, 1) := by decide +kernel
theorem dX9_cut_8 : decode cX9_cut 8 = .ok (.goto 27, 3) := by decide +kernel
theorem dX9_cut_11 : decode cX9_cut 11 = .ok (.iload_n 2, 1) := by decide +kernel
theorem dX9_cut_12 : decode cX9_cut 12 = .ok (.iconst 1, 1) := by decide +kernel
theorem dX9_cut_13 : decode cX9_cut 13 = .ok (.if_icmp .ne 10, 3) := by decide +kernel
theorem dX9_cut_16 : decode cX9_cut 16 = .ok (.lload_n 0, 1) := by decide +kernel
theorem dX9_cut_17 : decode cX9_cut 17 = .ok (.l2i, 1) := by decide +kernel
theorem dX9_cut_18 : decode cX9_cut 18 = .ok (.i2s, 1) := by decide +kernel
theorem dX9_cut_19 : decode cX9_cut 19 = .ok (.i2l, 1) := by decide +kernel
theorem dX9_cut_20 : decode cX9_cut 20 = .ok (.goto 15, 3) := by decide +kernel
theorem dX9_cut_23 : decode cX9_cut 23 = .ok (.iload_n 2, 1) := by decide +kernel
theorem dX9_cut_24 : decode cX9_cut 24 = .ok (.iconst 2, 1) := by decide +kernel
theorem dX9_cut_25 : decode cX9_cut 25 = .ok (.if_icmp .ne 9, 3) := by decide +kernel
theorem dX9_cut_28 : decode cX9_cut 28 = .ok (.lload_n 0, 1) := by decide +kernel
theorem dX9_cut_29 : decode cX9_cut 29 = .ok (.l2i, 1) := by decide +kernel
theorem dX9_cut_30 : decode cX9_cut 30 = .ok (.i2l, 1) := by decide +kernel
theorem dX9_cut_31 : decode cX9_cut 31 = .ok (.goto 4, 3) := by decide +kernel
theorem dX9_cut_34 : decode cX9_cut 34 = .ok (.lload_n 0, 1) := by decide +kernel
theorem dX9_cut_35 : decode cX9_cut 35 = .ok (.lreturn, 1) := by decide +kernel
theorem dX9_sheet_0 : decode cX9_sheet 0 = .ok (.iload_n 1, 1) := by decide +kernel
theorem dX9_sheet_1 : decode cX9_sheet 1 = .ok (.invokestatic 282, 3) := by decide +kernel
theorem dX9_sheet_4 : decode cX9_sheet 4 = .ok (.ifCond .eq 21, 3) := by decide +kernel
theorem dX9_sheet_7 : decode cX9_sheet 7 = .ok (.iload_n 2, 1) := by decide +kernel
theorem dX9_sheet_8 : decode cX9_sheet 8 = .ok (.i2l, 1) := by decide +kernel
theorem dX9_sheet_9 : decode cX9_sheet 9 = .ok (.lconst 0, 1) := by decide +kernel
theorem dX9_sheet_10 : decode cX9_sheet 10 = .ok (.ldc2_w 280, 3) := by decide +kernel
theorem dX9_sheet_13 : decode cX9_sheet 13 = .ok (.invokestatic 75, 3) := by decide +kernel
theorem dX9_sheet_16 : decode cX9_sheet 16 = .ok (.ifCond .eq 9, 3) := by decide +kernel
theorem dX9_sheet_19 : decode cX9_sheet 19 = .ok (.iload_n 3, 1) := by decide +kernel
theorem dX9_sheet_20 : decode cX9_sheet 20 = .ok (.bipush 24, 2) := by decide +kernel
theorem dX9_sheet_22 : decode cX9_sheet 22 = .ok (.if_icmp .le 5, 3) := by decide +kernel
theorem dX9_sheet_25 : decode cX9_sheet 25 = .ok (.iconst (-1), 1) := by decide +kernel
theorem dX9_sheet_26 : decode cX9_sheet 26 = .ok (.ireturn, 1) := by decide +kernel
theorem dX9_sheet_27 : decode cX9_sheet 27 = .ok (.iload_n 3, 1) := by decide +kernel
theorem dX9_sheet_28 : decode cX9_sheet 28 = .ok (.ifCond .ge 6, 3) := by decide +kernel
theorem dX9_sheet_31 : decode cX9_sheet 31 = .ok (.bipush (-14), 2) := by decide +kernel
theorem dX9_sheet_33 : decode cX9_sheet 33 = .ok (.ireturn, 1) := by decide +kernel
theorem dX9_sheet_34 : decode cX9_sheet 34 = .ok (.aload_n 0, 1) := by decide +kernel
theorem dX9_sheet_35 : decode cX9_sheet 35 = .ok (.getfield 63, 3) := by decide +kernel
theorem dX9_sheet_38 : decode cX9_sheet 38 = .ok (.iload_n 1, 1) := by decide +kernel
theorem dX9_sheet_39 : decode cX9_sheet 39 = .ok (.iload_n 2, 1) := by decide +kernel
theorem dX9_sheet_40 : decode cX9_sheet 40 = .ok (.iastore, 1) := by decide +kernel
theorem dX9_sheet_41 : decode cX9_sheet 41 = .ok (.aload_n 0, 1) := by decide +kernel
theorem dX9_sheet_42 : decode cX9_sheet 42 = .ok (.getfield 66, 3) := by decide +kernel
theorem dX9_sheet_45 : decode cX9_sheet 45 = .ok (.iload_n 1, 1) := by decide +kernel
theorem dX9_sheet_46 : decode cX9_sheet 46 = .ok (.iload_n 3, 1) := by decide +kernel
theorem dX9_sheet_47 : decode cX9_sheet 47 = .ok (.iastore, 1) := by decide +kernel
theorem dX9_sheet_48 : decode cX9_sheet 48 = .ok (.iconst 0, 1) := by decide +kernel
theorem dX9_sheet_49 : decode cX9_sheet 49 = .ok (.istore 4, 2) := by decide +kernel
theorem dX9_sheet_51 : decode cX9_sheet 51 = .ok (.iload 4, 2) := by decide +kernel
theorem dX9_sheet_53 : decode cX9_sheet 53 = .ok (.bipush 24, 2) := by decide +kernel
theorem dX9_sheet_55 : decode cX9_sheet 55 = .ok (.if_icmp .ge 22, 3) := by decide +kernel
theorem dX9_sheet_58 : decode cX9_sheet 58 = .ok (.aload_n 0, 1) := by decide +kernel
theorem dX9_sheet_59 : decode cX9_sheet 59 = .ok (.getfield 69, 3) := by decide +kernel
theorem dX9_sheet_62 : decode cX9_sheet 62 = .ok (.bipush 24, 2) := by decide +kernel
theorem dX9_sheet_64 : decode cX9_sheet 64 = .ok (.iload_n 1, 1) := by decide +kernel
theorem dX9_sheet_65 : decode cX9_sheet 65 = .ok (.imul, 1) := by decide +kernel
theorem dX9_sheet_66 : decode cX9_sheet 66 = .ok (.iload 4, 2) := by decide +kernel
theorem dX9_sheet_68 : decode cX9_sheet 68 = .ok (.iadd, 1) := by decide +kernel
theorem dX9_sheet_69 : decode cX9_sheet 69 = .ok (.lconst 0, 1) := by decide +kernel
theorem dX9_sheet_70 : decode cX9_sheet 70 = .ok (.lastore, 1) := by decide +kernel
theorem dX9_sheet_71 : decode cX9_sheet 71 = .ok (.iinc 4 1, 3) := by decide +kernel
theorem dX9_sheet_74 : decode cX9_sheet 74 = .ok (.goto (-23), 3) := by decide +kernel
theorem dX9_sheet_77 : decode cX9_sheet 77 = .ok (.iload_n 3, 1) := by decide +kernel
theorem dX9_sheet_78 : decode cX9_sheet 78 = .ok (.ireturn, 1) := by decide +kernel
theorem dX9_drop_0 : decode cX9_drop 0 = .ok (.iload_n 1, 1) := by decide +kernel
theorem dX9_drop_1 : decode cX9_drop 1 = .ok (.invokestatic 282, 3) := by decide +kernel
theorem dX9_drop_4 : decode cX9_drop 4 = .ok (.ifCond .ne 5, 3) := by decide +kernel
theorem dX9_drop_7 : decode cX9_drop 7 = .ok (.iconst (-1), 1) := by decide +kernel
theorem dX9_drop_8 : decode cX9_drop 8 = .ok (.ireturn, 1) := by decide +kernel
theorem dX9_drop_9 : decode cX9_drop 9 = .ok (.aload_n 0, 1) := by decide +kernel
theorem dX9_drop_10 : decode cX9_drop 10 = .ok (.getfield 63, 3) := by decide +kernel
theorem dX9_drop_13 : decode cX9_drop 13 = .ok (.iload_n 1, 1) := by decide +kernel
theorem dX9_drop_14 : decode cX9_drop 14 = .ok (.iaload, 1) := by decide +kernel
theorem dX9_drop_15 : decode cX9_drop 15 = .ok (.ifCond .ge 6, 3) := by decide +kernel
theorem dX9_drop_18 : decode cX9_drop 18 = .ok (.bipush (-11), 2) := by decide +kernel
theorem dX9_drop_20 : decode cX9_drop 20 = .ok (.ireturn, 1) := by decide +kernel
theorem dX9_drop_21 : decode cX9_drop 21 = .ok (.aload_n 0, 1) := by decide +kernel
theorem dX9_drop_22 : decode cX9_drop 22 = .ok (.getfield 63, 3) := by decide +kernel
theorem dX9_drop_25 : decode cX9_drop 25 = .ok (.iload_n 1, 1) := by decide +kernel
theorem dX9_drop_26 : decode cX9_drop 26 = .ok (.iconst (-1), 1) := by decide +kernel
theorem dX9_drop_27 : decode cX9_drop 27 = .ok (.iastore, 1) := by decide +kernel
theorem dX9_drop_28 : decode cX9_drop 28 = .ok (.aload_n 0, 1) := by decide +kernel
theorem dX9_drop_29 : decode cX9_drop 29 = .ok (.getfield 66, 3) := by decide +kernel
theorem dX9_drop_32 : decode cX9_drop 32 = .ok (.iload_n 1, 1) := by decide +kernel
theorem dX9_drop_33 : decode cX9_drop 33 = .ok (.iaload, 1) := by decide +kernel
theorem dX9_drop_34 : decode cX9_drop 34 = .ok (.ireturn, 1) := by decide +kernel
theorem dX9_why_0 : decode cX9_why 0 = .ok (.aload_n 0, 1) := by decide +kernel
theorem dX9_why_1 : decode cX9_why 1 = .ok (.getfield 63, 3) := by decide +kernel
theorem dX9_why_4 : decode cX9_why 4 = .ok (.iload_n 1, 1) := by decide +kernel
theorem dX9_why_5 : decode cX9_why 5 = .ok (.iaload, 1) := by decide +kernel
theorem dX9_why_6 : decode cX9_why 6 = .ok (.ifCond .ge 6, 3) := by decide +kernel
theorem dX9_why_9 : decode cX9_why 9 = .ok (.bipush (-11), 2) := by decide +kernel
theorem dX9_why_11 : decode cX9_why 11 = .ok (.ireturn, 1) := by decide +kernel
theorem dX9_why_12 : decode cX9_why 12 = .ok (.aload_n 0, 1) := by decide +kernel
theorem dX9_why_13 : decode cX9_why 13 = .ok (.getfield 63, 3) := by decide +kernel
theorem dX9_why_16 : decode cX9_why 16 = .ok (.iload_n 1, 1) := by decide +kernel
theorem dX9_why_17 : decode cX9_why 17 = .ok (.iaload, 1) := by decide +kernel
theorem dX9_why_18 : decode cX9_why 18 = .ok (.iload_n 2, 1) := by decide +kernel
theorem dX9_why_19 : decode cX9_why 19 = .ok (.if_icmp .eq 6, 3) := by decide +kernel
theorem dX9_why_22 : decode cX9_why 22 = .ok (.bipush (-12), 2) := by decide +kernel
theorem dX9_why_24 : decode cX9_why 24 = .ok (.ireturn, 1) := by decide +kernel
theorem dX9_why_25 : decode cX9_why 25 = .ok (.iload_n 3, 1) := by decide +kernel
theorem dX9_why_26 : decode cX9_why 26 = .ok (.ifCond .lt 16, 3) := by decide +kernel
theorem dX9_why_29 : decode cX9_why 29 = .ok (.iload 4, 2) := by decide +kernel
theorem dX9_why_31 : decode cX9_why 31 = .ok (.aload_n 0, 1) := by decide +kernel
theorem dX9_why_32 : decode cX9_why 32 = .ok (.getfield 66, 3) := by decide +kernel
theorem dX9_why_35 : decode cX9_why 35 = .ok (.iload_n 1, 1) := by decide +kernel
theorem dX9_why_36 : decode cX9_why 36 = .ok (.iaload, 1) := by decide +kernel
theorem dX9_why_37 : decode cX9_why 37 = .ok (.iload_n 3, 1) := by decide +kernel
theorem dX9_why_38 : decode cX9_why 38 = .ok (.isub, 1) := by decide +kernel
theorem dX9_why_39 : decode cX9_why 39 = .ok (.if_icmp .le 8, 3) := by decide +kernel
theorem dX9_why_42 : decode cX9_why 42 = .ok (.bipush (-13), 2) := by decide +kernel
theorem dX9_why_44 : decode cX9_why 44 = .ok (.goto 4, 3) := by decide +kernel
theorem dX9_why_47 : decode cX9_why 47 = .ok (.iconst 0, 1) := by decide +kernel
theorem dX9_why_48 : decode cX9_why 48 = .ok (.ireturn, 1) := by decide +kernel
theorem dX9_item_0 : decode cX9_item 0 = .ok (.iload_n 1, 1) := by decide +kernel
theorem dX9_item_1 : decode cX9_item 1 = .ok (.invokestatic 282, 3) := by decide +kernel
theorem dX9_item_4 : decode cX9_item 4 = .ok (.ifCond .eq 15, 3) := by decide +kernel
theorem dX9_item_7 : decode cX9_item 7 = .ok (.iload_n 2, 1) := by decide +kernel
theorem dX9_item_8 : decode cX9_item 8 = .ok (.i2l, 1) := by decide +kernel
theorem dX9_item_9 : decode cX9_item 9 = .ok (.lconst 0, 1) := by decide +kernel
theorem dX9_item_10 : decode cX9_item 10 = .ok (.ldc2_w 280, 3) := by decide +kernel
theorem dX9_item_13 : decode cX9_item 13 = .ok (.invokestatic 75, 3) := by decide +kernel
theorem dX9_item_16 : decode cX9_item 16 = .ok (.ifCond .ne 5, 3) := by decide +kernel
theorem dX9_item_19 : decode cX9_item 19 = .ok (.iconst (-1), 1) := by decide +kernel
theorem dX9_item_20 : decode cX9_item 20 = .ok (.ireturn, 1) := by decide +kernel
theorem dX9_item_21 : decode cX9_item 21 = .ok (.aload_n 0, 1) := by decide +kernel
theorem dX9_item_22 : decode cX9_item 22 = .ok (.iload_n 1, 1) := by decide +kernel
theorem dX9_item_23 : decode cX9_item 23 = .ok (.iload_n 2, 1) := by decide +kernel
theorem dX9_item_24 : decode cX9_item 24 = .ok (.iload_n 3, 1) := by decide +kernel
theorem dX9_item_25 : decode cX9_item 25 = .ok (.iconst 1, 1) := by decide +kernel
theorem dX9_item_26 : decode cX9_item 26 = .ok (.invokevirtual 285, 3) := by decide +kernel
theorem dX9_item_29 : decode cX9_item 29 = .ok (.istore 6, 2) := by decide +kernel
theorem dX9_item_31 : decode cX9_item 31 = .ok (.iload 6, 2) := by decide +kernel
theorem dX9_item_33 : decode cX9_item 33 = .ok (.ifCond .ge 6, 3) := by decide +kernel
theorem dX9_item_36 : decode cX9_item 36 = .ok (.iload 6, 2) := by decide +kernel
theorem dX9_item_38 : decode cX9_item 38 = .ok (.ireturn, 1) := by decide +kernel
theorem dX9_item_39 : decode cX9_item 39 = .ok (.aload_n 0, 1) := by decide +kernel
theorem dX9_item_40 : decode cX9_item 40 = .ok (.getfield 69, 3) := by decide +kernel
theorem dX9_item_43 : decode cX9_item 43 = .ok (.bipush 24, 2) := by decide +kernel
theorem dX9_item_45 : decode cX9_item 45 = .ok (.iload_n 1, 1) := by decide +kernel
theorem dX9_item_46 : decode cX9_item 46 = .ok (.imul, 1) := by decide +kernel
theorem dX9_item_47 : decode cX9_item 47 = .ok (.iload_n 3, 1) := by decide +kernel
theorem dX9_item_48 : decode cX9_item 48 = .ok (.iadd, 1) := by decide +kernel
theorem dX9_item_49 : decode cX9_item 49 = .ok (.lload 4, 2) := by decide +kernel
theorem dX9_item_51 : decode cX9_item 51 = .ok (.iload_n 2, 1) := by decide +kernel
theorem dX9_item_52 : decode cX9_item 52 = .ok (.invokestatic 289, 3) := by decide +kernel
theorem dX9_item_55 : decode cX9_item 55 = .ok (.lastore, 1) := by decide +kernel
theorem dX9_item_56 : decode cX9_item 56 = .ok (.iconst 1, 1) := by decide +kernel
theorem dX9_item_57 : decode cX9_item 57 = .ok (.ireturn, 1) := by decide +kernel
theorem dX9_copy_0 : decode cX9_copy 0 = .ok (.iload_n 1, 1) := by decide +kernel
theorem dX9_copy_1 : decode cX9_copy 1 = .ok (.invokestatic 282, 3) := by decide +kernel
theorem dX9_copy_4 : decode cX9_copy 4 = .ok (.ifCond .eq 10, 3) := by decide +kernel
theorem dX9_copy_7 : decode cX9_copy 7 = .ok (.iload_n 3, 1) := by decide +kernel
theorem dX9_copy_8 : decode cX9_copy 8 = .ok (.invokestatic 282, 3) := by decide +kernel
theorem dX9_copy_11 : decode cX9_copy 11 = .ok (.ifCond .ne 5, 3) := by decide +kernel
theorem dX9_copy_14 : decode cX9_copy 14 = .ok (.iconst (-1), 1) := by decide +kernel
theorem dX9_copy_15 : decode cX9_copy 15 = .ok (.ireturn, 1) := by decide +kernel
theorem dX9_copy_16 : decode cX9_copy 16 = .ok (.aload_n 0, 1) := by decide +kernel
theorem dX9_copy_17 : decode cX9_copy 17 = .ok (.getfield 63, 3) := by decide +kernel
theorem dX9_copy_20 : decode cX9_copy 20 = .ok (.iload_n 1, 1) := by decide +kernel
theorem dX9_copy_21 : decode cX9_copy 21 = .ok (.iaload, 1) := by decide +kernel
theorem dX9_copy_22 : decode cX9_copy 22 = .ok (.ifCond .lt 12, 3) := by decide +kernel
theorem dX9_copy_25 : decode cX9_copy 25 = .ok (.aload_n 0, 1) := by decide +kernel
theorem dX9_copy_26 : decode cX9_copy 26 = .ok (.getfield 63, 3) := by decide +kernel
theorem dX9_copy_29 : decode cX9_copy 29 = .ok (.iload_n 3, 1) := by decide +kernel
theorem dX9_copy_30 : decode cX9_copy 30 = .ok (.iaload, 1) := by decide +kernel
theorem dX9_copy_31 : decode cX9_copy 31 = .ok (.ifCond .ge 6, 3) := by decide +kernel
theorem dX9_copy_34 : decode cX9_copy 34 = .ok (.bipush (-11), 2) := by decide +kernel
theorem dX9_copy_36 : decode cX9_copy 36 = .ok (.ireturn, 1) := by decide +kernel
theorem dX9_copy_37 : decode cX9_copy 37 = .ok (.aload_n 0, 1) := by decide +kernel
theorem dX9_copy_38 : decode cX9_copy 38 = .ok (.getfield 63, 3) := by decide +kernel
theorem dX9_copy_41 : decode cX9_copy 41 = .ok (.iload_n 1, 1) := by decide +kernel
theorem dX9_copy_42 : decode cX9_copy 42 = .ok (.iaload, 1) := by decide +kernel
theorem dX9_copy_43 : decode cX9_copy 43 = .ok (.aload_n 0, 1) := by decide +kernel
theorem dX9_copy_44 : decode cX9_copy 44 = .ok (.getfield 63, 3) := by decide +kernel
theorem dX9_copy_47 : decode cX9_copy 47 = .ok (.iload_n 3, 1) := by decide +kernel
theorem dX9_copy_48 : decode cX9_copy 48 = .ok (.iaload, 1) := by decide +kernel
theorem dX9_copy_49 : decode cX9_copy 49 = .ok (.if_icmp .eq 6, 3) := by decide +kernel
theorem dX9_copy_52 : decode cX9_copy 52 = .ok (.bipush (-12), 2) := by decide +kernel
theorem dX9_copy_54 : decode cX9_copy 54 = .ok (.ireturn, 1) := by decide +kernel
theorem dX9_copy_55 : decode cX9_copy 55 = .ok (.iload 5, 2) := by decide +kernel
theorem dX9_copy_57 : decode cX9_copy 57 = .ok (.ifCond .lt 47, 3) := by decide +kernel
theorem dX9_copy_60 : decode cX9_copy 60 = .ok (.iload_n 2, 1) := by decide +kernel
theorem dX9_copy_61 : decode cX9_copy 61 = .ok (.ifCond .lt 43, 3) := by decide +kernel
theorem dX9_copy_64 : decode cX9_copy 64 = .ok (.iload 4, 2) := by decide +kernel
theorem dX9_copy_66 : decode cX9_copy 66 = .ok (.ifCond .lt 38, 3) := by decide +kernel
theorem dX9_copy_69 : decode cX9_copy 69 = .ok (.iload_n 2, 1) := by decide +kernel
theorem dX9_copy_70 : decode cX9_copy 70 = .ok (.i2l, 1) := by decide +kernel
theorem dX9_copy_71 : decode cX9_copy 71 = .ok (.iload 5, 2) := by decide +kernel
theorem dX9_copy_73 : decode cX9_copy 73 = .ok (.i2l, 1) := by decide +kernel
theorem dX9_copy_74 : decode cX9_copy 74 = .ok (.ladd, 1) := by decide +kernel
theorem dX9_copy_75 : decode cX9_copy 75 = .ok (.aload_n 0, 1) := by decide +kernel
theorem dX9_copy_76 : decode cX9_copy 76 = .ok (.getfield 66, 3) := by decide +kernel
theorem dX9_copy_79 : decode cX9_copy 79 = .ok (.iload_n 1, 1) := by decide +kernel
theorem dX9_copy_80 : decode cX9_copy 80 = .ok (.iaload, 1) := by decide +kernel
theorem dX9_copy_81 : decode cX9_copy 81 = .ok (.i2l, 1) := by decide +kernel
theorem dX9_copy_82 : decode cX9_copy 82 = .ok (.lcmp, 1) := by decide +kernel
theorem dX9_copy_83 : decode cX9_copy 83 = .ok (.ifCond .gt 21, 3) := by decide +kernel
theorem dX9_copy_86 : decode cX9_copy 86 = .ok (.iload 4, 2) := by decide +kernel
theorem dX9_copy_88 : decode cX9_copy 88 = .ok (.i2l, 1) := by decide +kernel
theorem dX9_copy_89 : decode cX9_copy 89 = .ok (.iload 5, 2) := by decide +kernel
theorem dX9_copy_91 : decode cX9_copy 91 = .ok (.i2l, 1) := by decide +kernel
theorem dX9_copy_92 : decode cX9_copy 92 = .ok (.ladd, 1) := by decide +kernel
theorem dX9_copy_93 : decode cX9_copy 93 = .ok (.aload_n 0, 1) := by decide +kernel
theorem dX9_copy_94 : decode cX9_copy 94 = .ok (.getfield 66, 3) := by decide +kernel
theorem dX9_copy_97 : decode cX9_copy 97 = .ok (.iload_n 3, 1) := by decide +kernel
theorem dX9_copy_98 : decode cX9_copy 98 = .ok (.iaload, 1) := by decide +kernel
theorem dX9_copy_99 : decode cX9_copy 99 = .ok (.i2l, 1) := by decide +kernel
theorem dX9_copy_100 : decode cX9_copy 100 = .ok (.lcmp, 1) := by decide +kernel
theorem dX9_copy_101 : decode cX9_copy 101 = .ok (.ifCond .le 6, 3) := by decide +kernel
theorem dX9_copy_104 : decode cX9_copy 104 = .ok (.bipush (-13), 2) := by decide +kernel
theorem dX9_copy_106 : decode cX9_copy 106 = .ok (.ireturn, 1) := by decide +kernel
theorem dX9_copy_107 : decode cX9_copy 107 = .ok (.iconst 0, 1) := by decide +kernel
theorem dX9_copy_108 : decode cX9_copy 108 = .ok (.istore 6, 2) := by decide +kernel
theorem dX9_copy_110 : decode cX9_copy 110 = .ok (.iload 6, 2) := by decide +kernel
theorem dX9_copy_112 : decode cX9_copy 112 = .ok (.iload 5, 2) := by decide +kernel
theorem dX9_copy_114 : decode cX9_copy 114 = .ok (.if_icmp .ge 30, 3) := by decide +kernel
theorem dX9_copy_117 : decode cX9_copy 117 = .ok (.aload_n 0, 1) := by decide +kernel
theorem dX9_copy_118 : decode cX9_copy 118 = .ok (.getfield 72, 3) := by decide +kernel
theorem dX9_copy_121 : decode cX9_copy 121 = .ok (.iload 6, 2) := by decide +kernel
theorem dX9_copy_123 : decode cX9_copy 123 = .ok (.aload_n 0, 1) := by decide +kernel
theorem dX9_copy_124 : decode cX9_copy 124 = .ok (.getfield 69, 3) := by decide +kernel
theorem dX9_copy_127 : decode cX9_copy 127 = .ok (.bipush 24, 2) := by decide +kernel
theorem dX9_copy_129 : decode cX9_copy 129 = .ok (.iload_n 1, 1) := by decide +kernel
theorem dX9_copy_130 : decode cX9_copy 130 = .ok (.imul, 1) := by decide +kernel
theorem dX9_copy_131 : decode cX9_copy 131 = .ok (.iload_n 2, 1) := by decide +kernel
theorem dX9_copy_132 : decode cX9_copy 132 = .ok (.iadd, 1) := by decide +kernel
theorem dX9_copy_133 : decode cX9_copy 133 = .ok (.iload 6, 2) := by decide +kernel
theorem dX9_copy_135 : decode cX9_copy 135 = .ok (.iadd, 1) := by decide +kernel
theorem dX9_copy_136 : decode cX9_copy 136 = .ok (.laload, 1) := by decide +kernel
theorem dX9_copy_137 : decode cX9_copy 137 = .ok (.lastore, 1) := by decide +kernel
theorem dX9_copy_138 : decode cX9_copy 138 = .ok (.iinc 6 1, 3) := by decide +kernel
theorem dX9_copy_141 : decode cX9_copy 141 = .ok (.goto (-31), 3) := by decide +kernel
theorem dX9_copy_144 : decode cX9_copy 144 = .ok (.iconst 0, 1) := by decide +kernel
theorem dX9_copy_145 : decode cX9_copy 145 = .ok (.istore 6, 2) := by decide +kernel
theorem dX9_copy_147 : decode cX9_copy 147 = .ok (.iload 6, 2) := by decide +kernel
theorem dX9_copy_149 : decode cX9_copy 149 = .ok (.iload 5, 2) := by decide +kernel
theorem dX9_copy_151 : decode cX9_copy 151 = .ok (.if_icmp .ge 31, 3) := by decide +kernel
theorem dX9_copy_154 : decode cX9_copy 154 = .ok (.aload_n 0, 1) := by decide +kernel
theorem dX9_copy_155 : decode cX9_copy 155 = .ok (.getfield 69, 3) := by decide +kernel
theorem dX9_copy_158 : decode cX9_copy 158 = .ok (.bipush 24, 2) := by decide +kernel
theorem dX9_copy_160 : decode cX9_copy 160 = .ok (.iload_n 3, 1) := by decide +kernel
theorem dX9_copy_161 : decode cX9_copy 161 = .ok (.imul, 1) := by decide +kernel
theorem dX9_copy_162 : decode cX9_copy 162 = .ok (.iload 4, 2) := by decide +kernel
theorem dX9_copy_164 : decode cX9_copy 164 = .ok (.iadd, 1) := by decide +kernel
theorem dX9_copy_165 : decode cX9_copy 165 = .ok (.iload 6, 2) := by decide +kernel
theorem dX9_copy_167 : decode cX9_copy 167 = .ok (.iadd, 1) := by decide +kernel
theorem dX9_copy_168 : decode cX9_copy 168 = .ok (.aload_n 0, 1) := by decide +kernel
theorem dX9_copy_169 : decode cX9_copy 169 = .ok (.getfield 72, 3) := by decide +kernel
theorem dX9_copy_172 : decode cX9_copy 172 = .ok (.iload 6, 2) := by decide +kernel
theorem dX9_copy_174 : decode cX9_copy 174 = .ok (.laload, 1) := by decide +kernel
theorem dX9_copy_175 : decode cX9_copy 175 = .ok (.lastore, 1) := by decide +kernel
theorem dX9_copy_176 : decode cX9_copy 176 = .ok (.iinc 6 1, 3) := by decide +kernel
theorem dX9_copy_179 : decode cX9_copy 179 = .ok (.goto (-32), 3) := by decide +kernel
theorem dX9_copy_182 : decode cX9_copy 182 = .ok (.iload 5, 2) := by decide +kernel
theorem dX9_copy_184 : decode cX9_copy 184 = .ok (.ireturn, 1) := by decide +kernel
theorem dX9_meant_0 : decode cX9_meant 0 = .ok (.iload_n 1, 1) := by decide +kernel
theorem dX9_meant_1 : decode cX9_meant 1 = .ok (.invokestatic 282, 3) := by decide +kernel
theorem dX9_meant_4 : decode cX9_meant 4 = .ok (.ifCond .eq 28, 3) := by decide +kernel
theorem dX9_meant_7 : decode cX9_meant 7 = .ok (.iload_n 2, 1) := by decide +kernel
theorem dX9_meant_8 : decode cX9_meant 8 = .ok (.i2l, 1) := by decide +kernel
theorem dX9_meant_9 : decode cX9_meant 9 = .ok (.lconst 0, 1) := by decide +kernel
theorem dX9_meant_10 : decode cX9_meant 10 = .ok (.ldc2_w 280, 3) := by decide +kernel
theorem dX9_meant_13 : decode cX9_meant 13 = .ok (.invokestatic 75, 3) := by decide +kernel
theorem dX9_meant_16 : decode cX9_meant 16 = .ok (.ifCond .eq 16, 3) := by decide +kernel
theorem dX9_meant_19 : decode cX9_meant 19 = .ok (.iload 4, 2) := by decide +kernel
theorem dX9_meant_21 : decode cX9_meant 21 = .ok (.i2l, 1) := by decide +kernel
theorem dX9_meant_22 : decode cX9_meant 22 = .ok (.lconst 1, 1) := by decide +kernel
theorem dX9_meant_23 : decode cX9_meant 23 = .ok (.ldc2_w 293, 3) := by decide +kernel
theorem dX9_meant_26 : decode cX9_meant 26 = .ok (.invokestatic 75, 3) := by decide +kernel
theorem dX9_meant_29 : decode cX9_meant 29 = .ok (.ifCond .ne 5, 3) := by decide +kernel
theorem dX9_meant_32 : decode cX9_meant 32 = .ok (.iconst (-1), 1) := by decide +kernel
theorem dX9_meant_33 : decode cX9_meant 33 = .ok (.ireturn, 1) := by decide +kernel
theorem dX9_meant_34 : decode cX9_meant 34 = .ok (.aload_n 0, 1) := by decide +kernel
theorem dX9_meant_35 : decode cX9_meant 35 = .ok (.iload_n 1, 1) := by decide +kernel
theorem dX9_meant_36 : decode cX9_meant 36 = .ok (.iload_n 2, 1) := by decide +kernel
theorem dX9_meant_37 : decode cX9_meant 37 = .ok (.iload_n 3, 1) := by decide +kernel
theorem dX9_meant_38 : decode cX9_meant 38 = .ok (.iload 4, 2) := by decide +kernel
theorem dX9_meant_40 : decode cX9_meant 40 = .ok (.invokevirtual 285, 3) := by decide +kernel
theorem dX9_meant_43 : decode cX9_meant 43 = .ok (.istore 5, 2) := by decide +kernel
theorem dX9_meant_45 : decode cX9_meant 45 = .ok (.iload 5, 2) := by decide +kernel
theorem dX9_meant_47 : decode cX9_meant 47 = .ok (.ifCond .ge 6, 3) := by decide +kernel
theorem dX9_meant_50 : decode cX9_meant 50 = .ok (.iload 5, 2) := by decide +kernel
theorem dX9_meant_52 : decode cX9_meant 52 = .ok (.ireturn, 1) := by decide +kernel
theorem dX9_meant_53 : decode cX9_meant 53 = .ok (.aload_n 0, 1) := by decide +kernel
theorem dX9_meant_54 : decode cX9_meant 54 = .ok (.getfield 7, 3) := by decide +kernel
theorem dX9_meant_57 : decode cX9_meant 57 = .ok (.iconst 1, 1) := by decide +kernel
theorem dX9_meant_58 : decode cX9_meant 58 = .ok (.iaload, 1) := by decide +kernel
theorem dX9_meant_59 : decode cX9_meant 59 = .ok (.istore 6, 2) := by decide +kernel
theorem dX9_meant_61 : decode cX9_meant 61 = .ok (.iconst 0, 1) := by decide +kernel
theorem dX9_meant_62 : decode cX9_meant 62 = .ok (.istore 7, 2) := by decide +kernel
theorem dX9_meant_64 : decode cX9_meant 64 = .ok (.iconst 0, 1) := by decide +kernel
theorem dX9_meant_65 : decode cX9_meant 65 = .ok (.istore 8, 2) := by decide +kernel
theorem dX9_meant_67 : decode cX9_meant 67 = .ok (.iload 8, 2) := by decide +kernel
theorem dX9_meant_69 : decode cX9_meant 69 = .ok (.iconst 5, 1) := by decide +kernel
theorem dX9_meant_70 : decode cX9_meant 70 = .ok (.if_icmp .ge 109, 3) := by decide +kernel
theorem dX9_meant_73 : decode cX9_meant 73 = .ok (.aload_n 0, 1) := by decide +kernel
theorem dX9_meant_74 : decode cX9_meant 74 = .ok (.getfield 7, 3) := by decide +kernel
theorem dX9_meant_77 : decode cX9_meant 77 = .ok (.iconst 1, 1) := by decide +kernel
theorem dX9_meant_78 : decode cX9_meant 78 = .ok (.iload 8, 2) := by decide +kernel
theorem dX9_meant_80 : decode cX9_meant 80 = .ok (.iastore, 1) := by decide +kernel
theorem dX9_meant_81 : decode cX9_meant 81 = .ok (.aload_n 0, 1) := by decide +kernel
theorem dX9_meant_82 : decode cX9_meant 82 = .ok (.invokevirtual 154, 3) := by decide +kernel
theorem dX9_meant_85 : decode cX9_meant 85 = .ok (.aload_n 0, 1) := by decide +kernel
theorem dX9_meant_86 : decode cX9_meant 86 = .ok (.getfield 151, 3) := by decide +kernel
theorem dX9_meant_89 : decode cX9_meant 89 = .ok (.iload 4, 2) := by decide +kernel
theorem dX9_meant_91 : decode cX9_meant 91 = .ok (.if_icmp .ne 7, 3) := by decide +kernel
theorem dX9_meant_94 : decode cX9_meant 94 = .ok (.iconst 1, 1) := by decide +kernel
theorem dX9_meant_95 : decode cX9_meant 95 = .ok (.goto 4, 3) := by decide +kernel
theorem dX9_meant_98 : decode cX9_meant 98 = .ok (.iconst 0, 1) := by decide +kernel
theorem dX9_meant_99 : decode cX9_meant 99 = .ok (.istore 9, 2) := by decide +kernel
theorem dX9_meant_101 : decode cX9_meant 101 = .ok (.iconst 0, 1) := by decide +kernel
theorem dX9_meant_102 : decode cX9_meant 102 = .ok (.istore 10, 2) := by decide +kernel
theorem dX9_meant_104 : decode cX9_meant 104 = .ok (.iload 10, 2) := by decide +kernel
theorem dX9_meant_106 : decode cX9_meant 106 = .ok (.iload 4, 2) := by decide +kernel
theorem dX9_meant_108 : decode cX9_meant 108 = .ok (.if_icmp .ge 47, 3) := by decide +kernel
theorem dX9_meant_111 : decode cX9_meant 111 = .ok (.iload 9, 2) := by decide +kernel
theorem dX9_meant_113 : decode cX9_meant 113 = .ok (.ifCond .eq 42, 3) := by decide +kernel
theorem dX9_meant_116 : decode cX9_meant 116 = .ok (.aload_n 0, 1) := by decide +kernel
theorem dX9_meant_117 : decode cX9_meant 117 = .ok (.getfield 22, 3) := by decide +kernel
theorem dX9_meant_120 : decode cX9_meant 120 = .ok (.iload 10, 2) := by decide +kernel
theorem dX9_meant_122 : decode cX9_meant 122 = .ok (.iaload, 1) := by decide +kernel
theorem dX9_meant_123 : decode cX9_meant 123 = .ok (.i2l, 1) := by decide +kernel
theorem dX9_meant_124 : decode cX9_meant 124 = .ok (.aload_n 0, 1) := by decide +kernel
theorem dX9_meant_125 : decode cX9_meant 125 = .ok (.getfield 69, 3) := by decide +kernel
theorem dX9_meant_128 : decode cX9_meant 128 = .ok (.bipush 24, 2) := by decide +kernel
theorem dX9_meant_130 : decode cX9_meant 130 = .ok (.iload_n 1, 1) := by decide +kernel
theorem dX9_meant_131 : decode cX9_meant 131 = .ok (.imul, 1) := by decide +kernel
theorem dX9_meant_132 : decode cX9_meant 132 = .ok (.iload_n 3, 1) := by decide +kernel
theorem dX9_meant_133 : decode cX9_meant 133 = .ok (.iadd, 1) := by decide +kernel
theorem dX9_meant_134 : decode cX9_meant 134 = .ok (.iload 10, 2) := by decide +kernel
theorem dX9_meant_136 : decode cX9_meant 136 = .ok (.iadd, 1) := by decide +kernel
theorem dX9_meant_137 : decode cX9_meant 137 = .ok (.laload, 1) := by decide +kernel
theorem dX9_meant_138 : decode cX9_meant 138 = .ok (.lcmp, 1) := by decide +kernel
theorem dX9_meant_139 : decode cX9_meant 139 = .ok (.ifCond .ne 7, 3) := by decide +kernel
theorem dX9_meant_142 : decode cX9_meant 142 = .ok (.iconst 1, 1) := by decide +kernel
theorem dX9_meant_143 : decode cX9_meant 143 = .ok (.goto 4, 3) := by decide +kernel
theorem dX9_meant_146 : decode cX9_meant 146 = .ok (.iconst 0, 1) := by decide +kernel
theorem dX9_meant_147 : decode cX9_meant 147 = .ok (.istore 9, 2) := by decide +kernel
theorem dX9_meant_149 : decode cX9_meant 149 = .ok (.iinc 10 1, 3) := by decide +kernel
theorem dX9_meant_152 : decode cX9_meant 152 = .ok (.goto (-48), 3) := by decide +kernel
theorem dX9_meant_155 : decode cX9_meant 155 = .ok (.iload 7, 2) := by decide +kernel
theorem dX9_meant_157 : decode cX9_meant 157 = .ok (.iload 9, 2) := by decide +kernel
theorem dX9_meant_159 : decode cX9_meant 159 = .ok (.ifCond .eq 10, 3) := by decide +kernel
theorem dX9_meant_162 : decode cX9_meant 162 = .ok (.iconst 1, 1) := by decide +kernel
theorem dX9_meant_163 : decode cX9_meant 163 = .ok (.iload 8, 2) := by decide +kernel
theorem dX9_meant_165 : decode cX9_meant 165 = .ok (.ishl, 1) := by decide +kernel
theorem dX9_meant_166 : decode cX9_meant 166 = .ok (.goto 4, 3) := by decide +kernel
theorem dX9_meant_169 : decode cX9_meant 169 = .ok (.iconst 0, 1) := by decide +kernel
theorem dX9_meant_170 : decode cX9_meant 170 = .ok (.ior, 1) := by decide +kernel
theorem dX9_meant_171 : decode cX9_meant 171 = .ok (.istore 7, 2) := by decide +kernel
theorem dX9_meant_173 : decode cX9_meant 173 = .ok (.iinc 8 1, 3) := by decide +kernel
theorem dX9_meant_176 : decode cX9_meant 176 = .ok (.goto (-109), 3) := by decide +kernel
theorem dX9_meant_179 : decode cX9_meant 179 = .ok (.aload_n 0, 1) := by decide +kernel
theorem dX9_meant_180 : decode cX9_meant 180 = .ok (.getfield 7, 3) := by decide +kernel
theorem dX9_meant_183 : decode cX9_meant 183 = .ok (.iconst 1, 1) := by decide +kernel
theorem dX9_meant_184 : decode cX9_meant 184 = .ok (.iload 6, 2) := by decide +kernel
theorem dX9_meant_186 : decode cX9_meant 186 = .ok (.iastore, 1) := by decide +kernel
theorem dX9_meant_187 : decode cX9_meant 187 = .ok (.iload 7, 2) := by decide +kernel
theorem dX9_meant_189 : decode cX9_meant 189 = .ok (.ireturn, 1) := by decide +kernel
theorem dX9_film_0 : decode cX9_film 0 = .ok (.iload_n 1, 1) := by decide +kernel
theorem dX9_film_1 : decode cX9_film 1 = .ok (.invokestatic 282, 3) := by decide +kernel
theorem dX9_film_4 : decode cX9_film 4 = .ok (.ifCond .eq 15, 3) := by decide +kernel
theorem dX9_film_7 : decode cX9_film 7 = .ok (.iload_n 2, 1) := by decide +kernel
theorem dX9_film_8 : decode cX9_film 8 = .ok (.i2l, 1) := by decide +kernel
theorem dX9_film_9 : decode cX9_film 9 = .ok (.lconst 0, 1) := by decide +kernel
theorem dX9_film_10 : decode cX9_film 10 = .ok (.ldc2_w 280, 3) := by decide +kernel
theorem dX9_film_13 : decode cX9_film 13 = .ok (.invokestatic 75, 3) := by decide +kernel
theorem dX9_film_16 : decode cX9_film 16 = .ok (.ifCond .ne 5, 3) := by decide +kernel
theorem dX9_film_19 : decode cX9_film 19 = .ok (.iconst (-1), 1) := by decide +kernel
theorem dX9_film_20 : decode cX9_film 20 = .ok (.ireturn, 1) := by decide +kernel
theorem dX9_film_21 : decode cX9_film 21 = .ok (.aload_n 0, 1) := by decide +kernel
theorem dX9_film_22 : decode cX9_film 22 = .ok (.invokevirtual 154, 3) := by decide +kernel
theorem dX9_film_25 : decode cX9_film 25 = .ok (.aload_n 0, 1) := by decide +kernel
theorem dX9_film_26 : decode cX9_film 26 = .ok (.getfield 135, 3) := by decide +kernel
theorem dX9_film_29 : decode cX9_film 29 = .ok (.bipush (-4), 2) := by decide +kernel
theorem dX9_film_31 : decode cX9_film 31 = .ok (.if_icmp .ne 6, 3) := by decide +kernel
theorem dX9_film_34 : decode cX9_film 34 = .ok (.bipush (-4), 2) := by decide +kernel
theorem dX9_film_36 : decode cX9_film 36 = .ok (.ireturn, 1) := by decide +kernel
theorem dX9_film_37 : decode cX9_film 37 = .ok (.aload_n 0, 1) := by decide +kernel
theorem dX9_film_38 : decode cX9_film 38 = .ok (.iload_n 1, 1) := by decide +kernel
theorem dX9_film_39 : decode cX9_film 39 = .ok (.iload_n 2, 1) := by decide +kernel
theorem dX9_film_40 : decode cX9_film 40 = .ok (.iload_n 3, 1) := by decide +kernel
theorem dX9_film_41 : decode cX9_film 41 = .ok (.aload_n 0, 1) := by decide +kernel
theorem dX9_film_42 : decode cX9_film 42 = .ok (.getfield 151, 3) := by decide +kernel
theorem dX9_film_45 : decode cX9_film 45 = .ok (.invokevirtual 285, 3) := by decide +kernel
theorem dX9_film_48 : decode cX9_film 48 = .ok (.istore 4, 2) := by decide +kernel
theorem dX9_film_50 : decode cX9_film 50 = .ok (.iload 4, 2) := by decide +kernel
theorem dX9_film_52 : decode cX9_film 52 = .ok (.ifCond .ge 6, 3) := by decide +kernel
theorem dX9_film_55 : decode cX9_film 55 = .ok (.iload 4, 2) := by decide +kernel
theorem dX9_film_57 : decode cX9_film 57 = .ok (.ireturn, 1) := by decide +kernel
theorem dX9_film_58 : decode cX9_film 58 = .ok (.iconst 0, 1) := by decide +kernel
theorem dX9_film_59 : decode cX9_film 59 = .ok (.istore 5, 2) := by decide +kernel
theorem dX9_film_61 : decode cX9_film 61 = .ok (.iload 5, 2) := by decide +kernel
theorem dX9_film_63 : decode cX9_film 63 = .ok (.aload_n 0, 1) := by decide +kernel
theorem dX9_film_64 : decode cX9_film 64 = .ok (.getfield 151, 3) := by decide +kernel
theorem dX9_film_67 : decode cX9_film 67 = .ok (.if_icmp .ge 35, 3) := by decide +kernel
theorem dX9_film_70 : decode cX9_film 70 = .ok (.aload_n 0, 1) := by decide +kernel
theorem dX9_film_71 : decode cX9_film 71 = .ok (.getfield 69, 3) := by decide +kernel
theorem dX9_film_74 : decode cX9_film 74 = .ok (.bipush 24, 2) := by decide +kernel
theorem dX9_film_76 : decode cX9_film 76 = .ok (.iload_n 1, 1) := by decide +kernel
theorem dX9_film_77 : decode cX9_film 77 = .ok (.imul, 1) := by decide +kernel
theorem dX9_film_78 : decode cX9_film 78 = .ok (.iload_n 3, 1) := by decide +kernel
theorem dX9_film_79 : decode cX9_film 79 = .ok (.iadd, 1) := by decide +kernel
theorem dX9_film_80 : decode cX9_film 80 = .ok (.iload 5, 2) := by decide +kernel
theorem dX9_film_82 : decode cX9_film 82 = .ok (.iadd, 1) := by decide +kernel
theorem dX9_film_83 : decode cX9_film 83 = .ok (.aload_n 0, 1) := by decide +kernel
theorem dX9_film_84 : decode cX9_film 84 = .ok (.getfield 22, 3) := by decide +kernel
theorem dX9_film_87 : decode cX9_film 87 = .ok (.iload 5, 2) := by decide +kernel
theorem dX9_film_89 : decode cX9_film 89 = .ok (.iaload, 1) := by decide +kernel
theorem dX9_film_90 : decode cX9_film 90 = .ok (.i2l, 1) := by decide +kernel
theorem dX9_film_91 : decode cX9_film 91 = .ok (.iload_n 2, 1) := by decide +kernel
theorem dX9_film_92 : decode cX9_film 92 = .ok (.invokestatic 289, 3) := by decide +kernel
theorem dX9_film_95 : decode cX9_film 95 = .ok (.lastore, 1) := by decide +kernel
theorem dX9_film_96 : decode cX9_film 96 = .ok (.iinc 5 1, 3) := by decide +kernel
theorem dX9_film_99 : decode cX9_film 99 = .ok (.goto (-38), 3) := by decide +kernel
theorem dX9_film_102 : decode cX9_film 102 = .ok (.aload_n 0, 1) := by decide +kernel
theorem dX9_film_103 : decode cX9_film 103 = .ok (.getfield 151, 3) := by decide +kernel
theorem dX9_film_106 : decode cX9_film 106 = .ok (.ireturn, 1) := by decide +kernel
end
section
theorem dL_law_0 : decode code 0 = .ok (.new 7, 3) := by decide +kernel
theorem dL_law_3 : decode code 3 = .ok (.dup, 1) := by decide +kernel
theorem dL_law_4 : decode code 4 = .ok (.invokespecial 9, 3) := by decide +kernel
theorem dL_law_7 : decode code 7 = .ok (.astore_n 1, 1) := by decide +kernel
theorem dL_law_8 : decode code 8 = .ok (.new 10, 3) := by decide +kernel
theorem dL_law_11 : decode code 11 = .ok (.dup, 1) := by decide +kernel
theorem dL_law_12 : decode code 12 = .ok (.invokespecial 12, 3) := by decide +kernel
theorem dL_law_15 : decode code 15 = .ok (.astore_n 2, 1) := by decide +kernel
theorem dL_law_16 : decode code 16 = .ok (.iconst 0, 1) := by decide +kernel
theorem dL_law_17 : decode code 17 = .ok (.istore_n 3, 1) := by decide +kernel
theorem dL_law_18 : decode code 18 = .ok (.iload_n 3, 1) := by decide +kernel
theorem dL_law_19 : decode code 19 = .ok (.aload_n 0, 1) := by decide +kernel
theorem dL_law_20 : decode code 20 = .ok (.arraylength, 1) := by decide +kernel
theorem dL_law_21 : decode code 21 = .ok (.bipush 6, 2) := by decide +kernel
theorem dL_law_23 : decode code 23 = .ok (.isub, 1) := by decide +kernel
theorem dL_law_24 : decode code 24 = .ok (.if_icmp .gt 971, 3) := by decide +kernel
theorem dL_law_27 : decode code 27 = .ok (.aload_n 0, 1) := by decide +kernel
theorem dL_law_28 : decode code 28 = .ok (.iload_n 3, 1) := by decide +kernel
theorem dL_law_29 : decode code 29 = .ok (.iaload, 1) := by decide +kernel
theorem dL_law_30 : decode code 30 = .ok (.bipush 31, 2) := by decide +kernel
theorem dL_law_32 : decode code 32 = .ok (.iand, 1) := by decide +kernel
theorem dL_law_33 : decode code 33 = .ok (.tableswitch 956 0 26 #[123, 146, 159, 182, 225, 248, 281, 324, 347, 380, 403, 426, 449, 462, 485, 508, 531, 555, 588, 622, 635, 648, 701, 744, 787, 810, 893], 123) := by decide +kernel
theorem dL_law_156 : decode code 156 = .ok (.aload_n 1, 1) := by decide +kernel
theorem dL_law_157 : decode code 157 = .ok (.aload_n 0, 1) := by decide +kernel
theorem dL_law_158 : decode code 158 = .ok (.iload_n 3, 1) := by decide +kernel
theorem dL_law_159 : decode code 159 = .ok (.iconst 1, 1) := by decide +kernel
theorem dL_law_160 : decode code 160 = .ok (.iadd, 1) := by decide +kernel
theorem dL_law_161 : decode code 161 = .ok (.iaload, 1) := by decide +kernel
theorem dL_law_162 : decode code 162 = .ok (.invokevirtual 13, 3) := by decide +kernel
theorem dL_law_165 : decode code 165 = .ok (.aload_n 2, 1) := by decide +kernel
theorem dL_law_166 : decode code 166 = .ok (.aload_n 0, 1) := by decide +kernel
theorem dL_law_167 : decode code 167 = .ok (.iload_n 3, 1) := by decide +kernel
theorem dL_law_168 : decode code 168 = .ok (.iconst 1, 1) := by decide +kernel
theorem dL_law_169 : decode code 169 = .ok (.iadd, 1) := by decide +kernel
theorem dL_law_170 : decode code 170 = .ok (.iaload, 1) := by decide +kernel
theorem dL_law_171 : decode code 171 = .ok (.invokevirtual 17, 3) := by decide +kernel
theorem dL_law_174 : decode code 174 = .ok (.if_icmp .eq 815, 3) := by decide +kernel
theorem dL_law_177 : decode code 177 = .ok (.iconst 0, 1) := by decide +kernel
theorem dL_law_178 : decode code 178 = .ok (.ireturn, 1) := by decide +kernel
theorem dL_law_179 : decode code 179 = .ok (.aload_n 1, 1) := by decide +kernel
theorem dL_law_180 : decode code 180 = .ok (.invokevirtual 18, 3) := by decide +kernel
theorem dL_law_183 : decode code 183 = .ok (.aload_n 2, 1) := by decide +kernel
theorem dL_law_184 : decode code 184 = .ok (.invokevirtual 22, 3) := by decide +kernel
theorem dL_law_187 : decode code 187 = .ok (.if_icmp .eq 802, 3) := by decide +kernel
theorem dL_law_190 : decode code 190 = .ok (.iconst 0, 1) := by decide +kernel
theorem dL_law_191 : decode code 191 = .ok (.ireturn, 1) := by decide +kernel
theorem dL_law_192 : decode code 192 = .ok (.aload_n 1, 1) := by decide +kernel
theorem dL_law_193 : decode code 193 = .ok (.aload_n 0, 1) := by decide +kernel
theorem dL_law_194 : decode code 194 = .ok (.iload_n 3, 1) := by decide +kernel
theorem dL_law_195 : decode code 195 = .ok (.iconst 1, 1) := by decide +kernel
theorem dL_law_196 : decode code 196 = .ok (.iadd, 1) := by decide +kernel
theorem dL_law_197 : decode code 197 = .ok (.iaload, 1) := by decide +kernel
theorem dL_law_198 : decode code 198 = .ok (.invokevirtual 23, 3) := by decide +kernel
theorem dL_law_201 : decode code 201 = .ok (.aload_n 2, 1) := by decide +kernel
theorem dL_law_202 : decode code 202 = .ok (.aload_n 0, 1) := by decide +kernel
theorem dL_law_203 : decode code 203 = .ok (.iload_n 3, 1) := by decide +kernel
theorem dL_law_204 : decode code 204 = .ok (.iconst 1, 1) := by decide +kernel
theorem dL_law_205 : decode code 205 = .ok (.iadd, 1) := by decide +kernel
theorem dL_law_206 : decode code 206 = .ok (.iaload, 1) := by decide +kernel
theorem dL_law_207 : decode code 207 = .ok (.invokevirtual 26, 3) := by decide +kernel
theorem dL_law_210 : decode code 210 = .ok (.if_icmp .eq 779, 3) := by decide +kernel
theorem dL_law_213 : decode code 213 = .ok (.iconst 0, 1) := by decide +kernel
theorem dL_law_214 : decode code 214 = .ok (.ireturn, 1) := by decide +kernel
theorem dL_law_215 : decode code 215 = .ok (.aload_n 1, 1) := by decide +kernel
theorem dL_law_216 : decode code 216 = .ok (.aload_n 0, 1) := by decide +kernel
theorem dL_law_217 : decode code 217 = .ok (.iload_n 3, 1) := by decide +kernel
theorem dL_law_218 : decode code 218 = .ok (.iconst 1, 1) := by decide +kernel
theorem dL_law_219 : decode code 219 = .ok (.iadd, 1) := by decide +kernel
theorem dL_law_220 : decode code 220 = .ok (.iaload, 1) := by decide +kernel
theorem dL_law_221 : decode code 221 = .ok (.aload_n 0, 1) := by decide +kernel
theorem dL_law_222 : decode code 222 = .ok (.iload_n 3, 1) := by decide +kernel
theorem dL_law_223 : decode code 223 = .ok (.iconst 2, 1) := by decide +kernel
theorem dL_law_224 : decode code 224 = .ok (.iadd, 1) := by decide +kernel
theorem dL_law_225 : decode code 225 = .ok (.iaload, 1) := by decide +kernel
theorem dL_law_226 : decode code 226 = .ok (.aload_n 0, 1) := by decide +kernel
theorem dL_law_227 : decode code 227 = .ok (.iload_n 3, 1) := by decide +kernel
theorem dL_law_228 : decode code 228 = .ok (.iconst 3, 1) := by decide +kernel
theorem dL_law_229 : decode code 229 = .ok (.iadd, 1) := by decide +kernel
theorem dL_law_230 : decode code 230 = .ok (.iaload, 1) := by decide +kernel
theorem dL_law_231 : decode code 231 = .ok (.invokevirtual 27, 3) := by decide +kernel
theorem dL_law_234 : decode code 234 = .ok (.aload_n 2, 1) := by decide +kernel
theorem dL_law_235 : decode code 235 = .ok (.aload_n 0, 1) := by decide +kernel
theorem dL_law_236 : decode code 236 = .ok (.iload_n 3, 1) := by decide +kernel
theorem dL_law_237 : decode code 237 = .ok (.iconst 1, 1) := by decide +kernel
theorem dL_law_238 : decode code 238 = .ok (.iadd, 1) := by decide +kernel
theorem dL_law_239 : decode code 239 = .ok (.iaload, 1) := by decide +kernel
theorem dL_law_240 : decode code 240 = .ok (.aload_n 0, 1) := by decide +kernel
theorem dL_law_241 : decode code 241 = .ok (.iload_n 3, 1) := by decide +kernel
theorem dL_law_242 : decode code 242 = .ok (.iconst 2, 1) := by decide +kernel
theorem dL_law_243 : decode code 243 = .ok (.iadd, 1) := by decide +kernel
theorem dL_law_244 : decode code 244 = .ok (.iaload, 1) := by decide +kernel
theorem dL_law_245 : decode code 245 = .ok (.aload_n 0, 1) := by decide +kernel
theorem dL_law_246 : decode code 246 = .ok (.iload_n 3, 1) := by decide +kernel
theorem dL_law_247 : decode code 247 = .ok (.iconst 3, 1) := by decide +kernel
theorem dL_law_248 : decode code 248 = .ok (.iadd, 1) := by decide +kernel
theorem dL_law_249 : decode code 249 = .ok (.iaload, 1) := by decide +kernel
theorem dL_law_250 : decode code 250 = .ok (.invokevirtual 31, 3) := by decide +kernel
theorem dL_law_253 : decode code 253 = .ok (.if_icmp .eq 736, 3) := by decide +kernel
theorem dL_law_256 : decode code 256 = .ok (.iconst 0, 1) := by decide +kernel
theorem dL_law_257 : decode code 257 = .ok (.ireturn, 1) := by decide +kernel
theorem dL_law_258 : decode code 258 = .ok (.aload_n 1, 1) := by decide +kernel
theorem dL_law_259 : decode code 259 = .ok (.aload_n 0, 1) := by decide +kernel
theorem dL_law_260 : decode code 260 = .ok (.iload_n 3, 1) := by decide +kernel
theorem dL_law_261 : decode code 261 = .ok (.iconst 1, 1) := by decide +kernel
theorem dL_law_262 : decode code 262 = .ok (.iadd, 1) := by decide +kernel
theorem dL_law_263 : decode code 263 = .ok (.iaload, 1) := by decide +kernel
theorem dL_law_264 : decode code 264 = .ok (.invokevirtual 32, 3) := by decide +kernel
theorem dL_law_267 : decode code 267 = .ok (.aload_n 2, 1) := by decide +kernel
theorem dL_law_268 : decode code 268 = .ok (.aload_n 0, 1) := by decide +kernel
theorem dL_law_269 : decode code 269 = .ok (.iload_n 3, 1) := by decide +kernel
theorem dL_law_270 : decode code 270 = .ok (.iconst 1, 1) := by decide +kernel
theorem dL_law_271 : decode code 271 = .ok (.iadd, 1) := by decide +kernel
theorem dL_law_272 : decode code 272 = .ok (.iaload, 1) := by decide +kernel
theorem dL_law_273 : decode code 273 = .ok (.invokevirtual 35, 3) := by decide +kernel
theorem dL_law_276 : decode code 276 = .ok (.if_icmp .eq 713, 3) := by decide +kernel
theorem dL_law_279 : decode code 279 = .ok (.iconst 0, 1) := by decide +kernel
theorem dL_law_280 : decode code 280 = .ok (.ireturn, 1) := by decide +kernel
theorem dL_law_281 : decode code 281 = .ok (.aload_n 1, 1) := by decide +kernel
theorem dL_law_282 : decode code 282 = .ok (.aload_n 0, 1) := by decide +kernel
theorem dL_law_283 : decode code 283 = .ok (.iload_n 3, 1) := by decide +kernel
theorem dL_law_284 : decode code 284 = .ok (.iconst 1, 1) := by decide +kernel
theorem dL_law_285 : decode code 285 = .ok (.iadd, 1) := by decide +kernel
theorem dL_law_286 : decode code 286 = .ok (.iaload, 1) := by decide +kernel
theorem dL_law_287 : decode code 287 = .ok (.aload_n 0, 1) := by decide +kernel
theorem dL_law_288 : decode code 288 = .ok (.iload_n 3, 1) := by decide +kernel
theorem dL_law_289 : decode code 289 = .ok (.iconst 2, 1) := by decide +kernel
theorem dL_law_290 : decode code 290 = .ok (.iadd, 1) := by decide +kernel
theorem dL_law_291 : decode code 291 = .ok (.iaload, 1) := by decide +kernel
theorem dL_law_292 : decode code 292 = .ok (.invokevirtual 36, 3) := by decide +kernel
theorem dL_law_295 : decode code 295 = .ok (.aload_n 2, 1) := by decide +kernel
theorem dL_law_296 : decode code 296 = .ok (.aload_n 0, 1) := by decide +kernel
theorem dL_law_297 : decode code 297 = .ok (.iload_n 3, 1) := by decide +kernel
theorem dL_law_298 : decode code 298 = .ok (.iconst 1, 1) := by decide +kernel
theorem dL_law_299 : decode code 299 = .ok (.iadd, 1) := by decide +kernel
theorem dL_law_300 : decode code 300 = .ok (.iaload, 1) := by decide +kernel
theorem dL_law_301 : decode code 301 = .ok (.aload_n 0, 1) := by decide +kernel
theorem dL_law_302 : decode code 302 = .ok (.iload_n 3, 1) := by decide +kernel
theorem dL_law_303 : decode code 303 = .ok (.iconst 2, 1) := by decide +kernel
theorem dL_law_304 : decode code 304 = .ok (.iadd, 1) := by decide +kernel
theorem dL_law_305 : decode code 305 = .ok (.iaload, 1) := by decide +kernel
theorem dL_law_306 : decode code 306 = .ok (.invokevirtual 40, 3) := by decide +kernel
theorem dL_law_309 : decode code 309 = .ok (.if_icmp .eq 680, 3) := by decide +kernel
theorem dL_law_312 : decode code 312 = .ok (.iconst 0, 1) := by decide +kernel
theorem dL_law_313 : decode code 313 = .ok (.ireturn, 1) := by decide +kernel
theorem dL_law_314 : decode code 314 = .ok (.aload_n 1, 1) := by decide +kernel
theorem dL_law_315 : decode code 315 = .ok (.aload_n 0, 1) := by decide +kernel
theorem dL_law_316 : decode code 316 = .ok (.iload_n 3, 1) := by decide +kernel
theorem dL_law_317 : decode code 317 = .ok (.iconst 1, 1) := by decide +kernel
theorem dL_law_318 : decode code 318 = .ok (.iadd, 1) := by decide +kernel
theorem dL_law_319 : decode code 319 = .ok (.iaload, 1) := by decide +kernel
theorem dL_law_320 : decode code 320 = .ok (.aload_n 0, 1) := by decide +kernel
theorem dL_law_321 : decode code 321 = .ok (.iload_n 3, 1) := by decide +kernel
theorem dL_law_322 : decode code 322 = .ok (.iconst 2, 1) := by decide +kernel
theorem dL_law_323 : decode code 323 = .ok (.iadd, 1) := by decide +kernel
theorem dL_law_324 : decode code 324 = .ok (.iaload, 1) := by decide +kernel
theorem dL_law_325 : decode code 325 = .ok (.aload_n 0, 1) := by decide +kernel
theorem dL_law_326 : decode code 326 = .ok (.iload_n 3, 1) := by decide +kernel
theorem dL_law_327 : decode code 327 = .ok (.iconst 3, 1) := by decide +kernel
theorem dL_law_328 : decode code 328 = .ok (.iadd, 1) := by decide +kernel
theorem dL_law_329 : decode code 329 = .ok (.iaload, 1) := by decide +kernel
theorem dL_law_330 : decode code 330 = .ok (.invokevirtual 41, 3) := by decide +kernel
theorem dL_law_333 : decode code 333 = .ok (.aload_n 2, 1) := by decide +kernel
theorem dL_law_334 : decode code 334 = .ok (.aload_n 0, 1) := by decide +kernel
theorem dL_law_335 : decode code 335 = .ok (.iload_n 3, 1) := by decide +kernel
theorem dL_law_336 : decode code 336 = .ok (.iconst 1, 1) := by decide +kernel
theorem dL_law_337 : decode code 337 = .ok (.iadd, 1) := by decide +kernel
theorem dL_law_338 : decode code 338 = .ok (.iaload, 1) := by decide +kernel
theorem dL_law_339 : decode code 339 = .ok (.aload_n 0, 1) := by decide +kernel
theorem dL_law_340 : decode code 340 = .ok (.iload_n 3, 1) := by decide +kernel
theorem dL_law_341 : decode code 341 = .ok (.iconst 2, 1) := by decide +kernel
theorem dL_law_342 : decode code 342 = .ok (.iadd, 1) := by decide +kernel
theorem dL_law_343 : decode code 343 = .ok (.iaload, 1) := by decide +kernel
theorem dL_law_344 : decode code 344 = .ok (.aload_n 0, 1) := by decide +kernel
theorem dL_law_345 : decode code 345 = .ok (.iload_n 3, 1) := by decide +kernel
theorem dL_law_346 : decode code 346 = .ok (.iconst 3, 1) := by decide +kernel
theorem dL_law_347 : decode code 347 = .ok (.iadd, 1) := by decide +kernel
theorem dL_law_348 : decode code 348 = .ok (.iaload, 1) := by decide +kernel
theorem dL_law_349 : decode code 349 = .ok (.invokevirtual 44, 3) := by decide +kernel
theorem dL_law_352 : decode code 352 = .ok (.if_icmp .eq 637, 3) := by decide +kernel
theorem dL_law_355 : decode code 355 = .ok (.iconst 0, 1) := by decide +kernel
theorem dL_law_356 : decode code 356 = .ok (.ireturn, 1) := by decide +kernel
theorem dL_law_357 : decode code 357 = .ok (.aload_n 1, 1) := by decide +kernel
theorem dL_law_358 : decode code 358 = .ok (.aload_n 0, 1) := by decide +kernel
theorem dL_law_359 : decode code 359 = .ok (.iload_n 3, 1) := by decide +kernel
theorem dL_law_360 : decode code 360 = .ok (.iconst 1, 1) := by decide +kernel
theorem dL_law_361 : decode code 361 = .ok (.iadd, 1) := by decide +kernel
theorem dL_law_362 : decode code 362 = .ok (.iaload, 1) := by decide +kernel
theorem dL_law_363 : decode code 363 = .ok (.invokevirtual 45, 3) := by decide +kernel
theorem dL_law_366 : decode code 366 = .ok (.aload_n 2, 1) := by decide +kernel
theorem dL_law_367 : decode code 367 = .ok (.aload_n 0, 1) := by decide +kernel
theorem dL_law_368 : decode code 368 = .ok (.iload_n 3, 1) := by decide +kernel
theorem dL_law_369 : decode code 369 = .ok (.iconst 1, 1) := by decide +kernel
theorem dL_law_370 : decode code 370 = .ok (.iadd, 1) := by decide +kernel
theorem dL_law_371 : decode code 371 = .ok (.iaload, 1) := by decide +kernel
theorem dL_law_372 : decode code 372 = .ok (.invokevirtual 48, 3) := by decide +kernel
theorem dL_law_375 : decode code 375 = .ok (.if_icmp .eq 614, 3) := by decide +kernel
theorem dL_law_378 : decode code 378 = .ok (.iconst 0, 1) := by decide +kernel
theorem dL_law_379 : decode code 379 = .ok (.ireturn, 1) := by decide +kernel
theorem dL_law_380 : decode code 380 = .ok (.aload_n 1, 1) := by decide +kernel
theorem dL_law_381 : decode code 381 = .ok (.aload_n 0, 1) := by decide +kernel
theorem dL_law_382 : decode code 382 = .ok (.iload_n 3, 1) := by decide +kernel
theorem dL_law_383 : decode code 383 = .ok (.iconst 1, 1) := by decide +kernel
theorem dL_law_384 : decode code 384 = .ok (.iadd, 1) := by decide +kernel
theorem dL_law_385 : decode code 385 = .ok (.iaload, 1) := by decide +kernel
theorem dL_law_386 : decode code 386 = .ok (.aload_n 0, 1) := by decide +kernel
theorem dL_law_387 : decode code 387 = .ok (.iload_n 3, 1) := by decide +kernel
theorem dL_law_388 : decode code 388 = .ok (.iconst 2, 1) := by decide +kernel
theorem dL_law_389 : decode code 389 = .ok (.iadd, 1) := by decide +kernel
theorem dL_law_390 : decode code 390 = .ok (.iaload, 1) := by decide +kernel
theorem dL_law_391 : decode code 391 = .ok (.invokevirtual 49, 3) := by decide +kernel
theorem dL_law_394 : decode code 394 = .ok (.aload_n 2, 1) := by decide +kernel
theorem dL_law_395 : decode code 395 = .ok (.aload_n 0, 1) := by decide +kernel
theorem dL_law_396 : decode code 396 = .ok (.iload_n 3, 1) := by decide +kernel
theorem dL_law_397 : decode code 397 = .ok (.iconst 1, 1) := by decide +kernel
theorem dL_law_398 : decode code 398 = .ok (.iadd, 1) := by decide +kernel
theorem dL_law_399 : decode code 399 = .ok (.iaload, 1) := by decide +kernel
theorem dL_law_400 : decode code 400 = .ok (.aload_n 0, 1) := by decide +kernel
theorem dL_law_401 : decode code 401 = .ok (.iload_n 3, 1) := by decide +kernel
theorem dL_law_402 : decode code 402 = .ok (.iconst 2, 1) := by decide +kernel
theorem dL_law_403 : decode code 403 = .ok (.iadd, 1) := by decide +kernel
theorem dL_law_404 : decode code 404 = .ok (.iaload, 1) := by decide +kernel
theorem dL_law_405 : decode code 405 = .ok (.invokevirtual 52, 3) := by decide +kernel
theorem dL_law_408 : decode code 408 = .ok (.if_icmp .eq 581, 3) := by decide +kernel
theorem dL_law_411 : decode code 411 = .ok (.iconst 0, 1) := by decide +kernel
theorem dL_law_412 : decode code 412 = .ok (.ireturn, 1) := by decide +kernel
theorem dL_law_413 : decode code 413 = .ok (.aload_n 1, 1) := by decide +kernel
theorem dL_law_414 : decode code 414 = .ok (.aload_n 0, 1) := by decide +kernel
theorem dL_law_415 : decode code 415 = .ok (.iload_n 3, 1) := by decide +kernel
theorem dL_law_416 : decode code 416 = .ok (.iconst 1, 1) := by decide +kernel
theorem dL_law_417 : decode code 417 = .ok (.iadd, 1) := by decide +kernel
theorem dL_law_418 : decode code 418 = .ok (.iaload, 1) := by decide +kernel
theorem dL_law_419 : decode code 419 = .ok (.invokevirtual 53, 3) := by decide +kernel
theorem dL_law_422 : decode code 422 = .ok (.aload_n 2, 1) := by decide +kernel
theorem dL_law_423 : decode code 423 = .ok (.aload_n 0, 1) := by decide +kernel
theorem dL_law_424 : decode code 424 = .ok (.iload_n 3, 1) := by decide +kernel
theorem dL_law_425 : decode code 425 = .ok (.iconst 1, 1) := by decide +kernel
theorem dL_law_426 : decode code 426 = .ok (.iadd, 1) := by decide +kernel
theorem dL_law_427 : decode code 427 = .ok (.iaload, 1) := by decide +kernel
theorem dL_law_428 : decode code 428 = .ok (.invokevirtual 56, 3) := by decide +kernel
theorem dL_law_431 : decode code 431 = .ok (.if_icmp .eq 558, 3) := by decide +kernel
theorem dL_law_434 : decode code 434 = .ok (.iconst 0, 1) := by decide +kernel
theorem dL_law_435 : decode code 435 = .ok (.ireturn, 1) := by decide +kernel
theorem dL_law_436 : decode code 436 = .ok (.aload_n 1, 1) := by decide +kernel
theorem dL_law_437 : decode code 437 = .ok (.aload_n 0, 1) := by decide +kernel
theorem dL_law_438 : decode code 438 = .ok (.iload_n 3, 1) := by decide +kernel
theorem dL_law_439 : decode code 439 = .ok (.iconst 1, 1) := by decide +kernel
theorem dL_law_440 : decode code 440 = .ok (.iadd, 1) := by decide +kernel
theorem dL_law_441 : decode code 441 = .ok (.iaload, 1) := by decide +kernel
theorem dL_law_442 : decode code 442 = .ok (.invokevirtual 57, 3) := by decide +kernel
theorem dL_law_445 : decode code 445 = .ok (.aload_n 2, 1) := by decide +kernel
theorem dL_law_446 : decode code 446 = .ok (.aload_n 0, 1) := by decide +kernel
theorem dL_law_447 : decode code 447 = .ok (.iload_n 3, 1) := by decide +kernel
theorem dL_law_448 : decode code 448 = .ok (.iconst 1, 1) := by decide +kernel
theorem dL_law_449 : decode code 449 = .ok (.iadd, 1) := by decide +kernel
theorem dL_law_450 : decode code 450 = .ok (.iaload, 1) := by decide +kernel
theorem dL_law_451 : decode code 451 = .ok (.invokevirtual 60, 3) := by decide +kernel
theorem dL_law_454 : decode code 454 = .ok (.if_icmp .eq 535, 3) := by decide +kernel
theorem dL_law_457 : decode code 457 = .ok (.iconst 0, 1) := by decide +kernel
theorem dL_law_458 : decode code 458 = .ok (.ireturn, 1) := by decide +kernel
theorem dL_law_459 : decode code 459 = .ok (.aload_n 1, 1) := by decide +kernel
theorem dL_law_460 : decode code 460 = .ok (.aload_n 0, 1) := by decide +kernel
theorem dL_law_461 : decode code 461 = .ok (.iload_n 3, 1) := by decide +kernel
theorem dL_law_462 : decode code 462 = .ok (.iconst 1, 1) := by decide +kernel
theorem dL_law_463 : decode code 463 = .ok (.iadd, 1) := by decide +kernel
theorem dL_law_464 : decode code 464 = .ok (.iaload, 1) := by decide +kernel
theorem dL_law_465 : decode code 465 = .ok (.invokevirtual 61, 3) := by decide +kernel
theorem dL_law_468 : decode code 468 = .ok (.aload_n 2, 1) := by decide +kernel
theorem dL_law_469 : decode code 469 = .ok (.aload_n 0, 1) := by decide +kernel
theorem dL_law_470 : decode code 470 = .ok (.iload_n 3, 1) := by decide +kernel
theorem dL_law_471 : decode code 471 = .ok (.iconst 1, 1) := by decide +kernel
theorem dL_law_472 : decode code 472 = .ok (.iadd, 1) := by decide +kernel
theorem dL_law_473 : decode code 473 = .ok (.iaload, 1) := by decide +kernel
theorem dL_law_474 : decode code 474 = .ok (.invokevirtual 64, 3) := by decide +kernel
theorem dL_law_477 : decode code 477 = .ok (.if_icmp .eq 512, 3) := by decide +kernel
theorem dL_law_480 : decode code 480 = .ok (.iconst 0, 1) := by decide +kernel
theorem dL_law_481 : decode code 481 = .ok (.ireturn, 1) := by decide +kernel
theorem dL_law_482 : decode code 482 = .ok (.aload_n 1, 1) := by decide +kernel
theorem dL_law_483 : decode code 483 = .ok (.invokevirtual 65, 3) := by decide +kernel
theorem dL_law_486 : decode code 486 = .ok (.aload_n 2, 1) := by decide +kernel
theorem dL_law_487 : decode code 487 = .ok (.invokevirtual 68, 3) := by decide +kernel
theorem dL_law_490 : decode code 490 = .ok (.if_icmp .eq 499, 3) := by decide +kernel
theorem dL_law_493 : decode code 493 = .ok (.iconst 0, 1) := by decide +kernel
theorem dL_law_494 : decode code 494 = .ok (.ireturn, 1) := by decide +kernel
theorem dL_law_495 : decode code 495 = .ok (.aload_n 1, 1) := by decide +kernel
theorem dL_law_496 : decode code 496 = .ok (.aload_n 0, 1) := by decide +kernel
theorem dL_law_497 : decode code 497 = .ok (.iload_n 3, 1) := by decide +kernel
theorem dL_law_498 : decode code 498 = .ok (.iconst 1, 1) := by decide +kernel
theorem dL_law_499 : decode code 499 = .ok (.iadd, 1) := by decide +kernel
theorem dL_law_500 : decode code 500 = .ok (.iaload, 1) := by decide +kernel
theorem dL_law_501 : decode code 501 = .ok (.invokevirtual 69, 3) := by decide +kernel
theorem dL_law_504 : decode code 504 = .ok (.aload_n 2, 1) := by decide +kernel
theorem dL_law_505 : decode code 505 = .ok (.aload_n 0, 1) := by decide +kernel
theorem dL_law_506 : decode code 506 = .ok (.iload_n 3, 1) := by decide +kernel
theorem dL_law_507 : decode code 507 = .ok (.iconst 1, 1) := by decide +kernel
theorem dL_law_508 : decode code 508 = .ok (.iadd, 1) := by decide +kernel
theorem dL_law_509 : decode code 509 = .ok (.iaload, 1) := by decide +kernel
theorem dL_law_510 : decode code 510 = .ok (.invokevirtual 72, 3) := by decide +kernel
theorem dL_law_513 : decode code 513 = .ok (.if_icmp .eq 476, 3) := by decide +kernel
theorem dL_law_516 : decode code 516 = .ok (.iconst 0, 1) := by decide +kernel
theorem dL_law_517 : decode code 517 = .ok (.ireturn, 1) := by decide +kernel
theorem dL_law_518 : decode code 518 = .ok (.aload_n 1, 1) := by decide +kernel
theorem dL_law_519 : decode code 519 = .ok (.aload_n 0, 1) := by decide +kernel
theorem dL_law_520 : decode code 520 = .ok (.iload_n 3, 1) := by decide +kernel
theorem dL_law_521 : decode code 521 = .ok (.iconst 1, 1) := by decide +kernel
theorem dL_law_522 : decode code 522 = .ok (.iadd, 1) := by decide +kernel
theorem dL_law_523 : decode code 523 = .ok (.iaload, 1) := by decide +kernel
theorem dL_law_524 : decode code 524 = .ok (.invokevirtual 73, 3) := by decide +kernel
theorem dL_law_527 : decode code 527 = .ok (.aload_n 2, 1) := by decide +kernel
theorem dL_law_528 : decode code 528 = .ok (.aload_n 0, 1) := by decide +kernel
theorem dL_law_529 : decode code 529 = .ok (.iload_n 3, 1) := by decide +kernel
theorem dL_law_530 : decode code 530 = .ok (.iconst 1, 1) := by decide +kernel
theorem dL_law_531 : decode code 531 = .ok (.iadd, 1) := by decide +kernel
theorem dL_law_532 : decode code 532 = .ok (.iaload, 1) := by decide +kernel
theorem dL_law_533 : decode code 533 = .ok (.invokevirtual 76, 3) := by decide +kernel
theorem dL_law_536 : decode code 536 = .ok (.if_icmp .eq 453, 3) := by decide +kernel
theorem dL_law_539 : decode code 539 = .ok (.iconst 0, 1) := by decide +kernel
theorem dL_law_540 : decode code 540 = .ok (.ireturn, 1) := by decide +kernel
theorem dL_law_541 : decode code 541 = .ok (.aload_n 1, 1) := by decide +kernel
theorem dL_law_542 : decode code 542 = .ok (.aload_n 0, 1) := by decide +kernel
theorem dL_law_543 : decode code 543 = .ok (.iload_n 3, 1) := by decide +kernel
theorem dL_law_544 : decode code 544 = .ok (.iconst 1, 1) := by decide +kernel
theorem dL_law_545 : decode code 545 = .ok (.iadd, 1) := by decide +kernel
theorem dL_law_546 : decode code 546 = .ok (.iaload, 1) := by decide +kernel
theorem dL_law_547 : decode code 547 = .ok (.invokevirtual 77, 3) := by decide +kernel
theorem dL_law_550 : decode code 550 = .ok (.aload_n 2, 1) := by decide +kernel
theorem dL_law_551 : decode code 551 = .ok (.aload_n 0, 1) := by decide +kernel
theorem dL_law_552 : decode code 552 = .ok (.iload_n 3, 1) := by decide +kernel
theorem dL_law_553 : decode code 553 = .ok (.iconst 1, 1) := by decide +kernel
theorem dL_law_554 : decode code 554 = .ok (.iadd, 1) := by decide +kernel
theorem dL_law_555 : decode code 555 = .ok (.iaload, 1) := by decide +kernel
theorem dL_law_556 : decode code 556 = .ok (.invokevirtual 80, 3) := by decide +kernel
theorem dL_law_559 : decode code 559 = .ok (.if_icmp .eq 430, 3) := by decide +kernel
theorem dL_law_562 : decode code 562 = .ok (.iconst 0, 1) := by decide +kernel
theorem dL_law_563 : decode code 563 = .ok (.ireturn, 1) := by decide +kernel
theorem dL_law_564 : decode code 564 = .ok (.aload_n 1, 1) := by decide +kernel
theorem dL_law_565 : decode code 565 = .ok (.aload_n 0, 1) := by decide +kernel
theorem dL_law_566 : decode code 566 = .ok (.iload_n 3, 1) := by decide +kernel
theorem dL_law_567 : decode code 567 = .ok (.iconst 1, 1) := by decide +kernel
theorem dL_law_568 : decode code 568 = .ok (.iadd, 1) := by decide +kernel
theorem dL_law_569 : decode code 569 = .ok (.iaload, 1) := by decide +kernel
theorem dL_law_570 : decode code 570 = .ok (.invokevirtual 81, 3) := by decide +kernel
theorem dL_law_573 : decode code 573 = .ok (.aload_n 2, 1) := by decide +kernel
theorem dL_law_574 : decode code 574 = .ok (.aload_n 0, 1) := by decide +kernel
theorem dL_law_575 : decode code 575 = .ok (.iload_n 3, 1) := by decide +kernel
theorem dL_law_576 : decode code 576 = .ok (.iconst 1, 1) := by decide +kernel
theorem dL_law_577 : decode code 577 = .ok (.iadd, 1) := by decide +kernel
theorem dL_law_578 : decode code 578 = .ok (.iaload, 1) := by decide +kernel
theorem dL_law_579 : decode code 579 = .ok (.invokevirtual 85, 3) := by decide +kernel
theorem dL_law_582 : decode code 582 = .ok (.lcmp, 1) := by decide +kernel
theorem dL_law_583 : decode code 583 = .ok (.ifCond .eq 406, 3) := by decide +kernel
theorem dL_law_586 : decode code 586 = .ok (.iconst 0, 1) := by decide +kernel
theorem dL_law_587 : decode code 587 = .ok (.ireturn, 1) := by decide +kernel
theorem dL_law_588 : decode code 588 = .ok (.aload_n 1, 1) := by decide +kernel
theorem dL_law_589 : decode code 589 = .ok (.aload_n 0, 1) := by decide +kernel
theorem dL_law_590 : decode code 590 = .ok (.iload_n 3, 1) := by decide +kernel
theorem dL_law_591 : decode code 591 = .ok (.iconst 1, 1) := by decide +kernel
theorem dL_law_592 : decode code 592 = .ok (.iadd, 1) := by decide +kernel
theorem dL_law_593 : decode code 593 = .ok (.iaload, 1) := by decide +kernel
theorem dL_law_594 : decode code 594 = .ok (.aload_n 0, 1) := by decide +kernel
theorem dL_law_595 : decode code 595 = .ok (.iload_n 3, 1) := by decide +kernel
theorem dL_law_596 : decode code 596 = .ok (.iconst 2, 1) := by decide +kernel
theorem dL_law_597 : decode code 597 = .ok (.iadd, 1) := by decide +kernel
theorem dL_law_598 : decode code 598 = .ok (.iaload, 1) := by decide +kernel
theorem dL_law_599 : decode code 599 = .ok (.invokevirtual 86, 3) := by decide +kernel
theorem dL_law_602 : decode code 602 = .ok (.aload_n 2, 1) := by decide +kernel
theorem dL_law_603 : decode code 603 = .ok (.aload_n 0, 1) := by decide +kernel
theorem dL_law_604 : decode code 604 = .ok (.iload_n 3, 1) := by decide +kernel
theorem dL_law_605 : decode code 605 = .ok (.iconst 1, 1) := by decide +kernel
theorem dL_law_606 : decode code 606 = .ok (.iadd, 1) := by decide +kernel
theorem dL_law_607 : decode code 607 = .ok (.iaload, 1) := by decide +kernel
theorem dL_law_608 : decode code 608 = .ok (.aload_n 0, 1) := by decide +kernel
theorem dL_law_609 : decode code 609 = .ok (.iload_n 3, 1) := by decide +kernel
theorem dL_law_610 : decode code 610 = .ok (.iconst 2, 1) := by decide +kernel
theorem dL_law_611 : decode code 611 = .ok (.iadd, 1) := by decide +kernel
theorem dL_law_612 : decode code 612 = .ok (.iaload, 1) := by decide +kernel
theorem dL_law_613 : decode code 613 = .ok (.invokevirtual 89, 3) := by decide +kernel
theorem dL_law_616 : decode code 616 = .ok (.if_icmp .eq 373, 3) := by decide +kernel
theorem dL_law_619 : decode code 619 = .ok (.iconst 0, 1) := by decide +kernel
theorem dL_law_620 : decode code 620 = .ok (.ireturn, 1) := by decide +kernel
theorem dL_law_621 : decode code 621 = .ok (.aload_n 1, 1) := by decide +kernel
theorem dL_law_622 : decode code 622 = .ok (.aload_n 0, 1) := by decide +kernel
theorem dL_law_623 : decode code 623 = .ok (.iload_n 3, 1) := by decide +kernel
theorem dL_law_624 : decode code 624 = .ok (.iconst 1, 1) := by decide +kernel
theorem dL_law_625 : decode code 625 = .ok (.iadd, 1) := by decide +kernel
theorem dL_law_626 : decode code 626 = .ok (.iaload, 1) := by decide +kernel
theorem dL_law_627 : decode code 627 = .ok (.aload_n 0, 1) := by decide +kernel
theorem dL_law_628 : decode code 628 = .ok (.iload_n 3, 1) := by decide +kernel
theorem dL_law_629 : decode code 629 = .ok (.iconst 2, 1) := by decide +kernel
theorem dL_law_630 : decode code 630 = .ok (.iadd, 1) := by decide +kernel
theorem dL_law_631 : decode code 631 = .ok (.iaload, 1) := by decide +kernel
theorem dL_law_632 : decode code 632 = .ok (.invokevirtual 90, 3) := by decide +kernel
theorem dL_law_635 : decode code 635 = .ok (.aload_n 2, 1) := by decide +kernel
theorem dL_law_636 : decode code 636 = .ok (.aload_n 0, 1) := by decide +kernel
theorem dL_law_637 : decode code 637 = .ok (.iload_n 3, 1) := by decide +kernel
theorem dL_law_638 : decode code 638 = .ok (.iconst 1, 1) := by decide +kernel
theorem dL_law_639 : decode code 639 = .ok (.iadd, 1) := by decide +kernel
theorem dL_law_640 : decode code 640 = .ok (.iaload, 1) := by decide +kernel
theorem dL_law_641 : decode code 641 = .ok (.aload_n 0, 1) := by decide +kernel
theorem dL_law_642 : decode code 642 = .ok (.iload_n 3, 1) := by decide +kernel
theorem dL_law_643 : decode code 643 = .ok (.iconst 2, 1) := by decide +kernel
theorem dL_law_644 : decode code 644 = .ok (.iadd, 1) := by decide +kernel
theorem dL_law_645 : decode code 645 = .ok (.iaload, 1) := by decide +kernel
theorem dL_law_646 : decode code 646 = .ok (.invokevirtual 94, 3) := by decide +kernel
theorem dL_law_649 : decode code 649 = .ok (.lcmp, 1) := by decide +kernel
theorem dL_law_650 : decode code 650 = .ok (.ifCond .eq 339, 3) := by decide +kernel
theorem dL_law_653 : decode code 653 = .ok (.iconst 0, 1) := by decide +kernel
theorem dL_law_654 : decode code 654 = .ok (.ireturn, 1) := by decide +kernel
theorem dL_law_655 : decode code 655 = .ok (.aload_n 1, 1) := by decide +kernel
theorem dL_law_656 : decode code 656 = .ok (.invokevirtual 95, 3) := by decide +kernel
theorem dL_law_659 : decode code 659 = .ok (.aload_n 2, 1) := by decide +kernel
theorem dL_law_660 : decode code 660 = .ok (.invokevirtual 98, 3) := by decide +kernel
theorem dL_law_663 : decode code 663 = .ok (.if_icmp .eq 326, 3) := by decide +kernel
theorem dL_law_666 : decode code 666 = .ok (.iconst 0, 1) := by decide +kernel
theorem dL_law_667 : decode code 667 = .ok (.ireturn, 1) := by decide +kernel
theorem dL_law_668 : decode code 668 = .ok (.aload_n 1, 1) := by decide +kernel
theorem dL_law_669 : decode code 669 = .ok (.invokevirtual 99, 3) := by decide +kernel
theorem dL_law_672 : decode code 672 = .ok (.aload_n 2, 1) := by decide +kernel
theorem dL_law_673 : decode code 673 = .ok (.invokevirtual 102, 3) := by decide +kernel
theorem dL_law_676 : decode code 676 = .ok (.if_icmp .eq 313, 3) := by decide +kernel
theorem dL_law_679 : decode code 679 = .ok (.iconst 0, 1) := by decide +kernel
theorem dL_law_680 : decode code 680 = .ok (.ireturn, 1) := by decide +kernel
theorem dL_law_681 : decode code 681 = .ok (.aload_n 1, 1) := by decide +kernel
theorem dL_law_682 : decode code 682 = .ok (.aload_n 0, 1) := by decide +kernel
theorem dL_law_683 : decode code 683 = .ok (.iload_n 3, 1) := by decide +kernel
theorem dL_law_684 : decode code 684 = .ok (.iconst 1, 1) := by decide +kernel
theorem dL_law_685 : decode code 685 = .ok (.iadd, 1) := by decide +kernel
theorem dL_law_686 : decode code 686 = .ok (.iaload, 1) := by decide +kernel
theorem dL_law_687 : decode code 687 = .ok (.aload_n 0, 1) := by decide +kernel
theorem dL_law_688 : decode code 688 = .ok (.iload_n 3, 1) := by decide +kernel
theorem dL_law_689 : decode code 689 = .ok (.iconst 2, 1) := by decide +kernel
theorem dL_law_690 : decode code 690 = .ok (.iadd, 1) := by decide +kernel
theorem dL_law_691 : decode code 691 = .ok (.iaload, 1) := by decide +kernel
theorem dL_law_692 : decode code 692 = .ok (.aload_n 0, 1) := by decide +kernel
theorem dL_law_693 : decode code 693 = .ok (.iload_n 3, 1) := by decide +kernel
theorem dL_law_694 : decode code 694 = .ok (.iconst 3, 1) := by decide +kernel
theorem dL_law_695 : decode code 695 = .ok (.iadd, 1) := by decide +kernel
theorem dL_law_696 : decode code 696 = .ok (.iaload, 1) := by decide +kernel
theorem dL_law_697 : decode code 697 = .ok (.aload_n 0, 1) := by decide +kernel
theorem dL_law_698 : decode code 698 = .ok (.iload_n 3, 1) := by decide +kernel
theorem dL_law_699 : decode code 699 = .ok (.iconst 4, 1) := by decide +kernel
theorem dL_law_700 : decode code 700 = .ok (.iadd, 1) := by decide +kernel
theorem dL_law_701 : decode code 701 = .ok (.iaload, 1) := by decide +kernel
theorem dL_law_702 : decode code 702 = .ok (.invokevirtual 103, 3) := by decide +kernel
theorem dL_law_705 : decode code 705 = .ok (.aload_n 2, 1) := by decide +kernel
theorem dL_law_706 : decode code 706 = .ok (.aload_n 0, 1) := by decide +kernel
theorem dL_law_707 : decode code 707 = .ok (.iload_n 3, 1) := by decide +kernel
theorem dL_law_708 : decode code 708 = .ok (.iconst 1, 1) := by decide +kernel
theorem dL_law_709 : decode code 709 = .ok (.iadd, 1) := by decide +kernel
theorem dL_law_710 : decode code 710 = .ok (.iaload, 1) := by decide +kernel
theorem dL_law_711 : decode code 711 = .ok (.aload_n 0, 1) := by decide +kernel
theorem dL_law_712 : decode code 712 = .ok (.iload_n 3, 1) := by decide +kernel
theorem dL_law_713 : decode code 713 = .ok (.iconst 2, 1) := by decide +kernel
theorem dL_law_714 : decode code 714 = .ok (.iadd, 1) := by decide +kernel
theorem dL_law_715 : decode code 715 = .ok (.iaload, 1) := by decide +kernel
theorem dL_law_716 : decode code 716 = .ok (.aload_n 0, 1) := by decide +kernel
theorem dL_law_717 : decode code 717 = .ok (.iload_n 3, 1) := by decide +kernel
theorem dL_law_718 : decode code 718 = .ok (.iconst 3, 1) := by decide +kernel
theorem dL_law_719 : decode code 719 = .ok (.iadd, 1) := by decide +kernel
theorem dL_law_720 : decode code 720 = .ok (.iaload, 1) := by decide +kernel
theorem dL_law_721 : decode code 721 = .ok (.aload_n 0, 1) := by decide +kernel
theorem dL_law_722 : decode code 722 = .ok (.iload_n 3, 1) := by decide +kernel
theorem dL_law_723 : decode code 723 = .ok (.iconst 4, 1) := by decide +kernel
theorem dL_law_724 : decode code 724 = .ok (.iadd, 1) := by decide +kernel
theorem dL_law_725 : decode code 725 = .ok (.iaload, 1) := by decide +kernel
theorem dL_law_726 : decode code 726 = .ok (.invokevirtual 107, 3) := by decide +kernel
theorem dL_law_729 : decode code 729 = .ok (.if_icmp .eq 260, 3) := by decide +kernel
theorem dL_law_732 : decode code 732 = .ok (.iconst 0, 1) := by decide +kernel
theorem dL_law_733 : decode code 733 = .ok (.ireturn, 1) := by decide +kernel
theorem dL_law_734 : decode code 734 = .ok (.aload_n 1, 1) := by decide +kernel
theorem dL_law_735 : decode code 735 = .ok (.aload_n 0, 1) := by decide +kernel
theorem dL_law_736 : decode code 736 = .ok (.iload_n 3, 1) := by decide +kernel
theorem dL_law_737 : decode code 737 = .ok (.iconst 1, 1) := by decide +kernel
theorem dL_law_738 : decode code 738 = .ok (.iadd, 1) := by decide +kernel
theorem dL_law_739 : decode code 739 = .ok (.iaload, 1) := by decide +kernel
theorem dL_law_740 : decode code 740 = .ok (.aload_n 0, 1) := by decide +kernel
theorem dL_law_741 : decode code 741 = .ok (.iload_n 3, 1) := by decide +kernel
theorem dL_law_742 : decode code 742 = .ok (.iconst 2, 1) := by decide +kernel
theorem dL_law_743 : decode code 743 = .ok (.iadd, 1) := by decide +kernel
theorem dL_law_744 : decode code 744 = .ok (.iaload, 1) := by decide +kernel
theorem dL_law_745 : decode code 745 = .ok (.aload_n 0, 1) := by decide +kernel
theorem dL_law_746 : decode code 746 = .ok (.iload_n 3, 1) := by decide +kernel
theorem dL_law_747 : decode code 747 = .ok (.iconst 3, 1) := by decide +kernel
theorem dL_law_748 : decode code 748 = .ok (.iadd, 1) := by decide +kernel
theorem dL_law_749 : decode code 749 = .ok (.iaload, 1) := by decide +kernel
theorem dL_law_750 : decode code 750 = .ok (.invokevirtual 108, 3) := by decide +kernel
theorem dL_law_753 : decode code 753 = .ok (.aload_n 2, 1) := by decide +kernel
theorem dL_law_754 : decode code 754 = .ok (.aload_n 0, 1) := by decide +kernel
theorem dL_law_755 : decode code 755 = .ok (.iload_n 3, 1) := by decide +kernel
theorem dL_law_756 : decode code 756 = .ok (.iconst 1, 1) := by decide +kernel
theorem dL_law_757 : decode code 757 = .ok (.iadd, 1) := by decide +kernel
theorem dL_law_758 : decode code 758 = .ok (.iaload, 1) := by decide +kernel
theorem dL_law_759 : decode code 759 = .ok (.aload_n 0, 1) := by decide +kernel
theorem dL_law_760 : decode code 760 = .ok (.iload_n 3, 1) := by decide +kernel
theorem dL_law_761 : decode code 761 = .ok (.iconst 2, 1) := by decide +kernel
theorem dL_law_762 : decode code 762 = .ok (.iadd, 1) := by decide +kernel
theorem dL_law_763 : decode code 763 = .ok (.iaload, 1) := by decide +kernel
theorem dL_law_764 : decode code 764 = .ok (.aload_n 0, 1) := by decide +kernel
theorem dL_law_765 : decode code 765 = .ok (.iload_n 3, 1) := by decide +kernel
theorem dL_law_766 : decode code 766 = .ok (.iconst 3, 1) := by decide +kernel
theorem dL_law_767 : decode code 767 = .ok (.iadd, 1) := by decide +kernel
theorem dL_law_768 : decode code 768 = .ok (.iaload, 1) := by decide +kernel
theorem dL_law_769 : decode code 769 = .ok (.invokevirtual 111, 3) := by decide +kernel
theorem dL_law_772 : decode code 772 = .ok (.if_icmp .eq 217, 3) := by decide +kernel
theorem dL_law_775 : decode code 775 = .ok (.iconst 0, 1) := by decide +kernel
theorem dL_law_776 : decode code 776 = .ok (.ireturn, 1) := by decide +kernel
theorem dL_law_777 : decode code 777 = .ok (.aload_n 1, 1) := by decide +kernel
theorem dL_law_778 : decode code 778 = .ok (.aload_n 0, 1) := by decide +kernel
theorem dL_law_779 : decode code 779 = .ok (.iload_n 3, 1) := by decide +kernel
theorem dL_law_780 : decode code 780 = .ok (.iconst 1, 1) := by decide +kernel
theorem dL_law_781 : decode code 781 = .ok (.iadd, 1) := by decide +kernel
theorem dL_law_782 : decode code 782 = .ok (.iaload, 1) := by decide +kernel
theorem dL_law_783 : decode code 783 = .ok (.aload_n 0, 1) := by decide +kernel
theorem dL_law_784 : decode code 784 = .ok (.iload_n 3, 1) := by decide +kernel
theorem dL_law_785 : decode code 785 = .ok (.iconst 2, 1) := by decide +kernel
theorem dL_law_786 : decode code 786 = .ok (.iadd, 1) := by decide +kernel
theorem dL_law_787 : decode code 787 = .ok (.iaload, 1) := by decide +kernel
theorem dL_law_788 : decode code 788 = .ok (.aload_n 0, 1) := by decide +kernel
theorem dL_law_789 : decode code 789 = .ok (.iload_n 3, 1) := by decide +kernel
theorem dL_law_790 : decode code 790 = .ok (.iconst 3, 1) := by decide +kernel
theorem dL_law_791 : decode code 791 = .ok (.iadd, 1) := by decide +kernel
theorem dL_law_792 : decode code 792 = .ok (.iaload, 1) := by decide +kernel
theorem dL_law_793 : decode code 793 = .ok (.invokevirtual 112, 3) := by decide +kernel
theorem dL_law_796 : decode code 796 = .ok (.aload_n 2, 1) := by decide +kernel
theorem dL_law_797 : decode code 797 = .ok (.aload_n 0, 1) := by decide +kernel
theorem dL_law_798 : decode code 798 = .ok (.iload_n 3, 1) := by decide +kernel
theorem dL_law_799 : decode code 799 = .ok (.iconst 1, 1) := by decide +kernel
theorem dL_law_800 : decode code 800 = .ok (.iadd, 1) := by decide +kernel
theorem dL_law_801 : decode code 801 = .ok (.iaload, 1) := by decide +kernel
theorem dL_law_802 : decode code 802 = .ok (.aload_n 0, 1) := by decide +kernel
theorem dL_law_803 : decode code 803 = .ok (.iload_n 3, 1) := by decide +kernel
theorem dL_law_804 : decode code 804 = .ok (.iconst 2, 1) := by decide +kernel
theorem dL_law_805 : decode code 805 = .ok (.iadd, 1) := by decide +kernel
theorem dL_law_806 : decode code 806 = .ok (.iaload, 1) := by decide +kernel
theorem dL_law_807 : decode code 807 = .ok (.aload_n 0, 1) := by decide +kernel
theorem dL_law_808 : decode code 808 = .ok (.iload_n 3, 1) := by decide +kernel
theorem dL_law_809 : decode code 809 = .ok (.iconst 3, 1) := by decide +kernel
theorem dL_law_810 : decode code 810 = .ok (.iadd, 1) := by decide +kernel
theorem dL_law_811 : decode code 811 = .ok (.iaload, 1) := by decide +kernel
theorem dL_law_812 : decode code 812 = .ok (.invokevirtual 115, 3) := by decide +kernel
theorem dL_law_815 : decode code 815 = .ok (.if_icmp .eq 174, 3) := by decide +kernel
theorem dL_law_818 : decode code 818 = .ok (.iconst 0, 1) := by decide +kernel
theorem dL_law_819 : decode code 819 = .ok (.ireturn, 1) := by decide +kernel
theorem dL_law_820 : decode code 820 = .ok (.aload_n 1, 1) := by decide +kernel
theorem dL_law_821 : decode code 821 = .ok (.aload_n 0, 1) := by decide +kernel
theorem dL_law_822 : decode code 822 = .ok (.iload_n 3, 1) := by decide +kernel
theorem dL_law_823 : decode code 823 = .ok (.iconst 1, 1) := by decide +kernel
theorem dL_law_824 : decode code 824 = .ok (.iadd, 1) := by decide +kernel
theorem dL_law_825 : decode code 825 = .ok (.iaload, 1) := by decide +kernel
theorem dL_law_826 : decode code 826 = .ok (.invokevirtual 116, 3) := by decide +kernel
theorem dL_law_829 : decode code 829 = .ok (.aload_n 2, 1) := by decide +kernel
theorem dL_law_830 : decode code 830 = .ok (.aload_n 0, 1) := by decide +kernel
theorem dL_law_831 : decode code 831 = .ok (.iload_n 3, 1) := by decide +kernel
theorem dL_law_832 : decode code 832 = .ok (.iconst 1, 1) := by decide +kernel
theorem dL_law_833 : decode code 833 = .ok (.iadd, 1) := by decide +kernel
theorem dL_law_834 : decode code 834 = .ok (.iaload, 1) := by decide +kernel
theorem dL_law_835 : decode code 835 = .ok (.invokevirtual 119, 3) := by decide +kernel
theorem dL_law_838 : decode code 838 = .ok (.if_icmp .eq 151, 3) := by decide +kernel
theorem dL_law_841 : decode code 841 = .ok (.iconst 0, 1) := by decide +kernel
theorem dL_law_842 : decode code 842 = .ok (.ireturn, 1) := by decide +kernel
theorem dL_law_843 : decode code 843 = .ok (.aload_n 1, 1) := by decide +kernel
theorem dL_law_844 : decode code 844 = .ok (.aload_n 0, 1) := by decide +kernel
theorem dL_law_845 : decode code 845 = .ok (.iload_n 3, 1) := by decide +kernel
theorem dL_law_846 : decode code 846 = .ok (.iconst 1, 1) := by decide +kernel
theorem dL_law_847 : decode code 847 = .ok (.iadd, 1) := by decide +kernel
theorem dL_law_848 : decode code 848 = .ok (.iaload, 1) := by decide +kernel
theorem dL_law_849 : decode code 849 = .ok (.aload_n 0, 1) := by decide +kernel
theorem dL_law_850 : decode code 850 = .ok (.iload_n 3, 1) := by decide +kernel
theorem dL_law_851 : decode code 851 = .ok (.iconst 2, 1) := by decide +kernel
theorem dL_law_852 : decode code 852 = .ok (.iadd, 1) := by decide +kernel
theorem dL_law_853 : decode code 853 = .ok (.iaload, 1) := by decide +kernel
theorem dL_law_854 : decode code 854 = .ok (.aload_n 0, 1) := by decide +kernel
theorem dL_law_855 : decode code 855 = .ok (.iload_n 3, 1) := by decide +kernel
theorem dL_law_856 : decode code 856 = .ok (.iconst 3, 1) := by decide +kernel
theorem dL_law_857 : decode code 857 = .ok (.iadd, 1) := by decide +kernel
theorem dL_law_858 : decode code 858 = .ok (.iaload, 1) := by decide +kernel
theorem dL_law_859 : decode code 859 = .ok (.aload_n 0, 1) := by decide +kernel
theorem dL_law_860 : decode code 860 = .ok (.iload_n 3, 1) := by decide +kernel
theorem dL_law_861 : decode code 861 = .ok (.iconst 4, 1) := by decide +kernel
theorem dL_law_862 : decode code 862 = .ok (.iadd, 1) := by decide +kernel
theorem dL_law_863 : decode code 863 = .ok (.iaload, 1) := by decide +kernel
theorem dL_law_864 : decode code 864 = .ok (.i2l, 1) := by decide +kernel
theorem dL_law_865 : decode code 865 = .ok (.bipush 32, 2) := by decide +kernel
theorem dL_law_867 : decode code 867 = .ok (.lshl, 1) := by decide +kernel
theorem dL_law_868 : decode code 868 = .ok (.aload_n 0, 1) := by decide +kernel
theorem dL_law_869 : decode code 869 = .ok (.iload_n 3, 1) := by decide +kernel
theorem dL_law_870 : decode code 870 = .ok (.iconst 5, 1) := by decide +kernel
theorem dL_law_871 : decode code 871 = .ok (.iadd, 1) := by decide +kernel
theorem dL_law_872 : decode code 872 = .ok (.iaload, 1) := by decide +kernel
theorem dL_law_873 : decode code 873 = .ok (.i2l, 1) := by decide +kernel
theorem dL_law_874 : decode code 874 = .ok (.ldc2_w 120, 3) := by decide +kernel
theorem dL_law_877 : decode code 877 = .ok (.land, 1) := by decide +kernel
theorem dL_law_878 : decode code 878 = .ok (.lor, 1) := by decide +kernel
theorem dL_law_879 : decode code 879 = .ok (.invokevirtual 122, 3) := by decide +kernel
theorem dL_law_882 : decode code 882 = .ok (.aload_n 2, 1) := by decide +kernel
theorem dL_law_883 : decode code 883 = .ok (.aload_n 0, 1) := by decide +kernel
theorem dL_law_884 : decode code 884 = .ok (.iload_n 3, 1) := by decide +kernel
theorem dL_law_885 : decode code 885 = .ok (.iconst 1, 1) := by decide +kernel
theorem dL_law_886 : decode code 886 = .ok (.iadd, 1) := by decide +kernel
theorem dL_law_887 : decode code 887 = .ok (.iaload, 1) := by decide +kernel
theorem dL_law_888 : decode code 888 = .ok (.aload_n 0, 1) := by decide +kernel
theorem dL_law_889 : decode code 889 = .ok (.iload_n 3, 1) := by decide +kernel
theorem dL_law_890 : decode code 890 = .ok (.iconst 2, 1) := by decide +kernel
theorem dL_law_891 : decode code 891 = .ok (.iadd, 1) := by decide +kernel
theorem dL_law_892 : decode code 892 = .ok (.iaload, 1) := by decide +kernel
theorem dL_law_893 : decode code 893 = .ok (.aload_n 0, 1) := by decide +kernel
theorem dL_law_894 : decode code 894 = .ok (.iload_n 3, 1) := by decide +kernel
theorem dL_law_895 : decode code 895 = .ok (.iconst 3, 1) := by decide +kernel
theorem dL_law_896 : decode code 896 = .ok (.iadd, 1) := by decide +kernel
theorem dL_law_897 : decode code 897 = .ok (.iaload, 1) := by decide +kernel
theorem dL_law_898 : decode code 898 = .ok (.aload_n 0, 1) := by decide +kernel
theorem dL_law_899 : decode code 899 = .ok (.iload_n 3, 1) := by decide +kernel
theorem dL_law_900 : decode code 900 = .ok (.iconst 4, 1) := by decide +kernel
theorem dL_law_901 : decode code 901 = .ok (.iadd, 1) := by decide +kernel
theorem dL_law_902 : decode code 902 = .ok (.iaload, 1) := by decide +kernel
theorem dL_law_903 : decode code 903 = .ok (.i2l, 1) := by decide +kernel
theorem dL_law_904 : decode code 904 = .ok (.bipush 32, 2) := by decide +kernel
theorem dL_law_906 : decode code 906 = .ok (.lshl, 1) := by decide +kernel
theorem dL_law_907 : decode code 907 = .ok (.aload_n 0, 1) := by decide +kernel
theorem dL_law_908 : decode code 908 = .ok (.iload_n 3, 1) := by decide +kernel
theorem dL_law_909 : decode code 909 = .ok (.iconst 5, 1) := by decide +kernel
theorem dL_law_910 : decode code 910 = .ok (.iadd, 1) := by decide +kernel
theorem dL_law_911 : decode code 911 = .ok (.iaload, 1) := by decide +kernel
theorem dL_law_912 : decode code 912 = .ok (.i2l, 1) := by decide +kernel
theorem dL_law_913 : decode code 913 = .ok (.ldc2_w 120, 3) := by decide +kernel
theorem dL_law_916 : decode code 916 = .ok (.land, 1) := by decide +kernel
theorem dL_law_917 : decode code 917 = .ok (.lor, 1) := by decide +kernel
theorem dL_law_918 : decode code 918 = .ok (.invokevirtual 126, 3) := by decide +kernel
theorem dL_law_921 : decode code 921 = .ok (.if_icmp .eq 68, 3) := by decide +kernel
theorem dL_law_924 : decode code 924 = .ok (.iconst 0, 1) := by decide +kernel
theorem dL_law_925 : decode code 925 = .ok (.ireturn, 1) := by decide +kernel
theorem dL_law_926 : decode code 926 = .ok (.aload_n 1, 1) := by decide +kernel
theorem dL_law_927 : decode code 927 = .ok (.aload_n 0, 1) := by decide +kernel
theorem dL_law_928 : decode code 928 = .ok (.iload_n 3, 1) := by decide +kernel
theorem dL_law_929 : decode code 929 = .ok (.iconst 1, 1) := by decide +kernel
theorem dL_law_930 : decode code 930 = .ok (.iadd, 1) := by decide +kernel
theorem dL_law_931 : decode code 931 = .ok (.iaload, 1) := by decide +kernel
theorem dL_law_932 : decode code 932 = .ok (.aload_n 0, 1) := by decide +kernel
theorem dL_law_933 : decode code 933 = .ok (.iload_n 3, 1) := by decide +kernel
theorem dL_law_934 : decode code 934 = .ok (.iconst 2, 1) := by decide +kernel
theorem dL_law_935 : decode code 935 = .ok (.iadd, 1) := by decide +kernel
theorem dL_law_936 : decode code 936 = .ok (.iaload, 1) := by decide +kernel
theorem dL_law_937 : decode code 937 = .ok (.aload_n 0, 1) := by decide +kernel
theorem dL_law_938 : decode code 938 = .ok (.iload_n 3, 1) := by decide +kernel
theorem dL_law_939 : decode code 939 = .ok (.iconst 3, 1) := by decide +kernel
theorem dL_law_940 : decode code 940 = .ok (.iadd, 1) := by decide +kernel
theorem dL_law_941 : decode code 941 = .ok (.iaload, 1) := by decide +kernel
theorem dL_law_942 : decode code 942 = .ok (.aload_n 0, 1) := by decide +kernel
theorem dL_law_943 : decode code 943 = .ok (.iload_n 3, 1) := by decide +kernel
theorem dL_law_944 : decode code 944 = .ok (.iconst 4, 1) := by decide +kernel
theorem dL_law_945 : decode code 945 = .ok (.iadd, 1) := by decide +kernel
theorem dL_law_946 : decode code 946 = .ok (.iaload, 1) := by decide +kernel
theorem dL_law_947 : decode code 947 = .ok (.aload_n 0, 1) := by decide +kernel
theorem dL_law_948 : decode code 948 = .ok (.iload_n 3, 1) := by decide +kernel
theorem dL_law_949 : decode code 949 = .ok (.iconst 5, 1) := by decide +kernel
theorem dL_law_950 : decode code 950 = .ok (.iadd, 1) := by decide +kernel
theorem dL_law_951 : decode code 951 = .ok (.iaload, 1) := by decide +kernel
theorem dL_law_952 : decode code 952 = .ok (.invokevirtual 127, 3) := by decide +kernel
theorem dL_law_955 : decode code 955 = .ok (.aload_n 2, 1) := by decide +kernel
theorem dL_law_956 : decode code 956 = .ok (.aload_n 0, 1) := by decide +kernel
theorem dL_law_957 : decode code 957 = .ok (.iload_n 3, 1) := by decide +kernel
theorem dL_law_958 : decode code 958 = .ok (.iconst 1, 1) := by decide +kernel
theorem dL_law_959 : decode code 959 = .ok (.iadd, 1) := by decide +kernel
theorem dL_law_960 : decode code 960 = .ok (.iaload, 1) := by decide +kernel
theorem dL_law_961 : decode code 961 = .ok (.aload_n 0, 1) := by decide +kernel
theorem dL_law_962 : decode code 962 = .ok (.iload_n 3, 1) := by decide +kernel
theorem dL_law_963 : decode code 963 = .ok (.iconst 2, 1) := by decide +kernel
theorem dL_law_964 : decode code 964 = .ok (.iadd, 1) := by decide +kernel
theorem dL_law_965 : decode code 965 = .ok (.iaload, 1) := by decide +kernel
theorem dL_law_966 : decode code 966 = .ok (.aload_n 0, 1) := by decide +kernel
theorem dL_law_967 : decode code 967 = .ok (.iload_n 3, 1) := by decide +kernel
theorem dL_law_968 : decode code 968 = .ok (.iconst 3, 1) := by decide +kernel
theorem dL_law_969 : decode code 969 = .ok (.iadd, 1) := by decide +kernel
theorem dL_law_970 : decode code 970 = .ok (.iaload, 1) := by decide +kernel
theorem dL_law_971 : decode code 971 = .ok (.aload_n 0, 1) := by decide +kernel
theorem dL_law_972 : decode code 972 = .ok (.iload_n 3, 1) := by decide +kernel
theorem dL_law_973 : decode code 973 = .ok (.iconst 4, 1) := by decide +kernel
theorem dL_law_974 : decode code 974 = .ok (.iadd, 1) := by decide +kernel
theorem dL_law_975 : decode code 975 = .ok (.iaload, 1) := by decide +kernel
theorem dL_law_976 : decode code 976 = .ok (.aload_n 0, 1) := by decide +kernel
theorem dL_law_977 : decode code 977 = .ok (.iload_n 3, 1) := by decide +kernel
theorem dL_law_978 : decode code 978 = .ok (.iconst 5, 1) := by decide +kernel
theorem dL_law_979 : decode code 979 = .ok (.iadd, 1) := by decide +kernel
theorem dL_law_980 : decode code 980 = .ok (.iaload, 1) := by decide +kernel
theorem dL_law_981 : decode code 981 = .ok (.invokevirtual 131, 3) := by decide +kernel
theorem dL_law_984 : decode code 984 = .ok (.if_icmp .eq 5, 3) := by decide +kernel
theorem dL_law_987 : decode code 987 = .ok (.iconst 0, 1) := by decide +kernel
theorem dL_law_988 : decode code 988 = .ok (.ireturn, 1) := by decide +kernel
theorem dL_law_989 : decode code 989 = .ok (.iinc 3 6, 3) := by decide +kernel
theorem dL_law_992 : decode code 992 = .ok (.goto (-974), 3) := by decide +kernel
theorem dL_law_995 : decode code 995 = .ok (.iconst 1, 1) := by decide +kernel
theorem dL_law_996 : decode code 996 = .ok (.ireturn, 1) := by decide +kernel
end
section
/-! ===== the world: 134 cells of a fixed shape; what they hold is a function of cell and place ===== -/
def lw_g : List Cond := lw_tbl.filter goodWord
theorem lw_gin {w : Cond} (k : Nat) (h : lw_tbl[k]? = some w) (hg : goodWord w = true) : w ∈ lw_g := List.mem_filter.mpr ⟨List.mem_of_getElem? h, hg⟩
theorem in_X1 : ∀ w ∈ u_ws RX1 TX1 8, w ∈ lw_g := fun w h => List.mem_filter.mpr ⟨(by decide +kernel : ∀ w ∈ u_ws RX1 TX1 8, w ∈ lw_tbl) w h, (by decide +kernel : ∀ w ∈ u_ws RX1 TX1 8, goodWord w = true) w h⟩
theorem in_X2 : ∀ w ∈ u_ws RX2 TX2 7, w ∈ lw_g := fun w h => List.mem_filter.mpr ⟨(by decide +kernel : ∀ w ∈ u_ws RX2 TX2 7, w ∈ lw_tbl) w h, (by decide +kernel : ∀ w ∈ u_ws RX2 TX2 7, goodWord w = true) w h⟩
theorem in_X3 : ∀ w ∈ u_ws RX3 TX3 3, w ∈ lw_g := fun w h => List.mem_filter.mpr ⟨(by decide +kernel : ∀ w ∈ u_ws RX3 TX3 3, w ∈ lw_tbl) w h, (by decide +kernel : ∀ w ∈ u_ws RX3 TX3 3, goodWord w = true) w h⟩
theorem in_X4 : ∀ w ∈ u_ws RX4 TX4 3, w ∈ lw_g := fun w h => List.mem_filter.mpr ⟨(by decide +kernel : ∀ w ∈ u_ws RX4 TX4 3, w ∈ lw_tbl) w h, (by decide +kernel : ∀ w ∈ u_ws RX4 TX4 3, goodWord w = true) w h⟩
theorem in_X5 : ∀ w ∈ u_ws RX5 TX5 3, w ∈ lw_g := fun w h => List.mem_filter.mpr ⟨(by decide +kernel : ∀ w ∈ u_ws RX5 TX5 3, w ∈ lw_tbl) w h, (by decide +kernel : ∀ w ∈ u_ws RX5 TX5 3, goodWord w = true) w h⟩
theorem in_X6 : ∀ w ∈ u_ws RX6 TX6 17, w ∈ lw_g := fun w h => List.mem_filter.mpr ⟨(by decide +kernel : ∀ w ∈ u_ws RX6 TX6 17, w ∈ lw_tbl) w h, (by decide +kernel : ∀ w ∈ u_ws RX6 TX6 17, goodWord w = true) w h⟩
theorem in_X7 : ∀ w ∈ u_ws RX7 TX7 13, w ∈ lw_g := fun w h => List.mem_filter.mpr ⟨(by decide +kernel : ∀ w ∈ u_ws RX7 TX7 13, w ∈ lw_tbl) w h, (by decide +kernel : ∀ w ∈ u_ws RX7 TX7 13, goodWord w = true) w h⟩
theorem in_X8 : ∀ w ∈ u_ws RX8 TX8 9, w ∈ lw_g := fun w h => List.mem_filter.mpr ⟨(by decide +kernel : ∀ w ∈ u_ws RX8 TX8 9, w ∈ lw_tbl) w h, (by decide +kernel : ∀ w ∈ u_ws RX8 TX8 9, goodWord w = true) w h⟩
theorem in_X9 : ∀ w ∈ u_ws RX9 TX9 37, w ∈ lw_g := fun w h => List.mem_filter.mpr ⟨(by decide +kernel : ∀ w ∈ u_ws RX9 TX9 37, w ∈ lw_tbl) w h, (by decide +kernel : ∀ w ∈ u_ws RX9 TX9 37, goodWord w = true) w h⟩
abbrev Sg : Type := Nat → Int → Int
abbrev G : Type := Launch × va_G × (Nat → Nat) × (Nat → ClassId)
abbrev vI (z : Int) : Value := .int (Int32.ofInt z)
abbrev vL (z : Int) : Value := .long (Int64.ofInt z)
def up (σ : Sg) (c : Nat) (k v : Int) : Sg := fun c' k' => if c' = c then (if k' = k then v else σ c' k') else σ c' k'
theorem up_ne {σ : Sg} {c c' : Nat} {k v k' : Int} (h : c' ≠ c) : up σ c k v c' k' = σ c' k' := by simp [up, h]
theorem up_nk {σ : Sg} {c c' : Nat} {k v k' : Int} (h : k' ≠ k) : up σ c k v c' k' = σ c' k' := by simp [up, h]
theorem up_eq {σ : Sg} {c : Nat} {k v : Int} : up σ c k v c k = v := by simp [up]
abbrev Sh : Type := Nat × Nat × List Nat
def shL : List Sh := [(0, 7, [3, 7, 15, 11, 49, 83, 85, 106, 0]), (0, 1, [4, 5, 6, 0, 0, 0, 0]), (1, 8, []), (1, 32, []), (1, 32, []), (0, 1, [8, 9, 10, 0, 0, 0, 0]), (1, 8, []), (1, 32, []), (1, 32, []), (0, 1, [12, 13, 14, 0, 0, 0, 0]), (1, 8, []), (1, 32, []), (1, 32, []), (0, 2, [16, 0, 0]), (4, 0, [15, 19, 23, 27, 31, 35, 39, 43]), (0, 1, [18, 19, 20, 0, 0, 0, 0]), (1, 8, []), (1, 32, []), (1, 32, []), (0, 1, [22, 23, 24, 0, 0, 0, 0]), (1, 8, []), (1, 32, []), (1, 32, []), (0, 1, [26, 27, 28, 0, 0, 0, 0]), (1, 8, []), (1, 32, []), (1, 32, []), (0, 1, [30, 31, 32, 0, 0, 0, 0]), (1, 8, []), (1, 32, []), (1, 32, []), (0, 1, [34, 35, 36, 0, 0, 0, 0]), (1, 8, []), (1, 32, []), (1, 32, []), (0, 1, [38, 39, 40, 0, 0, 0, 0]), (1, 8, []), (1, 32, []), (1, 32, []), (0, 1, [42, 43, 44, 0, 0, 0, 0]), (1, 8, []), (1, 32, []), (1, 32, []), (0, 1, [46, 47, 48, 0, 0, 0, 0]), (1, 8, []), (1, 32, []), (1, 32, []), (0, 2, [50, 0, 0]), (4, 0, [49, 53, 57, 61, 65, 69, 73, 77]), (0, 1, [52, 53, 54, 0, 0, 0, 0]), (1, 8, []), (1, 32, []), (1, 32, []), (0, 1, [56, 57, 58, 0, 0, 0, 0]), (1, 8, []), (1, 32, []), (1, 32, []), (0, 1, [60, 61, 62, 0, 0, 0, 0]), (1, 8, []), (1, 32, []), (1, 32, []), (0, 1, [64, 65, 66, 0, 0, 0, 0]), (1, 8, []), (1, 32, []), (1, 32, []), (0, 1, [68, 69, 70, 0, 0, 0, 0]), (1, 8, []), (1, 32, []), (1, 32, []), (0, 1, [72, 73, 74, 0, 0, 0, 0]), (1, 8, []), (1, 32, []), (1, 32, []), (0, 1, [76, 77, 78, 0, 0, 0, 0]), (1, 8, []), (1, 32, []), (1, 32, []), (0, 1, [80, 81, 82, 0, 0, 0, 0]), (1, 8, []), (1, 32, []), (1, 32, []), (0, 3, [84, 0, 0]), (2, 120, []), (0, 5, [3, 90, 99, 0, 0, 0, 0, 0, 0, 86, 87, 88, 89, 0, 0, 1, 1]), (1, 4, []), (1, 8, []), (1, 8, []), (1, 5, []), (0, 6, [3, 91, 92, 93, 94, 95, 96, 97, 0, 98, 0, 0, 1]), (1, 9, []), (1, 9, []), (1, 9, []), (1, 9, []), (1, 9, []), (1, 9, []), (3, 9, []), (1, 4, []), (0, 0, [0, 0, 100, 101, 102, 103, 104, 105]), (1, 32, []), (1, 60, []), (1, 60, []), (1, 240, []), (3, 32, []), (1, 32, []), (4, 1, [105, 107, 109, 111]), (0, 4, [108, 0, 0]), (3, 24, []), (0, 4, [110, 0, 0]), (3, 24, []), (0, 4, [112, 0, 0]), (3, 24, []), (0, 4, [114, 0, 0]), (3, 24, []), (0, 8, [116, 117, 118, 0, 0, 119, 0, 0, 0, 0, 0, 0, 120, 0, 0, 0, 121, 122, 123, 124, 125, 0, 126, 0, 0, 127, 128, 0, 129, 0, 130, 131, 0, 132, 133, 134, 135]), (1, 76, []), (1, 8, []), (1, 9, []), (1, 8, []), (1, 8, []), (1, 256, []), (1, 60, []), (3, 128, []), (1, 128, []), (1, 8, []), (1, 120, []), (1, 72, []), (1, 10, []), (1, 608, []), (1, 76, []), (1, 608, []), (1, 4, []), (1, 4, []), (3, 96, []), (3, 24, [])]
def sh (c : Nat) : Sh := shL.getD c (9, 0, [])
/-- a place that holds a long -/
def lk (c : Nat) (k : Int) : Bool := match sh c with
  | (3, _, _) => true
  | (0, _, fl) => (fl[k.toNat]? == some 1) && decide (0 ≤ k)
  | _ => false
def Rn (σ : Sg) : Prop := ∀ (c : Nat) (k : Int), (lk c k = false → -2147483648 ≤ σ c k ∧ σ c k ≤ 2147483647) ∧ (-9223372036854775808 ≤ σ c k ∧ σ c k ≤ 9223372036854775807)
theorem Rn_up {σ : Sg} (h : Rn σ) {c : Nat} {k v : Int} (hv : (lk c k = false → -2147483648 ≤ v ∧ v ≤ 2147483647) ∧ (-9223372036854775808 ≤ v ∧ v ≤ 9223372036854775807)) : Rn (up σ c k v) := by
  intro c' k'
  unfold up
  by_cases h1 : c' = c
  · by_cases h2 : k' = k
    · subst h1; subst h2; simp only [if_pos]; exact hv
    · simp only [h1, h2, if_pos, if_false]; exact h c k'
  · simp only [h1, if_false]; exact h c' k'
def wv (ad : Nat → Nat) (r : Int → Int) (k : Nat) (code : Nat) : Value := match code with
  | 0 => vI (r k)
  | 1 => vL (r k)
  | j + 2 => .ref (ad j)
def weR (g : G) (c : Nat) (r : Int → Int) : va_E := match sh c with
  | (0, ci, fl) => .inr (ci, fl.mapIdx (fun k x => wv g.2.2.1 r k x))
  | (1, n, _) => .inl (g.2.2.2 0, n, .inl (fun k => Int32.ofInt (r k)))
  | (2, n, _) => .inl (g.2.2.2 1, n, .inl (fun k => Int32.ofInt (r k)))
  | (3, n, _) => .inl (g.2.2.2 2, n, .inr (.inl (fun k => Int64.ofInt (r k))))
  | (4, t, fl) => .inl (g.2.2.2 (3 + t), fl.length, .inr (.inr (.inr (.inr (fun k => fl[k]?.map g.2.2.1)))))
  | _ => .inr (0, [])
def ws (g : G) (σ : Sg) : va_W := (List.range 134).map (fun c => (g.2.2.1 c, weR g c (σ c)))
theorem ws_at (g : G) (σ : Sg) {c : Nat} (h : c < 134) : (ws g σ)[c]? = some (g.2.2.1 c, weR g c (σ c)) := by
  simp [ws, h]
theorem ws_set (g : G) (σ σ' : Sg) {c : Nat} (h : c < 134) (ho : ∀ c', c' ≠ c → σ' c' = σ c') : (ws g σ).set c (g.2.2.1 c, weR g c (σ' c)) = ws g σ' := by
  apply List.ext_getElem?
  intro i
  by_cases hi : i = c
  · subst hi
    rw [ws_at g σ' h, List.getElem?_set_self (by simp [ws]; exact h)]
  · rw [List.getElem?_set_ne (fun q => hi q.symm)]
    simp only [ws, List.getElem?_map]
    by_cases hr : i < 134
    · simp [hr, ho i hi]
    · simp [hr]
def Dj (g : G) : Prop := ∀ i j : Nat, i < 134 → j < 134 → g.2.2.1 i = g.2.2.1 j → i = j
theorem Dj.D {g : G} (h : Dj g) {A : Nat → Prop} (hA : ∀ c, c < 134 → A (g.2.2.1 c)) (σ : Sg) : va_D A (ws g σ) := by
  have key : ∀ (i : Nat) (p : Nat × va_E), (ws g σ)[i]? = some p → i < 134 ∧ p.1 = g.2.2.1 i := by
    intro i p hp
    have hl : i < (ws g σ).length := (List.getElem?_eq_some_iff.mp hp).1
    have hi : i < 134 := by simpa [ws] using hl
    rw [ws_at g σ hi] at hp
    exact ⟨hi, by rw [← Option.some.inj hp]⟩
  refine ⟨fun i j p q hp hq hpq => ?_, fun k q hq => ?_⟩
  · obtain ⟨h1, h2⟩ := key i p hp
    obtain ⟨h3, h4⟩ := key j q hq
    exact h i j h1 h3 (by rw [← h2, ← h4, hpq])
  · obtain ⟨h1, h2⟩ := key k q hq
    rw [h2]; exact hA k h1
def gty (g : G) : List (ClassId × FieldType) := [(g.2.2.2 0, .int), (g.2.2.2 1, .char), (g.2.2.2 2, .long), (g.2.2.2 3, .object RX2), (g.2.2.2 4, .object RX5)]
def Aa (g : G) (sz : Nat) : Nat → Prop := fun q => (∃ c, c < 134 ∧ q = g.2.2.1 c) ∨ sz ≤ q
/-! ===== the context of a walk ===== -/
abbrev Cx : Type := Program × Env × Room × State × MethodId × Array Value × List Frame × Method × Code × Nat × Nat × (State → Prop) × (Nat → Prop)
abbrev xp (x : Cx) : Program := x.1
abbrev xe (x : Cx) : Env := x.2.1
abbrev xR (x : Cx) : Room := x.2.2.1
abbrev xs (x : Cx) : State := x.2.2.2.1
abbrev xm (x : Cx) : MethodId := x.2.2.2.2.1
abbrev xa (x : Cx) : Array Value := x.2.2.2.2.2.1
abbrev xb (x : Cx) : List Frame := x.2.2.2.2.2.2.1
abbrev xt (x : Cx) : Method := x.2.2.2.2.2.2.2.1
abbrev xc (x : Cx) : Code := x.2.2.2.2.2.2.2.2.1
abbrev xk (x : Cx) : Nat := x.2.2.2.2.2.2.2.2.2.1
abbrev xn (x : Cx) : Nat := x.2.2.2.2.2.2.2.2.2.2.1
abbrev xQ (x : Cx) : State → Prop := x.2.2.2.2.2.2.2.2.2.2.2.1
abbrev xA (x : Cx) : Nat → Prop := x.2.2.2.2.2.2.2.2.2.2.2.2
def Ok (g : G) (x : Cx) (own : String) (cc : ByteArray) (nL d : Nat) : Prop :=
  (xp x).tables.exec = Jvm.exec ∧ (xc x).code = cc ∧ (xc x).maxLocals = nL ∧ (xs x).vm.findClass own = some (xm x).cls ∧ (∀ w ∈ lw_g, w.before (xa x) (xs x) = true) ∧ va_K g.2.1 vwCl (gty g) (xs x) ∧ Dj g ∧ (∀ c, c < 134 → xA x (g.2.2.1 c)) ∧ (∀ q, (xs x).heap.size ≤ q → xA x q) ∧ d ≤ (xR x).frames ∧ 40 * d ≤ (xR x).locals ∧ xk x ≤ (xR x).cells ∧ xn x ≤ (xR x).slots
def Wx (g : G) (x : Cx) (H : Heap) (locs : List Loc) (f : JFrame) : Prop := W (xp x) g.1 (xe x) (xR x) (xs x) (xm x) (xa x) (xb x) (xt x) (xc x) H locs (xk x) (xn x) (xQ x) f
def Z (g : G) (x : Cx) (nL pc : Nat) (L : List (Nat × Value)) (S : List Value) (σ : Sg) : Prop :=
  ∀ (H : Heap) (locs : List Loc) (ls : Array Slot), Rn σ → va_P g.2.1 vwCl (ws g σ) H → va_S (xA x) (xs x).heap H locs → lv_has ls nL L → Wx g x H locs (F0 (xm x) pc ls S)
section ZR
variable {g : G} {x : Cx} {own : String} {cc : ByteArray} {nL dp pc : Nat} {L L' : List (Nat × Value)} {S : List Value} {σ : Sg}
theorem z_iconst (h : Ok g x own cc nL dp) {n : Int} (d : decode cc pc = .ok (.iconst n, 1)) (k : Z g x nL (pc + 1) L (vI n :: S) σ) : Z g x nL pc L S σ :=
  fun H locs ls hr hP hS hl => lv_iconst h.1 h.2.1 d rfl (k H locs ls hr hP hS hl)
theorem z_bipush (h : Ok g x own cc nL dp) {n : Int} (d : decode cc pc = .ok (.bipush n, 2)) (hv : (Int8.ofInt n).toInt32 = Int32.ofInt n) (k : Z g x nL (pc + 2) L (vI n :: S) σ) : Z g x nL pc L S σ :=
  fun H locs ls hr hP hS hl => lv_bipush h.1 h.2.1 d hv (k H locs ls hr hP hS hl)
theorem z_sipush (h : Ok g x own cc nL dp) {n : Int} (d : decode cc pc = .ok (.sipush n, 3)) (hv : (Int16.ofInt n).toInt32 = Int32.ofInt n) (k : Z g x nL (pc + 3) L (vI n :: S) σ) : Z g x nL pc L S σ :=
  fun H locs ls hr hP hS hl => lv_sipush h.1 h.2.1 d hv (k H locs ls hr hP hS hl)
theorem z_lconst (h : Ok g x own cc nL dp) {n : Fin 2} (z : Int) (d : decode cc pc = .ok (.lconst n, 1)) (hz : Int64.ofNat (n : Nat) = Int64.ofInt z) (k : Z g x nL (pc + 1) L (vL z :: S) σ) : Z g x nL pc L S σ :=
  fun H locs ls hr hP hS hl => lv_lconst h.1 h.2.1 d hz (k H locs ls hr hP hS hl)
theorem z_ldc (h : Ok g x own cc nL dp) {z : Int} {ix : Nat} (hc : Cond.constant own ix (Int32.ofInt z) ∈ lw_g) (d : decode cc pc = .ok (.ldc ix, 2)) (k : Z g x nL (pc + 2) L (vI z :: S) σ) : Z g x nL pc L S σ :=
  fun H locs ls hr hP hS hl => lv_ldc h.1 h.2.1 h.2.2.2.1 (h.2.2.2.2.1 _ hc) d (k H locs ls hr hP hS hl)
theorem z_ldcw (h : Ok g x own cc nL dp) {z : Int} {ix : Nat} (hc : Cond.constant own ix (Int32.ofInt z) ∈ lw_g) (d : decode cc pc = .ok (.ldc_w ix, 3)) (k : Z g x nL (pc + 3) L (vI z :: S) σ) : Z g x nL pc L S σ :=
  fun H locs ls hr hP hS hl => lv_ldcw h.1 h.2.1 h.2.2.2.1 (h.2.2.2.2.1 _ hc) d (k H locs ls hr hP hS hl)
theorem z_ldc2 (h : Ok g x own cc nL dp) {z : Int} {ix : Nat} (hc : Cond.constantLong own ix (Int64.ofInt z) ∈ lw_g) (d : decode cc pc = .ok (.ldc2_w ix, 3)) (k : Z g x nL (pc + 3) L (vL z :: S) σ) : Z g x nL pc L S σ :=
  fun H locs ls hr hP hS hl => lv_ldc2 h.1 h.2.1 h.2.2.2.1 (h.2.2.2.2.1 _ hc) d (k H locs ls hr hP hS hl)
theorem z_iload_n (h : Ok g x own cc nL dp) {j : Fin 4} {z : Int} (q : Nat) (d : decode cc pc = .ok (.iload_n j, 1)) (hq : L[q]? = some ((j : Nat), vI z)) (k : Z g x nL (pc + 1) L (vI z :: S) σ) : Z g x nL pc L S σ :=
  fun H locs ls hr hP hS hl => lv_iload_n h.1 h.2.1 d rfl (lv_at hl q hq) (k H locs ls hr hP hS hl)
theorem z_iload (h : Ok g x own cc nL dp) {j : Nat} {z : Int} (q : Nat) (d : decode cc pc = .ok (.iload j, 2)) (hq : L[q]? = some (j, vI z)) (k : Z g x nL (pc + 2) L (vI z :: S) σ) : Z g x nL pc L S σ :=
  fun H locs ls hr hP hS hl => lv_iload h.1 h.2.1 d (lv_at hl q hq) (k H locs ls hr hP hS hl)
theorem z_lload_n (h : Ok g x own cc nL dp) {j : Fin 4} {z : Int} (q : Nat) (d : decode cc pc = .ok (.lload_n j, 1)) (hq : L[q]? = some ((j : Nat), vL z)) (k : Z g x nL (pc + 1) L (vL z :: S) σ) : Z g x nL pc L S σ :=
  fun H locs ls hr hP hS hl => lv_lload_n h.1 h.2.1 d rfl (lv_at hl q hq) (k H locs ls hr hP hS hl)
theorem z_lload (h : Ok g x own cc nL dp) {j : Nat} {z : Int} (q : Nat) (d : decode cc pc = .ok (.lload j, 2)) (hq : L[q]? = some (j, vL z)) (k : Z g x nL (pc + 2) L (vL z :: S) σ) : Z g x nL pc L S σ :=
  fun H locs ls hr hP hS hl => lv_lload h.1 h.2.1 d (lv_at hl q hq) (k H locs ls hr hP hS hl)
theorem z_aload_n (h : Ok g x own cc nL dp) {j : Fin 4} {z : Nat} (q : Nat) (d : decode cc pc = .ok (.aload_n j, 1)) (hq : L[q]? = some ((j : Nat), .ref z)) (k : Z g x nL (pc + 1) L (.ref z :: S) σ) : Z g x nL pc L S σ :=
  fun H locs ls hr hP hS hl => lv_aload_n h.1 h.2.1 d rfl (lv_at hl q hq) (k H locs ls hr hP hS hl)
theorem z_aload (h : Ok g x own cc nL dp) {j : Nat} {z : Nat} (q : Nat) (d : decode cc pc = .ok (.aload j, 2)) (hq : L[q]? = some (j, .ref z)) (k : Z g x nL (pc + 2) L (.ref z :: S) σ) : Z g x nL pc L S σ :=
  fun H locs ls hr hP hS hl => lv_aload h.1 h.2.1 d (lv_at hl q hq) (k H locs ls hr hP hS hl)
theorem z_istore_n (h : Ok g x own cc nL dp) {j : Fin 4} {z : Int} (d : decode cc pc = .ok (.istore_n j, 1)) (hn : (j : Nat) < nL) (hl' : ((j : Nat), vI z) :: L.filter (fun q => !(q.1 == (j : Nat)) && !(q.1 + 1 == (j : Nat) && q.2.category == 2)) = L') (k : Z g x nL (pc + 1) L' S σ) : Z g x nL pc L (vI z :: S) σ :=
  fun H locs ls hr hP hS hl => lv_istore_n h.1 h.2.1 d rfl hl hn hl' (fun ls2 hl2 => k H locs ls2 hr hP hS hl2)
theorem z_istore (h : Ok g x own cc nL dp) {j : Nat} {z : Int} (d : decode cc pc = .ok (.istore j, 2)) (hn : j < nL) (hl' : (j, vI z) :: L.filter (fun q => !(q.1 == j) && !(q.1 + 1 == j && q.2.category == 2)) = L') (k : Z g x nL (pc + 2) L' S σ) : Z g x nL pc L (vI z :: S) σ :=
  fun H locs ls hr hP hS hl => lv_istore h.1 h.2.1 d hl hn hl' (fun ls2 hl2 => k H locs ls2 hr hP hS hl2)
theorem z_astore_n (h : Ok g x own cc nL dp) {j : Fin 4} {z : Nat} (d : decode cc pc = .ok (.astore_n j, 1)) (hn : (j : Nat) < nL) (hl' : ((j : Nat), Value.ref z) :: L.filter (fun q => !(q.1 == (j : Nat)) && !(q.1 + 1 == (j : Nat) && q.2.category == 2)) = L') (k : Z g x nL (pc + 1) L' S σ) : Z g x nL pc L (.ref z :: S) σ :=
  fun H locs ls hr hP hS hl => lv_astore_n h.1 h.2.1 d rfl hl hn hl' (fun ls2 hl2 => k H locs ls2 hr hP hS hl2)
theorem z_astore (h : Ok g x own cc nL dp) {j : Nat} {z : Nat} (d : decode cc pc = .ok (.astore j, 2)) (hn : j < nL) (hl' : (j, Value.ref z) :: L.filter (fun q => !(q.1 == j) && !(q.1 + 1 == j && q.2.category == 2)) = L') (k : Z g x nL (pc + 2) L' S σ) : Z g x nL pc L (.ref z :: S) σ :=
  fun H locs ls hr hP hS hl => lv_astore h.1 h.2.1 d hl hn hl' (fun ls2 hl2 => k H locs ls2 hr hP hS hl2)
theorem z_lstore_n (h : Ok g x own cc nL dp) {j : Fin 4} {z : Int} (d : decode cc pc = .ok (.lstore_n j, 1)) (hn : (j : Nat) + 1 < nL) (hl' : ((j : Nat), vL z) :: L.filter (fun q => !(q.1 == (j : Nat)) && (!(q.1 == (j : Nat) + 1) && !(q.1 + 1 == (j : Nat) && q.2.category == 2))) = L') (k : Z g x nL (pc + 1) L' S σ) : Z g x nL pc L (vL z :: S) σ :=
  fun H locs ls hr hP hS hl => lv_lstore_n h.1 h.2.1 d rfl hl hn hl' (fun ls2 hl2 => k H locs ls2 hr hP hS hl2)
theorem z_lstore (h : Ok g x own cc nL dp) {j : Nat} {z : Int} (d : decode cc pc = .ok (.lstore j, 2)) (hn : j + 1 < nL) (hl' : (j, vL z) :: L.filter (fun q => !(q.1 == j) && (!(q.1 == j + 1) && !(q.1 + 1 == j && q.2.category == 2))) = L') (k : Z g x nL (pc + 2) L' S σ) : Z g x nL pc L (vL z :: S) σ :=
  fun H locs ls hr hP hS hl => lv_lstore h.1 h.2.1 d hl hn hl' (fun ls2 hl2 => k H locs ls2 hr hP hS hl2)
theorem z_iinc (h : Ok g x own cc nL dp) {j : Nat} {n z : Int} (q : Nat) (d : decode cc pc = .ok (.iinc j n, 3)) (hq : L[q]? = some (j, vI z)) (hn : j < nL) (hl' : (j, vI (z + n)) :: L.filter (fun q => !(q.1 == j) && !(q.1 + 1 == j && q.2.category == 2)) = L') (k : Z g x nL (pc + 3) L' S σ) : Z g x nL pc L S σ :=
  fun H locs ls hr hP hS hl => lv_iinc h.1 h.2.1 d hl hq (v := Int32.ofInt (z + n)) (by rw [Int32.ofInt_add]) hn hl' (fun ls2 hl2 => k H locs ls2 hr hP hS hl2)
theorem z_pick (ks : List Nat) (hk : lv_pick L ks = L') (k : Z g x nL pc L' S σ) : Z g x nL pc L S σ :=
  fun H locs ls hr hP hS hl => k H locs ls hr hP hS (lv_sub hl ks hk)
theorem z_iadd (h : Ok g x own cc nL dp) {a b : Int} (d : decode cc pc = .ok (.iadd, 1)) (k : Z g x nL (pc + 1) L (vI (a + b) :: S) σ) : Z g x nL pc L (vI b :: vI a :: S) σ :=
  fun H locs ls hr hP hS hl => lv_iadd h.1 h.2.1 d (by rw [← Int32.ofInt_add]; exact k H locs ls hr hP hS hl)
theorem z_isub (h : Ok g x own cc nL dp) {a b : Int} (d : decode cc pc = .ok (.isub, 1)) (k : Z g x nL (pc + 1) L (vI (a - b) :: S) σ) : Z g x nL pc L (vI b :: vI a :: S) σ :=
  fun H locs ls hr hP hS hl => lv_isub h.1 h.2.1 d (by rw [← Int32.ofInt_sub]; exact k H locs ls hr hP hS hl)
theorem z_imul (h : Ok g x own cc nL dp) {a b : Int} (d : decode cc pc = .ok (.imul, 1)) (k : Z g x nL (pc + 1) L (vI (a * b) :: S) σ) : Z g x nL pc L (vI b :: vI a :: S) σ :=
  fun H locs ls hr hP hS hl => lv_imul h.1 h.2.1 d (by rw [← Int32.ofInt_mul]; exact k H locs ls hr hP hS hl)
theorem z_ladd (h : Ok g x own cc nL dp) {a b : Int} (d : decode cc pc = .ok (.ladd, 1)) (k : Z g x nL (pc + 1) L (vL (a + b) :: S) σ) : Z g x nL pc L (vL b :: vL a :: S) σ :=
  fun H locs ls hr hP hS hl => lv_ladd h.1 h.2.1 d (by rw [← Int64.ofInt_add]; exact k H locs ls hr hP hS hl)
theorem z_lsub (h : Ok g x own cc nL dp) {a b : Int} (d : decode cc pc = .ok (.lsub, 1)) (k : Z g x nL (pc + 1) L (vL (a - b) :: S) σ) : Z g x nL pc L (vL b :: vL a :: S) σ :=
  fun H locs ls hr hP hS hl => lv_lsub h.1 h.2.1 d (by rw [← Int64.ofInt_sub]; exact k H locs ls hr hP hS hl)
theorem z_lmul (h : Ok g x own cc nL dp) {a b : Int} (d : decode cc pc = .ok (.lmul, 1)) (k : Z g x nL (pc + 1) L (vL (a * b) :: S) σ) : Z g x nL pc L (vL b :: vL a :: S) σ :=
  fun H locs ls hr hP hS hl => lv_lmul h.1 h.2.1 d (by rw [← Int64.ofInt_mul]; exact k H locs ls hr hP hS hl)
theorem iI_toInt {a : Int} (h : -2147483648 ≤ a ∧ a ≤ 2147483647) : (Int32.ofInt a).toInt = a := Int32.toInt_ofInt_of_le (by have := h.1; omega) (by have := h.2; omega)
theorem iL_toInt {a : Int} (h : -9223372036854775808 ≤ a ∧ a ≤ 9223372036854775807) : (Int64.ofInt a).toInt = a := Int64.toInt_ofInt_of_le (by have := h.1; omega) (by have := h.2; omega)
theorem iI_lt {a b : Int} (ha : -2147483648 ≤ a ∧ a ≤ 2147483647) (hb : -2147483648 ≤ b ∧ b ≤ 2147483647) : Int32.ofInt a < Int32.ofInt b ↔ a < b := by
  rw [Int32.lt_iff_toInt_lt, iI_toInt ha, iI_toInt hb]
theorem iI_le {a b : Int} (ha : -2147483648 ≤ a ∧ a ≤ 2147483647) (hb : -2147483648 ≤ b ∧ b ≤ 2147483647) : Int32.ofInt a ≤ Int32.ofInt b ↔ a ≤ b := by
  rw [Int32.le_iff_toInt_le, iI_toInt ha, iI_toInt hb]
theorem iI_eq {a b : Int} (ha : -2147483648 ≤ a ∧ a ≤ 2147483647) (hb : -2147483648 ≤ b ∧ b ≤ 2147483647) : Int32.ofInt a = Int32.ofInt b ↔ a = b := by
  rw [← Int32.toInt_inj, iI_toInt ha, iI_toInt hb]
theorem iL_lt {a b : Int} (ha : -9223372036854775808 ≤ a ∧ a ≤ 9223372036854775807) (hb : -9223372036854775808 ≤ b ∧ b ≤ 9223372036854775807) : Int64.ofInt a < Int64.ofInt b ↔ a < b := by
  rw [Int64.lt_iff_toInt_lt, iL_toInt ha, iL_toInt hb]
theorem iL_eq {a b : Int} (ha : -9223372036854775808 ≤ a ∧ a ≤ 9223372036854775807) (hb : -9223372036854775808 ≤ b ∧ b ≤ 9223372036854775807) : Int64.ofInt a = Int64.ofInt b ↔ a = b := by
  rw [← Int64.toInt_inj, iL_toInt ha, iL_toInt hb]
end ZR
end
section
section ZS
variable {g : G} {x : Cx} {own : String} {cc : ByteArray} {nL dp pc : Nat} {L L' : List (Nat × Value)} {S : List Value} {σ : Sg}
theorem z_goto (h : Ok g x own cc nL dp) {off : Int} (tgt : Nat) (d : decode cc pc = .ok (.goto off, 3)) (ht : (pc : Int) + off = (tgt : Int)) (k : Z g x nL tgt L S σ) : Z g x nL pc L S σ :=
  fun H locs ls hr hP hS hl => lv_goto h.1 h.2.1 d ht (k H locs ls hr hP hS hl)
theorem z_pop (h : Ok g x own cc nL dp) {v : Value} (d : decode cc pc = .ok (.pop, 1)) (hv : v.category = 1) (k : Z g x nL (pc + 1) L S σ) : Z g x nL pc L (v :: S) σ :=
  fun H locs ls hr hP hS hl => lv_pop h.1 h.2.1 d hv (k H locs ls hr hP hS hl)
theorem z_dup (h : Ok g x own cc nL dp) {v : Value} (d : decode cc pc = .ok (.dup, 1)) (hv : v.category = 1) (k : Z g x nL (pc + 1) L (v :: v :: S) σ) : Z g x nL pc L (v :: S) σ :=
  fun H locs ls hr hP hS hl => lv_dup h.1 h.2.1 d hv (k H locs ls hr hP hS hl)
theorem z_dup2 (h : Ok g x own cc nL dp) {v w : Value} (d : decode cc pc = .ok (.dup2, 1)) (hv : v.category = 1) (hw : w.category = 1) (k : Z g x nL (pc + 1) L (v :: w :: v :: w :: S) σ) : Z g x nL pc L (v :: w :: S) σ :=
  fun H locs ls hr hP hS hl => lv_dup2_11 h.1 h.2.1 d hv hw (k H locs ls hr hP hS hl)
theorem z_icmp_lt (h : Ok g x own cc nL dp) {a b off : Int} (tgt : Nat) (d : decode cc pc = .ok (.if_icmp .lt off, 3)) (ht : (pc : Int) + off = (tgt : Int)) (ra : -2147483648 ≤ a ∧ a ≤ 2147483647) (rb : -2147483648 ≤ b ∧ b ≤ 2147483647) (kt : a < b → Z g x nL tgt L S σ) (kf : b ≤ a → Z g x nL (pc + 3) L S σ) : Z g x nL pc L (vI b :: vI a :: S) σ :=
  fun H locs ls hr hP hS hl => lv_icmp_lt h.1 h.2.1 d ht (fun q => kt ((iI_lt ra rb).mp q) H locs ls hr hP hS hl) (fun q => kf (Int.not_lt.mp fun z => q ((iI_lt ra rb).mpr z)) H locs ls hr hP hS hl)
theorem z_icmp_ge (h : Ok g x own cc nL dp) {a b off : Int} (tgt : Nat) (d : decode cc pc = .ok (.if_icmp .ge off, 3)) (ht : (pc : Int) + off = (tgt : Int)) (ra : -2147483648 ≤ a ∧ a ≤ 2147483647) (rb : -2147483648 ≤ b ∧ b ≤ 2147483647) (kt : b ≤ a → Z g x nL tgt L S σ) (kf : a < b → Z g x nL (pc + 3) L S σ) : Z g x nL pc L (vI b :: vI a :: S) σ :=
  fun H locs ls hr hP hS hl => lv_icmp_ge h.1 h.2.1 d ht (fun q => kt ((iI_le rb ra).mp q) H locs ls hr hP hS hl) (fun q => kf (Int.not_le.mp fun z => q ((iI_le rb ra).mpr z)) H locs ls hr hP hS hl)
theorem z_icmp_gt (h : Ok g x own cc nL dp) {a b off : Int} (tgt : Nat) (d : decode cc pc = .ok (.if_icmp .gt off, 3)) (ht : (pc : Int) + off = (tgt : Int)) (ra : -2147483648 ≤ a ∧ a ≤ 2147483647) (rb : -2147483648 ≤ b ∧ b ≤ 2147483647) (kt : b < a → Z g x nL tgt L S σ) (kf : a ≤ b → Z g x nL (pc + 3) L S σ) : Z g x nL pc L (vI b :: vI a :: S) σ :=
  fun H locs ls hr hP hS hl => lv_icmp_gt h.1 h.2.1 d ht (fun q => kt ((iI_lt rb ra).mp q) H locs ls hr hP hS hl) (fun q => kf (Int.not_lt.mp fun z => q ((iI_lt rb ra).mpr z)) H locs ls hr hP hS hl)
theorem z_icmp_le (h : Ok g x own cc nL dp) {a b off : Int} (tgt : Nat) (d : decode cc pc = .ok (.if_icmp .le off, 3)) (ht : (pc : Int) + off = (tgt : Int)) (ra : -2147483648 ≤ a ∧ a ≤ 2147483647) (rb : -2147483648 ≤ b ∧ b ≤ 2147483647) (kt : a ≤ b → Z g x nL tgt L S σ) (kf : b < a → Z g x nL (pc + 3) L S σ) : Z g x nL pc L (vI b :: vI a :: S) σ :=
  fun H locs ls hr hP hS hl => lv_icmp_le h.1 h.2.1 d ht (fun q => kt ((iI_le ra rb).mp q) H locs ls hr hP hS hl) (fun q => kf (Int.not_le.mp fun z => q ((iI_le ra rb).mpr z)) H locs ls hr hP hS hl)
theorem z_icmp_eq (h : Ok g x own cc nL dp) {a b off : Int} (tgt : Nat) (d : decode cc pc = .ok (.if_icmp .eq off, 3)) (ht : (pc : Int) + off = (tgt : Int)) (ra : -2147483648 ≤ a ∧ a ≤ 2147483647) (rb : -2147483648 ≤ b ∧ b ≤ 2147483647) (kt : a = b → Z g x nL tgt L S σ) (kf : a ≠ b → Z g x nL (pc + 3) L S σ) : Z g x nL pc L (vI b :: vI a :: S) σ :=
  fun H locs ls hr hP hS hl => lv_icmp_eq h.1 h.2.1 d ht (fun q => kt ((iI_eq ra rb).mp q) H locs ls hr hP hS hl) (fun q => kf (fun z => q ((iI_eq ra rb).mpr z)) H locs ls hr hP hS hl)
theorem z_icmp_ne (h : Ok g x own cc nL dp) {a b off : Int} (tgt : Nat) (d : decode cc pc = .ok (.if_icmp .ne off, 3)) (ht : (pc : Int) + off = (tgt : Int)) (ra : -2147483648 ≤ a ∧ a ≤ 2147483647) (rb : -2147483648 ≤ b ∧ b ≤ 2147483647) (kt : a ≠ b → Z g x nL tgt L S σ) (kf : a = b → Z g x nL (pc + 3) L S σ) : Z g x nL pc L (vI b :: vI a :: S) σ :=
  fun H locs ls hr hP hS hl => lv_icmp_ne h.1 h.2.1 d ht (fun q => kt (fun z => q ((iI_eq ra rb).mpr z)) H locs ls hr hP hS hl) (fun q => kf ((iI_eq ra rb).mp q) H locs ls hr hP hS hl)
theorem iI_0 : Int32.ofInt 0 = 0 := by decide
theorem r0 : (-2147483648 : Int) ≤ 0 ∧ (0 : Int) ≤ 2147483647 := by decide
theorem iI_lt0 {a : Int} (ra : -2147483648 ≤ a ∧ a ≤ 2147483647) : Int32.ofInt a < 0 ↔ a < 0 := by rw [← iI_0]; exact iI_lt ra r0
theorem iI_gt0 {a : Int} (ra : -2147483648 ≤ a ∧ a ≤ 2147483647) : 0 < Int32.ofInt a ↔ 0 < a := by rw [← iI_0]; exact iI_lt r0 ra
theorem iI_le0 {a : Int} (ra : -2147483648 ≤ a ∧ a ≤ 2147483647) : Int32.ofInt a ≤ 0 ↔ a ≤ 0 := by rw [← iI_0]; exact iI_le ra r0
theorem iI_ge0 {a : Int} (ra : -2147483648 ≤ a ∧ a ≤ 2147483647) : 0 ≤ Int32.ofInt a ↔ 0 ≤ a := by rw [← iI_0]; exact iI_le r0 ra
theorem iI_eq0 {a : Int} (ra : -2147483648 ≤ a ∧ a ≤ 2147483647) : Int32.ofInt a = 0 ↔ a = 0 := by rw [← iI_0]; exact iI_eq ra r0
theorem z_if_eq (h : Ok g x own cc nL dp) {a off : Int} (tgt : Nat) (d : decode cc pc = .ok (.ifCond .eq off, 3)) (ht : (pc : Int) + off = (tgt : Int)) (ra : -2147483648 ≤ a ∧ a ≤ 2147483647) (kt : a = 0 → Z g x nL tgt L S σ) (kf : a ≠ 0 → Z g x nL (pc + 3) L S σ) : Z g x nL pc L (vI a :: S) σ :=
  fun H locs ls hr hP hS hl => lv_if_eq h.1 h.2.1 d ht (fun q => kt ((iI_eq0 ra).mp q) H locs ls hr hP hS hl) (fun q => kf (fun z => q ((iI_eq0 ra).mpr z)) H locs ls hr hP hS hl)
theorem z_if_ne (h : Ok g x own cc nL dp) {a off : Int} (tgt : Nat) (d : decode cc pc = .ok (.ifCond .ne off, 3)) (ht : (pc : Int) + off = (tgt : Int)) (ra : -2147483648 ≤ a ∧ a ≤ 2147483647) (kt : a ≠ 0 → Z g x nL tgt L S σ) (kf : a = 0 → Z g x nL (pc + 3) L S σ) : Z g x nL pc L (vI a :: S) σ :=
  fun H locs ls hr hP hS hl => lv_if_ne h.1 h.2.1 d ht (fun q => kt (fun z => q ((iI_eq0 ra).mpr z)) H locs ls hr hP hS hl) (fun q => kf ((iI_eq0 ra).mp q) H locs ls hr hP hS hl)
theorem z_if_lt (h : Ok g x own cc nL dp) {a off : Int} (tgt : Nat) (d : decode cc pc = .ok (.ifCond .lt off, 3)) (ht : (pc : Int) + off = (tgt : Int)) (ra : -2147483648 ≤ a ∧ a ≤ 2147483647) (kt : a < 0 → Z g x nL tgt L S σ) (kf : 0 ≤ a → Z g x nL (pc + 3) L S σ) : Z g x nL pc L (vI a :: S) σ :=
  fun H locs ls hr hP hS hl => lv_if_lt h.1 h.2.1 d ht (fun q => kt ((iI_lt0 ra).mp q) H locs ls hr hP hS hl) (fun q => kf (Int.not_lt.mp fun z => q ((iI_lt0 ra).mpr z)) H locs ls hr hP hS hl)
theorem z_if_ge (h : Ok g x own cc nL dp) {a off : Int} (tgt : Nat) (d : decode cc pc = .ok (.ifCond .ge off, 3)) (ht : (pc : Int) + off = (tgt : Int)) (ra : -2147483648 ≤ a ∧ a ≤ 2147483647) (kt : 0 ≤ a → Z g x nL tgt L S σ) (kf : a < 0 → Z g x nL (pc + 3) L S σ) : Z g x nL pc L (vI a :: S) σ :=
  fun H locs ls hr hP hS hl => lv_if_ge h.1 h.2.1 d ht (fun q => kt ((iI_ge0 ra).mp q) H locs ls hr hP hS hl) (fun q => kf (Int.not_le.mp fun z => q ((iI_ge0 ra).mpr z)) H locs ls hr hP hS hl)
theorem z_if_gt (h : Ok g x own cc nL dp) {a off : Int} (tgt : Nat) (d : decode cc pc = .ok (.ifCond .gt off, 3)) (ht : (pc : Int) + off = (tgt : Int)) (ra : -2147483648 ≤ a ∧ a ≤ 2147483647) (kt : 0 < a → Z g x nL tgt L S σ) (kf : a ≤ 0 → Z g x nL (pc + 3) L S σ) : Z g x nL pc L (vI a :: S) σ :=
  fun H locs ls hr hP hS hl => lv_if_gt h.1 h.2.1 d ht (fun q => kt ((iI_gt0 ra).mp q) H locs ls hr hP hS hl) (fun q => kf (Int.not_lt.mp fun z => q ((iI_gt0 ra).mpr z)) H locs ls hr hP hS hl)
theorem z_if_le (h : Ok g x own cc nL dp) {a off : Int} (tgt : Nat) (d : decode cc pc = .ok (.ifCond .le off, 3)) (ht : (pc : Int) + off = (tgt : Int)) (ra : -2147483648 ≤ a ∧ a ≤ 2147483647) (kt : a ≤ 0 → Z g x nL tgt L S σ) (kf : 0 < a → Z g x nL (pc + 3) L S σ) : Z g x nL pc L (vI a :: S) σ :=
  fun H locs ls hr hP hS hl => lv_if_le h.1 h.2.1 d ht (fun q => kt ((iI_le0 ra).mp q) H locs ls hr hP hS hl) (fun q => kf (Int.not_le.mp fun z => q ((iI_le0 ra).mpr z)) H locs ls hr hP hS hl)
/-- two longs compared: 1, 0, -1 -/
def lcm (a b : Int) : Int := if b < a then 1 else if a = b then 0 else -1
theorem z_lcmp (h : Ok g x own cc nL dp) {a b : Int} (d : decode cc pc = .ok (.lcmp, 1)) (ra : -9223372036854775808 ≤ a ∧ a ≤ 9223372036854775807) (rb : -9223372036854775808 ≤ b ∧ b ≤ 9223372036854775807) (k1 : b < a → Z g x nL (pc + 1) L (vI 1 :: S) σ) (k2 : a = b → Z g x nL (pc + 1) L (vI 0 :: S) σ) (k3 : a < b → Z g x nL (pc + 1) L (vI (-1) :: S) σ) : Z g x nL pc L (vL b :: vL a :: S) σ := by
  intro H locs ls hr hP hS hl
  refine W.lcmp h.1 h.2.1 d ?_
  unfold lg_cmp
  by_cases h1 : b < a
  · rw [if_pos ((iL_lt rb ra).mpr h1)]; exact k1 h1 H locs ls hr hP hS hl
  · rw [if_neg (fun q => h1 ((iL_lt rb ra).mp q))]
    by_cases h2 : a = b
    · rw [if_pos ((iL_eq ra rb).mpr h2)]; exact k2 h2 H locs ls hr hP hS hl
    · rw [if_neg (fun q => h2 ((iL_eq ra rb).mp q))]; exact k3 (by omega) H locs ls hr hP hS hl
theorem iI_div {a b : Int} (ha : 0 ≤ a) (ra : a ≤ 2147483647) (hb : 0 < b) (rb : b ≤ 2147483647) : Int32.ofInt a / Int32.ofInt b = Int32.ofInt (a / b) := by
  have hq : 0 ≤ a / b := Int.ediv_nonneg ha (Int.le_of_lt hb)
  have hq2 : a / b ≤ a := Int.ediv_le_self b ha
  rw [← Int32.toInt_inj, iI_toInt ⟨by omega, by omega⟩, Int32.toInt_div_of_ne_right, iI_toInt ⟨by omega, by omega⟩, iI_toInt ⟨by omega, by omega⟩, Int.tdiv_eq_ediv_of_nonneg ha]
  intro q
  have := congrArg Int32.toInt q
  rw [iI_toInt ⟨by omega, by omega⟩] at this
  have e : (-1 : Int32).toInt = -1 := by decide
  rw [e] at this
  omega
theorem iL_div {a b : Int} (ha : 0 ≤ a) (ra : a ≤ 9223372036854775807) (hb : 0 < b) (rb : b ≤ 9223372036854775807) : Int64.ofInt a / Int64.ofInt b = Int64.ofInt (a / b) := by
  have hq : 0 ≤ a / b := Int.ediv_nonneg ha (Int.le_of_lt hb)
  have hq2 : a / b ≤ a := Int.ediv_le_self b ha
  rw [← Int64.toInt_inj, iL_toInt ⟨by omega, by omega⟩, Int64.toInt_div_of_ne_right, iL_toInt ⟨by omega, by omega⟩, iL_toInt ⟨by omega, by omega⟩, Int.tdiv_eq_ediv_of_nonneg ha]
  intro q
  have := congrArg Int64.toInt q
  rw [iL_toInt ⟨by omega, by omega⟩] at this
  have e : (-1 : Int64).toInt = -1 := by decide
  rw [e] at this
  omega
theorem z_idiv (h : Ok g x own cc nL dp) {a b : Int} (d : decode cc pc = .ok (.idiv, 1)) (ha : 0 ≤ a ∧ a ≤ 2147483647) (hb : 0 < b ∧ b ≤ 2147483647) (k : Z g x nL (pc + 1) L (vI (a / b) :: S) σ) : Z g x nL pc L (vI b :: vI a :: S) σ :=
  fun H locs ls hr hP hS hl => lv_idiv h.1 h.2.1 d (fun q => by have := (iI_eq0 ⟨by omega, hb.2⟩).mp q; omega) (by rw [iI_div ha.1 ha.2 hb.1 hb.2]; exact k H locs ls hr hP hS hl)
theorem z_irem (h : Ok g x own cc nL dp) {a b : Int} (d : decode cc pc = .ok (.irem, 1)) (ha : 0 ≤ a ∧ a ≤ 2147483647) (hb : 0 < b ∧ b ≤ 2147483647) (k : Z g x nL (pc + 1) L (vI (a % b) :: S) σ) : Z g x nL pc L (vI b :: vI a :: S) σ :=
  fun H locs ls hr hP hS hl => lv_irem h.1 h.2.1 d (fun q => by have := (iI_eq0 ⟨by omega, hb.2⟩).mp q; omega) (by
    rw [iI_div ha.1 ha.2 hb.1 hb.2, ← Int32.ofInt_mul, ← Int32.ofInt_sub, show a - a / b * b = a % b by rw [Int.emod_def, Int.mul_comm]]; exact k H locs ls hr hP hS hl)
theorem iL_0 : Int64.ofInt 0 = 0 := by decide
theorem z_ldiv (h : Ok g x own cc nL dp) {a b : Int} (d : decode cc pc = .ok (.ldiv, 1)) (ha : 0 ≤ a ∧ a ≤ 9223372036854775807) (hb : 0 < b ∧ b ≤ 9223372036854775807) (k : Z g x nL (pc + 1) L (vL (a / b) :: S) σ) : Z g x nL pc L (vL b :: vL a :: S) σ :=
  fun H locs ls hr hP hS hl => lv_ldiv h.1 h.2.1 d (fun q => by rw [← iL_0] at q; have := (iL_eq ⟨by omega, hb.2⟩ (by decide)).mp q; omega) (by rw [iL_div ha.1 ha.2 hb.1 hb.2]; exact k H locs ls hr hP hS hl)
theorem z_lrem (h : Ok g x own cc nL dp) {a b : Int} (d : decode cc pc = .ok (.lrem, 1)) (ha : 0 ≤ a ∧ a ≤ 9223372036854775807) (hb : 0 < b ∧ b ≤ 9223372036854775807) (k : Z g x nL (pc + 1) L (vL (a % b) :: S) σ) : Z g x nL pc L (vL b :: vL a :: S) σ :=
  fun H locs ls hr hP hS hl => lv_lrem h.1 h.2.1 d (fun q => by rw [← iL_0] at q; have := (iL_eq ⟨by omega, hb.2⟩ (by decide)).mp q; omega) (by
    rw [iL_div ha.1 ha.2 hb.1 hb.2, ← Int64.ofInt_mul, ← Int64.ofInt_sub, show a - a / b * b = a % b by rw [Int.emod_def, Int.mul_comm]]; exact k H locs ls hr hP hS hl)
theorem z_i2l (h : Ok g x own cc nL dp) {a : Int} (d : decode cc pc = .ok (.i2l, 1)) (ra : -2147483648 ≤ a ∧ a ≤ 2147483647) (k : Z g x nL (pc + 1) L (vL a :: S) σ) : Z g x nL pc L (vI a :: S) σ :=
  fun H locs ls hr hP hS hl => lv_i2l h.1 h.2.1 d (by rw [← Int64.toInt_inj, Int32.toInt_toInt64, iI_toInt ra, iL_toInt ⟨by omega, by omega⟩]) (k H locs ls hr hP hS hl)
theorem z_l2i (h : Ok g x own cc nL dp) {a : Int} (d : decode cc pc = .ok (.l2i, 1)) (k : Z g x nL (pc + 1) L (vI a :: S) σ) : Z g x nL pc L (vL a :: S) σ :=
  fun H locs ls hr hP hS hl => lv_l2i h.1 h.2.1 d (by rw [Int64.toInt32_ofInt]) (k H locs ls hr hP hS hl)
theorem z_i2b (h : Ok g x own cc nL dp) {a : Int} (r : Int) (d : decode cc pc = .ok (.i2b, 1)) (hv : (Int32.ofInt a).toInt8.toInt32 = Int32.ofInt r) (k : Z g x nL (pc + 1) L (vI r :: S) σ) : Z g x nL pc L (vI a :: S) σ :=
  fun H locs ls hr hP hS hl => lv_i2b h.1 h.2.1 d hv (k H locs ls hr hP hS hl)
theorem z_i2s (h : Ok g x own cc nL dp) {a : Int} (r : Int) (d : decode cc pc = .ok (.i2s, 1)) (hv : (Int32.ofInt a).toInt16.toInt32 = Int32.ofInt r) (k : Z g x nL (pc + 1) L (vI r :: S) σ) : Z g x nL pc L (vI a :: S) σ :=
  fun H locs ls hr hP hS hl => lv_i2s h.1 h.2.1 d hv (k H locs ls hr hP hS hl)
theorem z_iand (h : Ok g x own cc nL dp) {a b : Int} (r : Int) (d : decode cc pc = .ok (.iand, 1)) (hv : Int32.ofInt a &&& Int32.ofInt b = Int32.ofInt r) (k : Z g x nL (pc + 1) L (vI r :: S) σ) : Z g x nL pc L (vI b :: vI a :: S) σ :=
  fun H locs ls hr hP hS hl => lv_iand h.1 h.2.1 d (by rw [hv]; exact k H locs ls hr hP hS hl)
theorem z_ior (h : Ok g x own cc nL dp) {a b : Int} (r : Int) (d : decode cc pc = .ok (.ior, 1)) (hv : Int32.ofInt a ||| Int32.ofInt b = Int32.ofInt r) (k : Z g x nL (pc + 1) L (vI r :: S) σ) : Z g x nL pc L (vI b :: vI a :: S) σ :=
  fun H locs ls hr hP hS hl => lv_ior h.1 h.2.1 d (by rw [hv]; exact k H locs ls hr hP hS hl)
theorem z_ixor (h : Ok g x own cc nL dp) {a b : Int} (r : Int) (d : decode cc pc = .ok (.ixor, 1)) (hv : Int32.ofInt a ^^^ Int32.ofInt b = Int32.ofInt r) (k : Z g x nL (pc + 1) L (vI r :: S) σ) : Z g x nL pc L (vI b :: vI a :: S) σ :=
  fun H locs ls hr hP hS hl => lv_ixor h.1 h.2.1 d (by rw [hv]; exact k H locs ls hr hP hS hl)
theorem z_ishl (h : Ok g x own cc nL dp) {a b : Int} (r : Int) (d : decode cc pc = .ok (.ishl, 1)) (hv : Int32.ofInt a <<< (Int32.ofInt b &&& 31) = Int32.ofInt r) (k : Z g x nL (pc + 1) L (vI r :: S) σ) : Z g x nL pc L (vI b :: vI a :: S) σ :=
  fun H locs ls hr hP hS hl => lv_ishl h.1 h.2.1 d (by rw [hv]; exact k H locs ls hr hP hS hl)
theorem z_land (h : Ok g x own cc nL dp) {a b : Int} (r : Int) (d : decode cc pc = .ok (.land, 1)) (hv : Int64.ofInt a &&& Int64.ofInt b = Int64.ofInt r) (k : Z g x nL (pc + 1) L (vL r :: S) σ) : Z g x nL pc L (vL b :: vL a :: S) σ :=
  fun H locs ls hr hP hS hl => lv_land h.1 h.2.1 d (by rw [hv]; exact k H locs ls hr hP hS hl)
theorem z_lor (h : Ok g x own cc nL dp) {a b : Int} (r : Int) (d : decode cc pc = .ok (.lor, 1)) (hv : Int64.ofInt a ||| Int64.ofInt b = Int64.ofInt r) (k : Z g x nL (pc + 1) L (vL r :: S) σ) : Z g x nL pc L (vL b :: vL a :: S) σ :=
  fun H locs ls hr hP hS hl => lv_lor h.1 h.2.1 d (by rw [hv]; exact k H locs ls hr hP hS hl)
theorem z_lxor (h : Ok g x own cc nL dp) {a b : Int} (r : Int) (d : decode cc pc = .ok (.lxor, 1)) (hv : Int64.ofInt a ^^^ Int64.ofInt b = Int64.ofInt r) (k : Z g x nL (pc + 1) L (vL r :: S) σ) : Z g x nL pc L (vL b :: vL a :: S) σ :=
  fun H locs ls hr hP hS hl => lv_lxor h.1 h.2.1 d (by rw [hv]; exact k H locs ls hr hP hS hl)
theorem z_lshl (h : Ok g x own cc nL dp) {a b : Int} (r : Int) (d : decode cc pc = .ok (.lshl, 1)) (hv : Int64.ofInt a <<< ((Int32.ofInt b).toInt64 &&& 63) = Int64.ofInt r) (k : Z g x nL (pc + 1) L (vL r :: S) σ) : Z g x nL pc L (vI b :: vL a :: S) σ :=
  fun H locs ls hr hP hS hl => lv_lshl h.1 h.2.1 d hv (k H locs ls hr hP hS hl)
theorem z_lshr (h : Ok g x own cc nL dp) {a b : Int} (r : Int) (d : decode cc pc = .ok (.lshr, 1)) (hv : Int64.ofInt a >>> ((Int32.ofInt b).toInt64 &&& 63) = Int64.ofInt r) (k : Z g x nL (pc + 1) L (vL r :: S) σ) : Z g x nL pc L (vI b :: vL a :: S) σ :=
  fun H locs ls hr hP hS hl => lv_lshr h.1 h.2.1 d hv (k H locs ls hr hP hS hl)
theorem z_lushr (h : Ok g x own cc nL dp) {a b : Int} (r : Int) (d : decode cc pc = .ok (.lushr, 1)) (hv : ((Int64.ofInt a).toUInt64 >>> ((Int32.ofInt b).toInt64.toUInt64 &&& Int64.toUInt64 63)).toInt64 = Int64.ofInt r) (k : Z g x nL (pc + 1) L (vL r :: S) σ) : Z g x nL pc L (vI b :: vL a :: S) σ :=
  fun H locs ls hr hP hS hl => lv_lushr h.1 h.2.1 d hv (k H locs ls hr hP hS hl)
theorem z_i2c (h : Ok g x own cc nL dp) {a : Int} (d : decode cc pc = .ok (.i2c, 1)) (ra : 0 ≤ a ∧ a < 65536) (k : Z g x nL (pc + 1) L (vI a :: S) σ) : Z g x nL pc L (vI a :: S) σ := by
  intro H locs ls hr hP hS hl
  refine lv_i2c h.1 h.2.1 d (v := Int32.ofInt a) ?_ (k H locs ls hr hP hS hl)
  obtain ⟨n, rfl⟩ : ∃ n : Nat, a = n := ⟨a.toNat, by omega⟩
  have := pk_char (nI n)
  rw [show Int32.ofInt (n : Int) = nI n from rfl, this, pk_tn (by omega), Nat.mod_eq_of_lt (by omega)]
theorem z_tswOut (h : Ok g x own cc nL dp) {a dflt lo hi : Int} {offs : Array Int} {len : Nat} (tgt : Nat) (d : decode cc pc = .ok (.tableswitch dflt lo hi offs, len)) (ra : -2147483648 ≤ a ∧ a ≤ 2147483647) (ho : a < lo ∨ hi < a) (ht : (pc : Int) + dflt = (tgt : Int)) (k : Z g x nL tgt L S σ) : Z g x nL pc L (vI a :: S) σ :=
  fun H locs ls hr hP hS hl => lv_tableOut h.1 h.2.1 d (by rw [iI_toInt ra]; exact ho) ht (k H locs ls hr hP hS hl)
theorem z_tswIn (h : Ok g x own cc nL dp) {a dflt lo hi off : Int} {offs : Array Int} {len : Nat} (tgt : Nat) (d : decode cc pc = .ok (.tableswitch dflt lo hi offs, len)) (ra : -2147483648 ≤ a ∧ a ≤ 2147483647) (h1 : lo ≤ a) (h2 : a ≤ hi) (ho : offs[(a - lo).toNat]? = some off) (ht : (pc : Int) + off = (tgt : Int)) (k : Z g x nL tgt L S σ) : Z g x nL pc L (vI a :: S) σ :=
  fun H locs ls hr hP hS hl => lv_tableIn h.1 h.2.1 d (by rw [iI_toInt ra]; omega) (by rw [iI_toInt ra]; omega) (by rw [iI_toInt ra]; exact ho) ht (k H locs ls hr hP hS hl)
theorem z_lsw (h : Ok g x own cc nL dp) {a dflt off : Int} {ps : Array (Int × Int)} {len : Nat} (tgt : Nat) (d : decode cc pc = .ok (.lookupswitch dflt ps, len)) (hp : (ps.toList.zip (ps.toList.drop 1)).all (fun (a, next) => a.1 < next.1) = true) (ra : -2147483648 ≤ a ∧ a ≤ 2147483647) (ho : Op.lookupswitch.offset ps.toList dflt a = off) (ht : (pc : Int) + off = (tgt : Int)) (k : Z g x nL tgt L S σ) : Z g x nL pc L (vI a :: S) σ :=
  fun H locs ls hr hP hS hl => lv_lookup h.1 h.2.1 d hp (by rw [iI_toInt ra]; exact ho) ht (k H locs ls hr hP hS hl)
end ZS
end
section
/-! ===== fields, arrays ===== -/
/-- getfield index in class own reads field k of class ci -/
def FL (own : String) (ix ci k : Nat) : Prop := ∃ (C : String) (T : u_T) (N : Nat), vwCl[ci]? = some (C, T, N) ∧ k < N ∧ (∀ w ∈ u_ws C T N, w ∈ lw_g) ∧ Cond.fieldLink own ix (T k).1 (T k).2.1 (T k).2.2.1 ∈ lw_g
/-- putfield index in class own writes field k of class ci, of type ty -/
def FP (own : String) (ix ci k : Nat) (ty : FieldType) : Prop := ∃ (C : String) (T : u_T) (N : Nat) (ty0 : Nat → FieldType), vwCl[ci]? = some (C, T, N) ∧ k < N ∧ (∀ w ∈ u_ws C T N, w ∈ lw_g) ∧ Cond.fieldLink own ix (T k).1 (T k).2.1 (T k).2.2.1 ∈ lw_g ∧ (∀ k, k < N → parseFieldDescriptor (T k).2.2.1 = some (ty0 k)) ∧ (∀ a, a < N → ∀ b, b < N → a ≠ b → (T a).2.1 ≠ (T b).2.1) ∧ (T k).2.2.2 = false ∧ ty0 k = ty
theorem lk_0 {c ci k : Nat} {fl : List Nat} (hs : sh c = (0, ci, fl)) (hf : fl[k]? = some 0) : lk c k = false := by
  unfold lk; rw [hs]; simp [hf]
theorem lk_1 {c n : Nat} {l : List Nat} (k : Int) (hs : sh c = (1, n, l)) : lk c k = false := by
  unfold lk; rw [hs]; rfl
theorem lk_2 {c n : Nat} {l : List Nat} (k : Int) (hs : sh c = (2, n, l)) : lk c k = false := by
  unfold lk; rw [hs]; rfl
theorem we_0 {g : G} {c ci : Nat} {fl : List Nat} {r : Int → Int} (hs : sh c = (0, ci, fl)) : weR g c r = .inr (ci, fl.mapIdx (fun k x => wv g.2.2.1 r k x)) := by unfold weR; rw [hs]; rfl
theorem we_1 {g : G} {c n : Nat} {fl : List Nat} {r : Int → Int} (hs : sh c = (1, n, fl)) : weR g c r = .inl (g.2.2.2 0, n, .inl (fun k => Int32.ofInt (r k))) := by unfold weR; rw [hs]; rfl
theorem we_2 {g : G} {c n : Nat} {fl : List Nat} {r : Int → Int} (hs : sh c = (2, n, fl)) : weR g c r = .inl (g.2.2.2 1, n, .inl (fun k => Int32.ofInt (r k))) := by unfold weR; rw [hs]; rfl
theorem we_3 {g : G} {c n : Nat} {fl : List Nat} {r : Int → Int} (hs : sh c = (3, n, fl)) : weR g c r = .inl (g.2.2.2 2, n, .inr (.inl (fun k => Int64.ofInt (r k)))) := by unfold weR; rw [hs]; rfl
theorem we_4 {g : G} {c t : Nat} {fl : List Nat} {r : Int → Int} (hs : sh c = (4, t, fl)) : weR g c r = .inl (g.2.2.2 (3 + t), fl.length, .inr (.inr (.inr (.inr (fun k => fl[k]?.map g.2.2.1))))) := by unfold weR; rw [hs]; rfl
theorem sh_lt {c t n : Nat} {l : List Nat} (hs : sh c = (t, n, l)) (ht : t < 9) : c < 134 := by
  apply Nat.lt_of_not_le
  intro h
  have h2 : shL.length ≤ c := Nat.le_trans (show shL.length ≤ 134 by decide +kernel) h
  unfold sh at hs
  rw [List.getD_eq_getElem?_getD, List.getElem?_eq_none h2] at hs
  simp at hs
  omega
theorem up_row {σ : Sg} {c : Nat} {k v : Int} : up σ c k v c = fun k' => if k' = k then v else σ c k' := by
  funext k'; simp [up]
theorem up_row_ne {σ : Sg} {c c' : Nat} {k v : Int} (h : c' ≠ c) : up σ c k v c' = σ c' := by
  funext k'; simp [up, h]
theorem in_ok {i : Int} {n : Nat} (h : 0 ≤ i ∧ i < n) (hn : n < 2147483648) : vp_in (Int32.ofInt i) n ∧ (Int32.ofInt i).toNatClampNeg = i.toNat := by
  have ht := iI_toInt (a := i) ⟨by omega, by omega⟩
  have hc : (Int32.ofInt i).toNatClampNeg = i.toNat := by rw [← Int32.toNat_toInt, ht]
  refine ⟨vp_in_iff.mpr ⟨by rw [ht]; exact h.1, by rw [ht]; exact h.2⟩, hc⟩
section ZF
variable {g : G} {x : Cx} {own : String} {cc : ByteArray} {nL dp pc : Nat} {L L' : List (Nat × Value)} {S : List Value} {σ : Sg}
theorem z_getI (h : Ok g x own cc nL dp) {ix ci k c : Nat} {fl : List Nat} (ki : Int) (F : FL own ix ci k) (hs : sh c = (0, ci, fl)) (hf : fl[k]? = some 0) (hk : ((k : Nat) : Int) = ki) (d : decode cc pc = .ok (.getfield ix, 3)) (kk : -2147483648 ≤ σ c ki ∧ σ c ki ≤ 2147483647 → Z g x nL (pc + 3) L (vI (σ c ki) :: S) σ) : Z g x nL pc L (.ref (g.2.2.1 c) :: S) σ := by
  intro H locs ls hr hP hS hl
  subst hk
  obtain ⟨C, T, N, h1, h2, h3, h4⟩ := F
  exact va_get h.1 h.2.1 h.2.2.2.2.1 h3 h.2.2.2.1 h.2.2.2.2.2.1 hP c (ws_at g σ (sh_lt hs (by decide)) |>.trans (by rw [we_0 hs])) h1 k h2 (h.2.2.2.2.1 _ h4) (fun _ q => q) (v := vI (σ c k)) (by rw [List.getElem?_mapIdx, hf]; rfl) d (kk ((hr c k).1 (lk_0 hs hf)) H locs ls hr hP hS hl)
theorem z_getL (h : Ok g x own cc nL dp) {ix ci k c : Nat} {fl : List Nat} (ki : Int) (F : FL own ix ci k) (hs : sh c = (0, ci, fl)) (hf : fl[k]? = some 1) (hk : ((k : Nat) : Int) = ki) (d : decode cc pc = .ok (.getfield ix, 3)) (kk : -9223372036854775808 ≤ σ c ki ∧ σ c ki ≤ 9223372036854775807 → Z g x nL (pc + 3) L (vL (σ c ki) :: S) σ) : Z g x nL pc L (.ref (g.2.2.1 c) :: S) σ := by
  intro H locs ls hr hP hS hl
  subst hk
  obtain ⟨C, T, N, h1, h2, h3, h4⟩ := F
  exact va_get h.1 h.2.1 h.2.2.2.2.1 h3 h.2.2.2.1 h.2.2.2.2.2.1 hP c (ws_at g σ (sh_lt hs (by decide)) |>.trans (by rw [we_0 hs])) h1 k h2 (h.2.2.2.2.1 _ h4) (fun _ q => q) (v := vL (σ c k)) (by rw [List.getElem?_mapIdx, hf]; rfl) d (kk (hr c k).2 H locs ls hr hP hS hl)
theorem z_getR (h : Ok g x own cc nL dp) {ix ci k c : Nat} {fl : List Nat} (j : Nat) (F : FL own ix ci k) (hs : sh c = (0, ci, fl)) (hf : fl[k]? = some (j + 2)) (d : decode cc pc = .ok (.getfield ix, 3)) (kk : Z g x nL (pc + 3) L (.ref (g.2.2.1 j) :: S) σ) : Z g x nL pc L (.ref (g.2.2.1 c) :: S) σ := by
  intro H locs ls hr hP hS hl
  obtain ⟨C, T, N, h1, h2, h3, h4⟩ := F
  exact va_get h.1 h.2.1 h.2.2.2.2.1 h3 h.2.2.2.1 h.2.2.2.2.2.1 hP c (ws_at g σ (sh_lt hs (by decide)) |>.trans (by rw [we_0 hs])) h1 k h2 (h.2.2.2.2.1 _ h4) (fun _ q => q) (v := .ref (g.2.2.1 j)) (by rw [List.getElem?_mapIdx, hf]; rfl) d (kk H locs ls hr hP hS hl)
theorem z_putI (h : Ok g x own cc nL dp) {ix ci k c : Nat} {fl : List Nat} {z : Int} {ty : FieldType} (ki : Int) (F : FP own ix ci k ty) (hs : sh c = (0, ci, fl)) (hf : fl[k]? = some 0) (hk : ((k : Nat) : Int) = ki) (rz : -2147483648 ≤ z ∧ z ≤ 2147483647) (hn : narrow ty (vI z) = vI z) (hfit : fits ty (vI z) = true) (d : decode cc pc = .ok (.putfield ix, 3)) (kk : Z g x nL (pc + 3) L S (up σ c ki z)) : Z g x nL pc L (vI z :: .ref (g.2.2.1 c) :: S) σ := by
  intro H locs ls hr hP hS hl
  subst hk
  obtain ⟨C, T, N, ty0, h1, h2, h3, h4, h5, h6, h7, h8⟩ := F
  have hc := sh_lt hs (by decide)
  refine va_put h.1 h.2.1 h.2.2.2.2.1 h3 ty0 h5 h6 h.2.2.2.1 h.2.2.2.2.2.1 hP (h.2.2.2.2.2.2.1.D h.2.2.2.2.2.2.2.1 σ) hS c (ws_at g σ hc |>.trans (by rw [we_0 hs])) h1 k h2 (h.2.2.2.2.1 _ h4) (fun _ q => q) h7 (ty := ty) (by rw [h5 k h2, h8]) hn hfit (by rw [List.length_mapIdx]; exact (List.getElem?_eq_some_iff.mp hf).1) d (fun H1 locs1 hP1 hD1 hS1 => ?_)
  refine kk H1 locs1 ls (Rn_up hr ⟨fun _ => rz, by omega⟩) ?_ hS1 hl
  rw [← ws_set g σ (up σ c k z) hc (fun c' hne => up_row_ne hne), we_0 hs]
  have e : (fl.mapIdx (fun k x => wv g.2.2.1 (σ c) k x)).set k (vI z) = fl.mapIdx (fun k' x => wv g.2.2.1 (up σ c k z c) k' x) := by
    apply List.ext_getElem?
    intro i
    by_cases hi : i = k
    · subst hi
      rw [List.getElem?_set_self (by rw [List.length_mapIdx]; exact (List.getElem?_eq_some_iff.mp hf).1), List.getElem?_mapIdx, hf]
      simp [wv, up_row]
    · rw [List.getElem?_set_ne (fun q => hi q.symm), List.getElem?_mapIdx, List.getElem?_mapIdx]
      have hne : ¬ ((i : Int) = (k : Int)) := by omega
      cases fl[i]? with
      | none => rfl
      | some y =>
        simp only [Option.map_some, up_row]
        unfold wv
        simp only [hne, if_false]
  rw [← e]; exact hP1
theorem z_putL (h : Ok g x own cc nL dp) {ix ci k c : Nat} {fl : List Nat} {z : Int} (ki : Int) (F : FP own ix ci k .long) (hs : sh c = (0, ci, fl)) (hf : fl[k]? = some 1) (hk : ((k : Nat) : Int) = ki) (rz : -9223372036854775808 ≤ z ∧ z ≤ 9223372036854775807) (d : decode cc pc = .ok (.putfield ix, 3)) (kk : Z g x nL (pc + 3) L S (up σ c ki z)) : Z g x nL pc L (vL z :: .ref (g.2.2.1 c) :: S) σ := by
  intro H locs ls hr hP hS hl
  subst hk
  obtain ⟨C, T, N, ty0, h1, h2, h3, h4, h5, h6, h7, h8⟩ := F
  have hc := sh_lt hs (by decide)
  refine va_put h.1 h.2.1 h.2.2.2.2.1 h3 ty0 h5 h6 h.2.2.2.1 h.2.2.2.2.2.1 hP (h.2.2.2.2.2.2.1.D h.2.2.2.2.2.2.2.1 σ) hS c (ws_at g σ hc |>.trans (by rw [we_0 hs])) h1 k h2 (h.2.2.2.2.1 _ h4) (fun _ q => q) h7 (ty := .long) (by rw [h5 k h2, h8]) rfl rfl (by rw [List.length_mapIdx]; exact (List.getElem?_eq_some_iff.mp hf).1) d (fun H1 locs1 hP1 hD1 hS1 => ?_)
  refine kk H1 locs1 ls (Rn_up hr ⟨fun q => ?_, rz⟩) ?_ hS1 hl
  · exfalso
    unfold lk at q; rw [hs] at q; simp [hf] at q
  rw [← ws_set g σ (up σ c k z) hc (fun c' hne => up_row_ne hne), we_0 hs]
  have e : (fl.mapIdx (fun k x => wv g.2.2.1 (σ c) k x)).set k (vL z) = fl.mapIdx (fun k' x => wv g.2.2.1 (up σ c k z c) k' x) := by
    apply List.ext_getElem?
    intro i
    by_cases hi : i = k
    · subst hi
      rw [List.getElem?_set_self (by rw [List.length_mapIdx]; exact (List.getElem?_eq_some_iff.mp hf).1), List.getElem?_mapIdx, hf]
      simp [wv, up_row]
    · rw [List.getElem?_set_ne (fun q => hi q.symm), List.getElem?_mapIdx, List.getElem?_mapIdx]
      have hne : ¬ ((i : Int) = (k : Int)) := by omega
      cases fl[i]? with
      | none => rfl
      | some y =>
        simp only [Option.map_some, up_row]
        unfold wv
        simp only [hne, if_false]
  rw [← e]; exact hP1
theorem z_iald (h : Ok g x own cc nL dp) {c n : Nat} {l : List Nat} {i : Int} (hs : sh c = (1, n, l)) (hi : 0 ≤ i ∧ i < n) (hn : n < 2147483648) (d : decode cc pc = .ok (.iaload, 1)) (kk : -2147483648 ≤ σ c i ∧ σ c i ≤ 2147483647 → Z g x nL (pc + 1) L (vI (σ c i) :: S) σ) : Z g x nL pc L (vI i :: .ref (g.2.2.1 c) :: S) σ := by
  intro H locs ls hr hP hS hl
  obtain ⟨h1, h2⟩ := in_ok hi hn
  refine va_iald h.1 h.2.1 h.2.2.2.2.2.1 hP c 0 (ws_at g σ (sh_lt hs (by decide)) |>.trans (by rw [we_1 hs])) rfl h1 d ?_
  rw [h2, Int.toNat_of_nonneg hi.1]
  exact kk ((hr c i).1 (lk_1 i hs)) H locs ls hr hP hS hl
theorem z_cald (h : Ok g x own cc nL dp) {c n : Nat} {l : List Nat} {i : Int} (hs : sh c = (2, n, l)) (hi : 0 ≤ i ∧ i < n) (hn : n < 2147483648) (d : decode cc pc = .ok (.caload, 1)) (kk : -2147483648 ≤ σ c i ∧ σ c i ≤ 2147483647 → Z g x nL (pc + 1) L (vI (σ c i) :: S) σ) : Z g x nL pc L (vI i :: .ref (g.2.2.1 c) :: S) σ := by
  intro H locs ls hr hP hS hl
  obtain ⟨h1, h2⟩ := in_ok hi hn
  refine va_cald h.1 h.2.1 h.2.2.2.2.2.1 hP c 1 (ws_at g σ (sh_lt hs (by decide)) |>.trans (by rw [we_2 hs])) rfl h1 d ?_
  rw [h2, Int.toNat_of_nonneg hi.1]
  exact kk ((hr c i).1 (lk_2 i hs)) H locs ls hr hP hS hl
theorem z_lald (h : Ok g x own cc nL dp) {c n : Nat} {l : List Nat} {i : Int} (hs : sh c = (3, n, l)) (hi : 0 ≤ i ∧ i < n) (hn : n < 2147483648) (d : decode cc pc = .ok (.laload, 1)) (kk : -9223372036854775808 ≤ σ c i ∧ σ c i ≤ 9223372036854775807 → Z g x nL (pc + 1) L (vL (σ c i) :: S) σ) : Z g x nL pc L (vI i :: .ref (g.2.2.1 c) :: S) σ := by
  intro H locs ls hr hP hS hl
  obtain ⟨h1, h2⟩ := in_ok hi hn
  refine va_lald h.1 h.2.1 h.2.2.2.2.2.1 hP c 2 (ws_at g σ (sh_lt hs (by decide)) |>.trans (by rw [we_3 hs])) rfl h1 d ?_
  rw [h2, Int.toNat_of_nonneg hi.1]
  exact kk (hr c i).2 H locs ls hr hP hS hl
theorem z_aald (h : Ok g x own cc nL dp) {c t : Nat} {fl : List Nat} {i : Int} (j : Nat) (hs : sh c = (4, t, fl)) (ht : t < 2) (hi : 0 ≤ i ∧ i < fl.length) (hn : fl.length < 2147483648) (hj : fl[i.toNat]? = some j) (d : decode cc pc = .ok (.aaload, 1)) (kk : Z g x nL (pc + 1) L (.ref (g.2.2.1 j) :: S) σ) : Z g x nL pc L (vI i :: .ref (g.2.2.1 c) :: S) σ := by
  intro H locs ls hr hP hS hl
  obtain ⟨h1, h2⟩ := in_ok hi hn
  have hty : ∃ C, (gty g)[3 + t]? = some (g.2.2.2 (3 + t), .object C) := by
    rcases (show t = 0 ∨ t = 1 by omega) with rfl | rfl
    · exact ⟨RX2, rfl⟩
    · exact ⟨RX5, rfl⟩
  obtain ⟨C, hty⟩ := hty
  refine va_aldq h.1 h.2.1 h.2.2.2.2.2.1 hP c (3 + t) (ws_at g σ (sh_lt hs (by decide)) |>.trans (by rw [we_4 hs])) hty h1 d ?_
  rw [h2, hj]
  exact kk H locs ls hr hP hS hl
theorem z_iast (h : Ok g x own cc nL dp) {c n : Nat} {l : List Nat} {i z : Int} (hs : sh c = (1, n, l)) (hi : 0 ≤ i ∧ i < n) (hn : n < 2147483648) (rz : -2147483648 ≤ z ∧ z ≤ 2147483647) (d : decode cc pc = .ok (.iastore, 1)) (kk : Z g x nL (pc + 1) L S (up σ c i z)) : Z g x nL pc L (vI z :: vI i :: .ref (g.2.2.1 c) :: S) σ := by
  intro H locs ls hr hP hS hl
  obtain ⟨h1, h2⟩ := in_ok hi hn
  have hc := sh_lt hs (by decide)
  refine va_iast h.1 h.2.1 h.2.2.2.2.2.1 hP (h.2.2.2.2.2.2.1.D h.2.2.2.2.2.2.2.1 σ) hS c 0 (ws_at g σ hc |>.trans (by rw [we_1 hs])) rfl h1 d (fun H1 locs1 hP1 hD1 hS1 => ?_)
  refine kk H1 locs1 ls (Rn_up hr ⟨fun _ => rz, by omega⟩) ?_ hS1 hl
  rw [← ws_set g σ (up σ c i z) hc (fun c' hne => up_row_ne hne), we_1 hs]
  rw [h2] at hP1
  have e : upd (fun k : Nat => Int32.ofInt (σ c k)) i.toNat (Int32.ofInt z) = fun k : Nat => Int32.ofInt (up σ c i z c k) := by
    funext k
    simp only [upd, up_row]
    by_cases hk : k = i.toNat
    · rw [if_pos hk, if_pos (by omega)]
    · rw [if_neg hk, if_neg (by omega)]
  rw [← e]; exact hP1
theorem z_last (h : Ok g x own cc nL dp) {c n : Nat} {l : List Nat} {i z : Int} (hs : sh c = (3, n, l)) (hi : 0 ≤ i ∧ i < n) (hn : n < 2147483648) (rz : -9223372036854775808 ≤ z ∧ z ≤ 9223372036854775807) (d : decode cc pc = .ok (.lastore, 1)) (kk : Z g x nL (pc + 1) L S (up σ c i z)) : Z g x nL pc L (vL z :: vI i :: .ref (g.2.2.1 c) :: S) σ := by
  intro H locs ls hr hP hS hl
  obtain ⟨h1, h2⟩ := in_ok hi hn
  have hc := sh_lt hs (by decide)
  refine va_last h.1 h.2.1 h.2.2.2.2.2.1 hP (h.2.2.2.2.2.2.1.D h.2.2.2.2.2.2.2.1 σ) hS c 2 (ws_at g σ hc |>.trans (by rw [we_3 hs])) rfl h1 d (fun H1 locs1 hP1 hD1 hS1 => ?_)
  refine kk H1 locs1 ls (Rn_up hr ⟨fun q => ?_, rz⟩) ?_ hS1 hl
  · exfalso; unfold lk at q; rw [hs] at q; cases q
  rw [← ws_set g σ (up σ c i z) hc (fun c' hne => up_row_ne hne), we_3 hs]
  rw [h2] at hP1
  have e : vp_updL (fun k : Nat => Int64.ofInt (σ c k)) i.toNat (Int64.ofInt z) = fun k : Nat => Int64.ofInt (up σ c i z c k) := by
    funext k
    simp only [vp_updL, up_row]
    by_cases hk : k = i.toNat
    · rw [if_pos hk, if_pos (by omega)]
    · rw [if_neg hk, if_neg (by omega)]
  rw [← e]; exact hP1
theorem z_cast (h : Ok g x own cc nL dp) {c n : Nat} {l : List Nat} {i z : Int} (hs : sh c = (2, n, l)) (hi : 0 ≤ i ∧ i < n) (hn : n < 2147483648) (rz : 0 ≤ z ∧ z < 65536) (d : decode cc pc = .ok (.castore, 1)) (kk : Z g x nL (pc + 1) L S (up σ c i z)) : Z g x nL pc L (vI z :: vI i :: .ref (g.2.2.1 c) :: S) σ := by
  intro H locs ls hr hP hS hl
  obtain ⟨h1, h2⟩ := in_ok hi hn
  have hc := sh_lt hs (by decide)
  refine va_cast h.1 h.2.1 h.2.2.2.2.2.1 hP (h.2.2.2.2.2.2.1.D h.2.2.2.2.2.2.2.1 σ) hS c 1 (ws_at g σ hc |>.trans (by rw [we_2 hs])) rfl h1 d (fun H1 locs1 hP1 hD1 hS1 => ?_)
  refine kk H1 locs1 ls (Rn_up hr ⟨fun _ => by omega, by omega⟩) ?_ hS1 hl
  rw [← ws_set g σ (up σ c i z) hc (fun c' hne => up_row_ne hne), we_2 hs]
  rw [h2] at hP1
  have hz : vp_nar .char (Int32.ofInt z) = Int32.ofInt z := by
    obtain ⟨n, rfl⟩ : ∃ n : Nat, z = n := ⟨z.toNat, by omega⟩
    have := (pk_charN (q := n) (by omega)).1
    unfold vp_nar
    rw [show Int32.ofInt (n : Int) = nI n from rfl, this]
  rw [hz] at hP1
  have e : upd (fun k : Nat => Int32.ofInt (σ c k)) i.toNat (Int32.ofInt z) = fun k : Nat => Int32.ofInt (up σ c i z c k) := by
    funext k
    simp only [upd, up_row]
    by_cases hk : k = i.toNat
    · rw [if_pos hk, if_pos (by omega)]
    · rw [if_neg hk, if_neg (by omega)]
  rw [← e]; exact hP1
theorem z_alen1 (h : Ok g x own cc nL dp) {c n : Nat} {l : List Nat} (hs : sh c = (1, n, l)) (d : decode cc pc = .ok (.arraylength, 1)) (kk : Z g x nL (pc + 1) L (vI n :: S) σ) : Z g x nL pc L (.ref (g.2.2.1 c) :: S) σ := by
  intro H locs ls hr hP hS hl
  exact va_alen h.1 h.2.1 h.2.2.2.2.2.1 hP c 0 (ws_at g σ (sh_lt hs (by decide)) |>.trans (by rw [we_1 hs])) (ty := .int) rfl (v := Int32.ofInt n) rfl d (kk H locs ls hr hP hS hl)
def cp (σ : Sg) (a : Nat) (i : Int) (b : Nat) (j n : Int) : Sg := fun c k => if c = b then (if j ≤ k ∧ k < j + n then σ a (i + (k - j)) else σ b k) else σ c k
theorem cp_row {σ : Sg} {a b : Nat} {i j n : Int} : cp σ a i b j n b = fun k => if j ≤ k ∧ k < j + n then σ a (i + (k - j)) else σ b k := by
  funext k; simp [cp]
theorem cp_row_ne {σ : Sg} {a b c : Nat} {i j n : Int} (h : c ≠ b) : cp σ a i b j n c = σ c := by
  funext k; simp [cp, h]
theorem Rn_cp {σ : Sg} (h : Rn σ) {a b : Nat} {i j n : Int} (hl : ∀ k, lk a k = false ∨ lk b k = true) (hab : ∀ k k', lk b k = false → lk a k' = false) : Rn (cp σ a i b j n) := by
  intro c k
  by_cases h1 : c = b
  · subst h1
    rw [cp_row]
    dsimp only
    split
    · exact ⟨fun q => (h a _).1 (hab k _ q), (h a _).2⟩
    · exact h c k
  · rw [cp_row_ne h1]; exact h c k
theorem clamp_ok {i : Int} (h : 0 ≤ i ∧ i ≤ 2147483647) : (Int32.ofInt i).toNatClampNeg = i.toNat := by
  rw [← Int32.toNat_toInt, iI_toInt ⟨by omega, h.2⟩]
theorem nlt_ok {i : Int} (h : 0 ≤ i ∧ i ≤ 2147483647) : ¬ Int32.ofInt i < 0 := fun q => by have := (iI_lt0 ⟨by omega, h.2⟩).mp q; omega
/-- System.arraycopy as class own links it -/
def AC (own : String) (ix : Nat) : Prop := Cond.methodLink own ix arraycopyName ∈ lw_g ∧ Cond.native arraycopyName ∈ lw_g ∧ Cond.static arraycopyName ∈ lw_g ∧ Cond.initialized "java/lang/System" ∈ lw_g
theorem z_copyI (h : Ok g x own cc nL dp) {a b n0 n1 ix : Nat} {l0 l1 : List Nat} {i j n : Int} (ac : AC own ix) (hd : 1 ≤ dp) (ha : sh a = (1, n0, l0)) (hb : sh b = (1, n1, l1)) (h0 : n0 < 2147483648) (h1 : n1 < 2147483648) (hi : 0 ≤ i) (hj : 0 ≤ j) (hn : 0 ≤ n) (hin : i + n ≤ n0) (hjn : j + n ≤ n1) (hst : (S.map fun v => v.category).sum ≤ 8) (d : decode cc pc = .ok (.invokestatic ix, 3)) (kk : Z g x nL (pc + 3) L S (cp σ a i b j n)) : Z g x nL pc L (vI n :: vI j :: .ref (g.2.2.1 b) :: vI i :: .ref (g.2.2.1 a) :: S) σ := by
  intro H locs ls hr hP hS hl
  have hca := sh_lt ha (by decide)
  have hcb := sh_lt hb (by decide)
  have e1 := clamp_ok (i := i) ⟨hi, by omega⟩
  have e2 := clamp_ok (i := j) ⟨hj, by omega⟩
  have e3 := clamp_ok (i := n) ⟨hn, by omega⟩
  have hfr : 1 ≤ (xR x).frames := Nat.le_trans hd h.2.2.2.2.2.2.2.2.2.1
  have hlo : 40 * dp ≤ (xR x).locals := h.2.2.2.2.2.2.2.2.2.2.1
  refine va_copyi h.1 h.2.1 (by rw [hl.1]; exact h.2.2.1) h.2.2.2.1 (h.2.2.2.2.1 _ ac.1) (h.2.2.2.2.1 _ ac.2.1) (h.2.2.2.2.1 _ ac.2.2.1) (h.2.2.2.2.1 _ ac.2.2.2) h.2.2.2.2.2.1 hP (h.2.2.2.2.2.2.1.D h.2.2.2.2.2.2.2.1 σ) hS a b 0 0 (ws_at g σ hca |>.trans (by rw [we_1 ha])) (ws_at g σ hcb |>.trans (by rw [we_1 hb])) rfl rfl rfl (nlt_ok ⟨hi, by omega⟩) (nlt_ok ⟨hj, by omega⟩) (nlt_ok ⟨hn, by omega⟩) (by rw [e1, e3]; omega) (by rw [e2, e3]; omega) (fun _ _ => rfl) hfr (by show _ + (7 + 11) ≤ _; omega) d (fun H1 locs1 hP1 hD1 hS1 => ?_)
  refine kk H1 locs1 ls (Rn_cp hr (fun k => Or.inl (lk_1 k ha)) (fun _ k' _ => lk_1 k' ha)) ?_ hS1 hl
  rw [← ws_set g σ (cp σ a i b j n) hcb (fun c' hne => cp_row_ne hne), we_1 hb]
  rw [e1, e2, e3] at hP1
  have e : va_cpy (fun k : Nat => Int32.ofInt (σ a k)) (fun k : Nat => Int32.ofInt (σ b k)) i.toNat j.toNat n.toNat = fun k : Nat => Int32.ofInt (cp σ a i b j n b k) := by
    funext k
    simp only [va_cpy, cp_row]
    by_cases hk : j.toNat ≤ k ∧ k < j.toNat + n.toNat
    · rw [if_pos hk, if_pos (by omega)]
      congr 2; omega
    · rw [if_neg hk, if_neg (by omega)]
  rw [← e]; exact hP1
theorem lk_3 {c n : Nat} {l : List Nat} (k : Int) (hs : sh c = (3, n, l)) : lk c k = true := by
  unfold lk; rw [hs]; rfl
theorem z_copyL (h : Ok g x own cc nL dp) {a b n0 n1 ix : Nat} {l0 l1 : List Nat} {i j n : Int} (ac : AC own ix) (hd : 1 ≤ dp) (ha : sh a = (3, n0, l0)) (hb : sh b = (3, n1, l1)) (h0 : n0 < 2147483648) (h1 : n1 < 2147483648) (hi : 0 ≤ i) (hj : 0 ≤ j) (hn : 0 ≤ n) (hin : i + n ≤ n0) (hjn : j + n ≤ n1) (hst : (S.map fun v => v.category).sum ≤ 8) (d : decode cc pc = .ok (.invokestatic ix, 3)) (kk : Z g x nL (pc + 3) L S (cp σ a i b j n)) : Z g x nL pc L (vI n :: vI j :: .ref (g.2.2.1 b) :: vI i :: .ref (g.2.2.1 a) :: S) σ := by
  intro H locs ls hr hP hS hl
  have hca := sh_lt ha (by decide)
  have hcb := sh_lt hb (by decide)
  have e1 := clamp_ok (i := i) ⟨hi, by omega⟩
  have e2 := clamp_ok (i := j) ⟨hj, by omega⟩
  have e3 := clamp_ok (i := n) ⟨hn, by omega⟩
  have hfr : 1 ≤ (xR x).frames := Nat.le_trans hd h.2.2.2.2.2.2.2.2.2.1
  have hlo : 40 * dp ≤ (xR x).locals := h.2.2.2.2.2.2.2.2.2.2.1
  refine va_copyl h.1 h.2.1 (by rw [hl.1]; exact h.2.2.1) h.2.2.2.1 (h.2.2.2.2.1 _ ac.1) (h.2.2.2.2.1 _ ac.2.1) (h.2.2.2.2.1 _ ac.2.2.1) (h.2.2.2.2.1 _ ac.2.2.2) h.2.2.2.2.2.1 hP (h.2.2.2.2.2.2.1.D h.2.2.2.2.2.2.2.1 σ) hS a b 2 2 (ws_at g σ hca |>.trans (by rw [we_3 ha])) (ws_at g σ hcb |>.trans (by rw [we_3 hb])) rfl rfl rfl (nlt_ok ⟨hi, by omega⟩) (nlt_ok ⟨hj, by omega⟩) (nlt_ok ⟨hn, by omega⟩) (by rw [e1, e3]; omega) (by rw [e2, e3]; omega) (fun _ _ => rfl) hfr (by show _ + (7 + 11) ≤ _; omega) d (fun H1 locs1 hP1 hD1 hS1 => ?_)
  refine kk H1 locs1 ls (Rn_cp hr (fun k => Or.inr (lk_3 k hb)) (fun k _ q => by rw [lk_3 k hb] at q; cases q)) ?_ hS1 hl
  rw [← ws_set g σ (cp σ a i b j n) hcb (fun c' hne => cp_row_ne hne), we_3 hb]
  rw [e1, e2, e3] at hP1
  have e : va_cpy (fun k : Nat => Int64.ofInt (σ a k)) (fun k : Nat => Int64.ofInt (σ b k)) i.toNat j.toNat n.toNat = fun k : Nat => Int64.ofInt (cp σ a i b j n b k) := by
    funext k
    simp only [va_cpy, cp_row]
    by_cases hk : j.toNat ≤ k ∧ k < j.toNat + n.toNat
    · rw [if_pos hk, if_pos (by omega)]
      congr 2; omega
    · rw [if_neg hk, if_neg (by omega)]
  rw [← e]; exact hP1
/-- Math.max as class own links it -/
def MX (own : String) (ix : Nat) : Prop := Cond.methodLink own ix Lib.Math.max.name ∈ lw_g ∧ Cond.static Lib.Math.max.name ∈ lw_g ∧ Cond.initialized "java/lang/Math" ∈ lw_g ∧ Cond.code Lib.Math.max.name Lib.Math.max.code 2 (some .int) ∈ lw_g
theorem z_max (h : Ok g x own cc nL dp) {ix : Nat} {a b : Int} (mx : MX own ix) (hd : 1 ≤ dp) (ra : -2147483648 ≤ a ∧ a ≤ 2147483647) (rb : -2147483648 ≤ b ∧ b ≤ 2147483647) (hst : (S.map fun v => v.category).sum ≤ 8) (d : decode cc pc = .ok (.invokestatic ix, 3)) (kk : Z g x nL (pc + 3) L (vI (max a b) :: S) σ) : Z g x nL pc L (vI b :: vI a :: S) σ := by
  intro H locs ls hr hP hS hl
  have hfr : 1 ≤ (xR x).frames := Nat.le_trans hd h.2.2.2.2.2.2.2.2.2.1
  have hlo : 40 * dp ≤ (xR x).locals := h.2.2.2.2.2.2.2.2.2.2.1
  refine va_mmax h.1 h.2.1 (by rw [hl.1]; exact h.2.2.1) h.2.2.2.1 (h.2.2.2.2.1 _ mx.1) (h.2.2.2.2.1 _ mx.2.1) (h.2.2.2.2.1 _ mx.2.2.1) (h.2.2.2.2.1 _ mx.2.2.2) hfr (by omega) h.2.2.2.2.2.2.2.2.2.2.2.1 h.2.2.2.2.2.2.2.2.2.2.2.2 d ?_
  have e : (if Int32.ofInt a < Int32.ofInt b then Int32.ofInt b else Int32.ofInt a) = Int32.ofInt (max a b) := by
    by_cases q : a < b
    · rw [if_pos ((iI_lt ra rb).mpr q), Int.max_def, if_pos (by omega)]
    · rw [if_neg (fun z => q ((iI_lt ra rb).mp z)), Int.max_def]
      by_cases q2 : a ≤ b
      · rw [if_pos q2]; congr 1; omega
      · rw [if_neg q2]
  rw [e]
  exact kk H locs ls hr hP hS hl
end ZF
end
section
/-! ===== methods by contract over the world ===== -/
def rmD (d : Nat) : Room := { frames := d, cells := 0, slots := 0, locals := 40 * d }
def wOf (I : MI) : List Cond := Cond.code I.1 I.2.1 I.2.2.1 I.2.2.2.1 :: lw_g
def Bst (g : G) (σ : Sg) (U : State) : Prop := Rn σ ∧ va_P g.2.1 vwCl (ws g σ) U.heap ∧ va_K g.2.1 vwCl (gty g) U ∧ Dj g
def Qm (g : G) (post : List Value → Sg → Prop) (sz : Nat) : Array Value → State → Outcome → State → Prop := fun _ st oc t => (∃ (v : Option Value) (σ' : Sg), oc = .returned v ∧ post v.toList σ' ∧ Bst g σ' t) ∧ va_F (Aa g sz) st t
/-- called with these values over a world that holds σ, the method returns; what it answers and what the world holds then meet post; nothing else has changed -/
def MM (g : G) (I : MI) (av : List Value) (σ : Sg) (post : List Value → Sg → Prop) : Prop := ∀ sz : Nat, Met g.1 I.1 (wOf I) (rmD I.2.2.2.2) (va_Pc av (fun U => U.heap.size = sz ∧ Bst g σ U)) (Qm g post sz) 0 0 (Aa g sz)
def Rt (g : G) (x : Cx) (ret : Option FieldType) (post : List Value → Sg → Prop) : Prop :=
  xQ x = MQ (xb x) (Qm g post (xs x).heap.size) (xa x) (xs x) (xk x) (xn x) (Aa g (xs x).heap.size) ∧ xA x = Aa g (xs x).heap.size ∧ (xt x).sig.returnType = ret ∧ (xt x).locks = false
theorem lw_ggood {w : Cond} (h : w ∈ lw_g) : GoodIn lw_g [w] := fun v hv => by
  rw [List.mem_singleton.mp hv]; exact ⟨h, good_of_word (List.mem_filter.mp h).2⟩
theorem lw_gIn {l : List Cond} (h : ∀ w ∈ l, w ∈ lw_g) : GoodIn lw_g l := fun v hv => ⟨h v hv, good_of_word (List.mem_filter.mp (h v hv)).2⟩
theorem mm_of {g : G} {I : MI} {av : List Value} {σ : Sg} {post : List Value → Sg → Prop} {own : String} {cc : ByteArray} {nL dp : Nat} {ret : Option FieldType} {y : MethodName} {L : List (Nat × Value)} (hI : I = (y, cc, nL, ret, dp)) (hp : plainName y.cls = true) (ho : y.cls = own) (hL : lv_args 0 av = L) (hlen : (lg_sl av).length ≤ nL)
    (k : ∀ x : Cx, Ok g x own cc nL dp → Rt g x ret post → Z g x nL 0 L [] σ) : MM g I av σ post := by
  subst hI; subst ho
  intro sz
  refine Met.ofW (cc := cc) (maxL := nL) (ret := ret) hp rfl ?_
  intro p e s m args below meth c s₁ B hml hv
  obtain ⟨rfl, hsz, hr, hP, hK, hj⟩ := hv
  subst hsz
  have hts := atoms_spec (ws := Cond.code y cc nL ret :: lw_g) B.pre
  have hown : s.vm.findClass y.cls = some m.cls := findClass_of_methodNamed B.named
  have hl := lv_entry av (n := nL) hlen
  rw [hL] at hl
  rw [lg_entry_eq]
  let x : Cx := (p, e, rmD dp, s, m, av.toArray, below, meth, c, 0, 0, MQ below (Qm g post s.heap.size) av.toArray s 0 0 (Aa g s.heap.size), Aa g s.heap.size)
  have ok : Ok g x y.cls cc nL dp := ⟨B.exec, B.bytes, hml, hown, fun w hw => hts w (List.mem_cons_of_mem _ hw), hK, hj, fun c hc => Or.inl ⟨c, hc, rfl⟩, fun q hq => Or.inr hq, Nat.le_refl _, Nat.le_refl _, Nat.le_refl _, Nat.le_refl _⟩
  have rt : Rt g x ret post := ⟨rfl, rfl, B.returns, B.notSynchronized⟩
  exact k x ok rt s.heap [] _ hr hP va_S.rf hl
section ZM
variable {g : G} {x : Cx} {own : String} {cc : ByteArray} {nL dp pc : Nat} {L L' : List (Nat × Value)} {S : List Value} {σ : Sg} {post : List Value → Sg → Prop}
theorem z_iret (h : Ok g x own cc nL dp) {z : Int} (r : Rt g x (some .int) post) (d : decode cc pc = .ok (.ireturn, 1)) (hp : post [vI z] σ) : Z g x nL pc L [vI z] σ := by
  intro H locs ls hr hP hS hl
  obtain ⟨r1, r2, r3, r4⟩ := r
  unfold Wx
  rw [r1]
  rw [r2] at hS
  exact W.iret h.1 h.2.1 r3 (fun t ht hW => ⟨⟨some (vI z), σ, rfl, hp, hr, by rw [ht]; exact hP, va_K.moved hW.alike h.2.2.2.2.2.1, h.2.2.2.2.2.2.1⟩, hS.F ht⟩) hS.2.2 d r4
theorem z_zret (h : Ok g x own cc nL dp) {z : Int} (r : Rt g x (some .boolean) post) (d : decode cc pc = .ok (.ireturn, 1)) (hz : z = 0 ∨ z = 1) (hp : post [vI z] σ) : Z g x nL pc L [vI z] σ := by
  intro H locs ls hr hP hS hl
  obtain ⟨r1, r2, r3, r4⟩ := r
  unfold Wx
  rw [r1]
  rw [r2] at hS
  exact W.zret h.1 h.2.1 r3 (by rcases hz with rfl | rfl <;> decide) (fun t ht hW => ⟨⟨some (vI z), σ, rfl, hp, hr, by rw [ht]; exact hP, va_K.moved hW.alike h.2.2.2.2.2.1, h.2.2.2.2.2.2.1⟩, hS.F ht⟩) hS.2.2 d r4
theorem z_lret (h : Ok g x own cc nL dp) {z : Int} (r : Rt g x (some .long) post) (d : decode cc pc = .ok (.lreturn, 1)) (hp : post [vL z] σ) : Z g x nL pc L [vL z] σ := by
  intro H locs ls hr hP hS hl
  obtain ⟨r1, r2, r3, r4⟩ := r
  unfold Wx
  rw [r1]
  rw [r2] at hS
  exact W.lret h.1 h.2.1 r3 (fun t ht hW => ⟨⟨some (vL z), σ, rfl, hp, hr, by rw [ht]; exact hP, va_K.moved hW.alike h.2.2.2.2.2.1, h.2.2.2.2.2.2.1⟩, hS.F ht⟩) hS.2.2 d r4
theorem z_vret (h : Ok g x own cc nL dp) (r : Rt g x none post) (d : decode cc pc = .ok (.return_, 1)) (hp : post [] σ) : Z g x nL pc L [] σ := by
  intro H locs ls hr hP hS hl
  obtain ⟨r1, r2, r3, r4⟩ := r
  unfold Wx
  rw [r1]
  rw [r2] at hS
  exact W.vret h.1 h.2.1 r3 (fun t ht hW => ⟨⟨none, σ, rfl, hp, hr, by rw [ht]; exact hP, va_K.moved hW.alike h.2.2.2.2.2.1, h.2.2.2.2.2.2.1⟩, hS.F ht⟩) hS.2.2 d r4
/-- invokevirtual index in class own calls I, of n parameters -/
def CV (own : String) (ix : Nat) (I : MI) (n : Nat) : Prop := (Cond.methodLink own ix I.1 ∈ lw_g ∧ Cond.instanceMethod I.1 ∈ lw_g ∧ Cond.selects I.1.cls I.1 I.1 ∈ lw_g ∧ Cond.initialized I.1.cls ∈ lw_g) ∧ Cond.code I.1 I.2.1 I.2.2.1 I.2.2.2.1 ∈ lw_g ∧ I.1.cls ≠ "java/lang/invoke/MethodHandle" ∧ I.1.cls ≠ "java/lang/invoke/VarHandle" ∧ (parseMethodDescriptor I.1.desc).map (fun d => d.parameters.length) = some n ∧ I.2.2.1 ≤ 21
def CS (own : String) (ix : Nat) (I : MI) (n : Nat) : Prop := (Cond.methodLink own ix I.1 ∈ lw_g ∧ Cond.static I.1 ∈ lw_g ∧ Cond.initialized I.1.cls ∈ lw_g) ∧ Cond.code I.1 I.2.1 I.2.2.1 I.2.2.2.1 ∈ lw_g ∧ I.1.cls ≠ "java/lang/invoke/MethodHandle" ∧ I.1.cls ≠ "java/lang/invoke/VarHandle" ∧ (parseMethodDescriptor I.1.desc).map (fun d => d.parameters.length) = some n ∧ I.2.2.1 ≤ 21
theorem blind {g : G} {σ : Sg} {sz : Nat} {av : List Value} : FrameBlind (va_Pc av (fun U => U.heap.size = sz ∧ Bst g σ U)) := by
  intro a U g' mk q
  obtain ⟨q0, q1, qr, qP, qK, qD⟩ := q
  exact ⟨q0, q1, qr, qP, va_K.moved (u := U) (U := U.calling g' mk a) (Vm.Alike.refl U.vm) qK, qD⟩
theorem z_back (h : Ok g x own cc nL dp) {H : Heap} {locs : List Loc} {ls : Array Slot} {st0 : List Value} {a : Array Value} (hS : va_S (xA x) (xs x).heap H locs) (hl : lv_has ls nL L)
    (hrun : va_Run (xp x) g.1 (xe x) (xR x) (xs x) (xm x) (xa x) (xb x) (xt x) (xc x) H locs (xk x) (xn x) 0 0 (F0 (xm x) pc ls st0) S (Qm g post H.size a) (Aa g H.size)) (kk : ∀ (rv : List Value) (σ' : Sg), post rv σ' → Z g x nL (pc + 3) L (rv ++ S) σ') : Wx g x H locs (F0 (xm x) pc ls st0) := by
  intro T hT X
  obtain ⟨v, st₀, t, T', Lc, h0, X', hL, e1, e2, ⟨⟨v', σ', hv, hp, hr', hP', hK', hj'⟩, hz, hk⟩, st⟩ := hrun T hT X
  cases hv
  rw [h0] at hz hk
  have hAA : ∀ q, Aa g H.size q → xA x q := by
    rintro q (⟨c, hc, rfl⟩ | hq)
    · exact h.2.2.2.2.2.2.2.1 c hc
    · exact h.2.2.2.2.2.2.2.2.1 q (Nat.le_trans hS.1 hq)
  obtain ⟨t2, a1, b1⟩ := kk v.toList σ' hp T'.heap (locs ++ Lc) ls hr' (by rw [e1]; exact hP')
    ⟨Nat.le_trans hS.1 (by rw [e1]; exact hz), fun q h1 h2 => by rw [e1, hk q (Nat.lt_of_lt_of_le h1 hS.1) (fun z => h2 (hAA q z))]; exact hS.2.1 q h1 h2, fun q hq => by
      rcases List.mem_append.mp hq with h | h
      · exact hS.2.2 q h
      · exact hAA _ (hL q h)⟩ hl T' rfl X'
  exact ⟨t2, st t2 a1, b1⟩
theorem z_callV (h : Ok g x own cc nL dp) {I : MI} {ix n ci b N : Nat} {fl : List Nat} {T : u_T} {As : List Value} {st : List Value} (M : MM g I (.ref (g.2.2.1 b) :: As) σ post) (cv : CV own ix I n) (hs : sh b = (0, ci, fl)) (hcl : vwCl[ci]? = some (I.1.cls, T, N)) (hn : As.length = n) (hst : As.reverse ++ .ref (g.2.2.1 b) :: S = st) (hd : I.2.2.2.2 < dp) (hsum : (S.map fun v => v.category).sum ≤ 8) (d : decode cc pc = .ok (.invokevirtual ix, 3)) (kk : ∀ (rv : List Value) (σ' : Sg), post rv σ' → Z g x nL (pc + 3) L (rv ++ S) σ') : Z g x nL pc L st σ := by
  subst hst
  intro H locs ls hr hP hS hl
  obtain ⟨⟨c1, c2, c3, c4⟩, c5, c6, c7, c8, c9⟩ := cv
  have hfr : dp ≤ (xR x).frames := h.2.2.2.2.2.2.2.2.2.1
  have hlo : 40 * dp ≤ (xR x).locals := h.2.2.2.2.2.2.2.2.2.2.1
  refine z_back (a := (Value.ref (g.2.2.1 b) :: As).toArray) h hS hl ?_ kk
  refine va_runV (Ts := lw_g) (ws := wOf I) (rm := rmD I.2.2.2.2) (nL := nL) (C := I.1.cls) (bytes := I.2.1) (maxL := I.2.2.1) (ret := I.2.2.2.1) (n := n) (As := As) ⟨h.1, h.2.1, h.2.2.1, h.2.2.2.1, h.2.2.2.2.1⟩ (M H.size) (cwV n h.2.2.2.2.1 (lw_gIn (fun w hw => ?_)) rfl rfl rfl ⟨rfl, c6, c7, c8⟩ ⟨?_, ?_⟩) ⟨blind, va_recv h.2.2.2.2.2.1 hP hcl (ws_at g σ (sh_lt hs (by decide)) |>.trans (by rw [we_0 hs])), fun U hU hW => ⟨rfl, by rw [hU], hr, by rw [hU]; exact hP, va_K.moved hW.alike h.2.2.2.2.2.1, h.2.2.2.2.2.2.1⟩⟩ rfl hn hl.1 rfl (lv_room hsum) d ⟨h.2.2.2.2.2.2.2.2.2.2.2.1, h.2.2.2.2.2.2.2.2.2.2.2.2⟩
  · rcases List.mem_append.mp hw with q | q
    · simp only [List.mem_cons, List.not_mem_nil, or_false] at q
      rcases q with rfl | rfl | rfl | rfl <;> assumption
    · rcases List.mem_cons.mp q with rfl | q
      · exact c5
      · exact q
  · show I.2.2.2.2 + 1 ≤ _; omega
  · show 8 + (I.2.2.1 + 11) + 40 * I.2.2.2.2 ≤ _; omega
theorem z_callS (h : Ok g x own cc nL dp) {I : MI} {ix n : Nat} {As : List Value} {st : List Value} (M : MM g I As σ post) (cv : CS own ix I n) (hn : As.length = n) (hst : As.reverse ++ S = st) (hd : I.2.2.2.2 < dp) (hsum : (S.map fun v => v.category).sum ≤ 8) (d : decode cc pc = .ok (.invokestatic ix, 3)) (kk : ∀ (rv : List Value) (σ' : Sg), post rv σ' → Z g x nL (pc + 3) L (rv ++ S) σ') : Z g x nL pc L st σ := by
  subst hst
  intro H locs ls hr hP hS hl
  obtain ⟨⟨c1, c2, c4⟩, c5, c6, c7, c8, c9⟩ := cv
  have hfr : dp ≤ (xR x).frames := h.2.2.2.2.2.2.2.2.2.1
  have hlo : 40 * dp ≤ (xR x).locals := h.2.2.2.2.2.2.2.2.2.2.1
  refine z_back (a := As.toArray) h hS hl ?_ kk
  refine va_runS (Ts := lw_g) (ws := wOf I) (rm := rmD I.2.2.2.2) (nL := nL) (bytes := I.2.1) (maxL := I.2.2.1) (ret := I.2.2.2.1) (n := n) (As := As) ⟨h.1, h.2.1, h.2.2.1, h.2.2.2.1, h.2.2.2.2.1⟩ (M H.size) (va_cwS n h.2.2.2.2.1 (lw_gIn (fun w hw => ?_)) rfl rfl rfl ⟨c6, c7, c8⟩ ⟨?_, ?_⟩) ⟨blind, fun U hU hW => ⟨rfl, by rw [hU], hr, by rw [hU]; exact hP, va_K.moved hW.alike h.2.2.2.2.2.1, h.2.2.2.2.2.2.1⟩⟩ rfl hn hl.1 rfl (lv_room hsum) d ⟨h.2.2.2.2.2.2.2.2.2.2.2.1, h.2.2.2.2.2.2.2.2.2.2.2.2⟩
  · rcases List.mem_append.mp hw with q | q
    · simp only [List.mem_cons, List.not_mem_nil, or_false] at q
      rcases q with rfl | rfl | rfl <;> assumption
    · rcases List.mem_cons.mp q with rfl | q
      · exact c5
      · exact q
  · show I.2.2.2.2 + 1 ≤ _; omega
  · show 8 + (I.2.2.1 + 11) + 40 * I.2.2.2.2 ≤ _; omega
end ZM
end
section
theorem fl_X8_12 : FL RX8 12 7 0 := ⟨_, _, _, rfl, by decide, in_X8, (lw_gin 333 (by decide +kernel) (by decide +kernel))⟩
theorem fl_X8_16 : FL RX8 16 7 1 := ⟨_, _, _, rfl, by decide, in_X8, (lw_gin 334 (by decide +kernel) (by decide +kernel))⟩
theorem fl_X8_22 : FL RX8 22 7 2 := ⟨_, _, _, rfl, by decide, in_X8, (lw_gin 335 (by decide +kernel) (by decide +kernel))⟩
theorem fl_X8_26 : FL RX8 26 7 3 := ⟨_, _, _, rfl, by decide, in_X8, (lw_gin 336 (by decide +kernel) (by decide +kernel))⟩
theorem fl_X8_29 : FL RX8 29 7 4 := ⟨_, _, _, rfl, by decide, in_X8, (lw_gin 337 (by decide +kernel) (by decide +kernel))⟩
theorem fl_X8_35 : FL RX8 35 7 5 := ⟨_, _, _, rfl, by decide, in_X8, (lw_gin 338 (by decide +kernel) (by decide +kernel))⟩
theorem fl_X8_44 : FL RX8 44 7 6 := ⟨_, _, _, rfl, by decide, in_X8, (lw_gin 339 (by decide +kernel) (by decide +kernel))⟩
theorem fl_X8_50 : FL RX8 50 7 7 := ⟨_, _, _, rfl, by decide, in_X8, (lw_gin 340 (by decide +kernel) (by decide +kernel))⟩
theorem fl_X8_59 : FL RX8 59 3 1 := ⟨_, _, _, rfl, by decide, in_X4, (lw_gin 156 (by decide +kernel) (by decide +kernel))⟩
theorem fl_X8_79 : FL RX8 79 1 0 := ⟨_, _, _, rfl, by decide, in_X2, (lw_gin 90 (by decide +kernel) (by decide +kernel))⟩
theorem fl_X8_83 : FL RX8 83 1 1 := ⟨_, _, _, rfl, by decide, in_X2, (lw_gin 93 (by decide +kernel) (by decide +kernel))⟩
theorem fl_X8_86 : FL RX8 86 1 2 := ⟨_, _, _, rfl, by decide, in_X2, (lw_gin 97 (by decide +kernel) (by decide +kernel))⟩
theorem fl_X8_89 : FL RX8 89 1 3 := ⟨_, _, _, rfl, by decide, in_X2, (lw_gin 102 (by decide +kernel) (by decide +kernel))⟩
theorem fl_X8_92 : FL RX8 92 1 4 := ⟨_, _, _, rfl, by decide, in_X2, (lw_gin 105 (by decide +kernel) (by decide +kernel))⟩
theorem fl_X8_95 : FL RX8 95 1 5 := ⟨_, _, _, rfl, by decide, in_X2, (lw_gin 108 (by decide +kernel) (by decide +kernel))⟩
theorem fl_X8_119 : FL RX8 119 2 2 := ⟨_, _, _, rfl, by decide, in_X3, (lw_gin 140 (by decide +kernel) (by decide +kernel))⟩
theorem fl_X8_163 : FL RX8 163 1 6 := ⟨_, _, _, rfl, by decide, in_X2, (lw_gin 111 (by decide +kernel) (by decide +kernel))⟩
theorem fl_X8_193 : FL RX8 193 7 8 := ⟨_, _, _, rfl, by decide, in_X8, (lw_gin 341 (by decide +kernel) (by decide +kernel))⟩
theorem fl_X8_218 : FL RX8 218 4 1 := ⟨_, _, _, rfl, by decide, in_X5, (lw_gin 323 (by decide +kernel) (by decide +kernel))⟩
theorem fl_X8_221 : FL RX8 221 4 2 := ⟨_, _, _, rfl, by decide, in_X5, (lw_gin 325 (by decide +kernel) (by decide +kernel))⟩
theorem fl_X8_225 : FL RX8 225 4 0 := ⟨_, _, _, rfl, by decide, in_X5, (lw_gin 321 (by decide +kernel) (by decide +kernel))⟩
theorem cs_X8_122 : CS RX8 122 mX8_isWord 1 := ⟨⟨(lw_gin 622 (by decide +kernel) (by decide +kernel)), (lw_gin 623 (by decide +kernel) (by decide +kernel)), (lw_gin 61 (by decide +kernel) (by decide +kernel))⟩, (lw_gin 624 (by decide +kernel) (by decide +kernel)), by decide +kernel, by decide +kernel, by decide +kernel, by decide⟩
theorem cs_X8_125 : CS RX8 125 mX8_isCost 1 := ⟨⟨(lw_gin 625 (by decide +kernel) (by decide +kernel)), (lw_gin 626 (by decide +kernel) (by decide +kernel)), (lw_gin 61 (by decide +kernel) (by decide +kernel))⟩, (lw_gin 627 (by decide +kernel) (by decide +kernel)), by decide +kernel, by decide +kernel, by decide +kernel, by decide⟩
theorem cs_X8_197 : CS RX8 197 mX8_isSheet 1 := ⟨⟨(lw_gin 774 (by decide +kernel) (by decide +kernel)), (lw_gin 775 (by decide +kernel) (by decide +kernel)), (lw_gin 61 (by decide +kernel) (by decide +kernel))⟩, (lw_gin 776 (by decide +kernel) (by decide +kernel)), by decide +kernel, by decide +kernel, by decide +kernel, by decide⟩
theorem cs_X8_200 : CS RX8 200 mX8_isLane 1 := ⟨⟨(lw_gin 777 (by decide +kernel) (by decide +kernel)), (lw_gin 778 (by decide +kernel) (by decide +kernel)), (lw_gin 61 (by decide +kernel) (by decide +kernel))⟩, (lw_gin 779 (by decide +kernel) (by decide +kernel)), by decide +kernel, by decide +kernel, by decide +kernel, by decide⟩
theorem ac_X8_229 : AC RX8 229 := ⟨(lw_gin 829 (by decide +kernel) (by decide +kernel)), (lw_gin 432 (by decide +kernel) (by decide +kernel)), (lw_gin 431 (by decide +kernel) (by decide +kernel)), (lw_gin 70 (by decide +kernel) (by decide +kernel))⟩
theorem cv_X8_55 : CV RX8 55 mX4_write 1 := ⟨⟨(lw_gin 365 (by decide +kernel) (by decide +kernel)), (lw_gin 366 (by decide +kernel) (by decide +kernel)), (lw_gin 367 (by decide +kernel) (by decide +kernel)), (lw_gin 64 (by decide +kernel) (by decide +kernel))⟩, (lw_gin 368 (by decide +kernel) (by decide +kernel)), by decide +kernel, by decide +kernel, by decide +kernel, by decide⟩
theorem cv_X8_63 : CV RX8 63 mX4_read 1 := ⟨⟨(lw_gin 373 (by decide +kernel) (by decide +kernel)), (lw_gin 374 (by decide +kernel) (by decide +kernel)), (lw_gin 375 (by decide +kernel) (by decide +kernel)), (lw_gin 64 (by decide +kernel) (by decide +kernel))⟩, (lw_gin 376 (by decide +kernel) (by decide +kernel)), by decide +kernel, by decide +kernel, by decide +kernel, by decide⟩
theorem cv_X8_67 : CV RX8 67 mX8_tellAnew 0 := ⟨⟨(lw_gin 422 (by decide +kernel) (by decide +kernel)), (lw_gin 424 (by decide +kernel) (by decide +kernel)), (lw_gin 3 (by decide +kernel) (by decide +kernel)), (lw_gin 61 (by decide +kernel) (by decide +kernel))⟩, (lw_gin 425 (by decide +kernel) (by decide +kernel)), by decide +kernel, by decide +kernel, by decide +kernel, by decide⟩
theorem cv_X8_72 : CV RX8 72 mX2_spell 1 := ⟨⟨(lw_gin 442 (by decide +kernel) (by decide +kernel)), (lw_gin 443 (by decide +kernel) (by decide +kernel)), (lw_gin 444 (by decide +kernel) (by decide +kernel)), (lw_gin 62 (by decide +kernel) (by decide +kernel))⟩, (lw_gin 445 (by decide +kernel) (by decide +kernel)), by decide +kernel, by decide +kernel, by decide +kernel, by decide⟩
theorem cv_X8_76 : CV RX8 76 mX2_isSlot 1 := ⟨⟨(lw_gin 456 (by decide +kernel) (by decide +kernel)), (lw_gin 406 (by decide +kernel) (by decide +kernel)), (lw_gin 407 (by decide +kernel) (by decide +kernel)), (lw_gin 62 (by decide +kernel) (by decide +kernel))⟩, (lw_gin 408 (by decide +kernel) (by decide +kernel)), by decide +kernel, by decide +kernel, by decide +kernel, by decide⟩
theorem cv_X8_98 : CV RX8 98 mX6_saidOnes 0 := ⟨⟨(lw_gin 461 (by decide +kernel) (by decide +kernel)), (lw_gin 462 (by decide +kernel) (by decide +kernel)), (lw_gin 463 (by decide +kernel) (by decide +kernel)), (lw_gin 65 (by decide +kernel) (by decide +kernel))⟩, (lw_gin 464 (by decide +kernel) (by decide +kernel)), by decide +kernel, by decide +kernel, by decide +kernel, by decide⟩
theorem cv_X8_101 : CV RX8 101 mX6_soundOnes 0 := ⟨⟨(lw_gin 536 (by decide +kernel) (by decide +kernel)), (lw_gin 537 (by decide +kernel) (by decide +kernel)), (lw_gin 538 (by decide +kernel) (by decide +kernel)), (lw_gin 65 (by decide +kernel) (by decide +kernel))⟩, (lw_gin 539 (by decide +kernel) (by decide +kernel)), by decide +kernel, by decide +kernel, by decide +kernel, by decide⟩
theorem cv_X8_104 : CV RX8 104 mX6_countedOnes 0 := ⟨⟨(lw_gin 540 (by decide +kernel) (by decide +kernel)), (lw_gin 541 (by decide +kernel) (by decide +kernel)), (lw_gin 542 (by decide +kernel) (by decide +kernel)), (lw_gin 65 (by decide +kernel) (by decide +kernel))⟩, (lw_gin 543 (by decide +kernel) (by decide +kernel)), by decide +kernel, by decide +kernel, by decide +kernel, by decide⟩
theorem cv_X8_107 : CV RX8 107 mX6_lookAt 0 := ⟨⟨(lw_gin 562 (by decide +kernel) (by decide +kernel)), (lw_gin 563 (by decide +kernel) (by decide +kernel)), (lw_gin 564 (by decide +kernel) (by decide +kernel)), (lw_gin 65 (by decide +kernel) (by decide +kernel))⟩, (lw_gin 565 (by decide +kernel) (by decide +kernel)), by decide +kernel, by decide +kernel, by decide +kernel, by decide⟩
theorem cv_X8_110 : CV RX8 110 mX6_questions 0 := ⟨⟨(lw_gin 573 (by decide +kernel) (by decide +kernel)), (lw_gin 574 (by decide +kernel) (by decide +kernel)), (lw_gin 575 (by decide +kernel) (by decide +kernel)), (lw_gin 65 (by decide +kernel) (by decide +kernel))⟩, (lw_gin 576 (by decide +kernel) (by decide +kernel)), by decide +kernel, by decide +kernel, by decide +kernel, by decide⟩
theorem cv_X8_113 : CV RX8 113 mX6_nextCost 0 := ⟨⟨(lw_gin 605 (by decide +kernel) (by decide +kernel)), (lw_gin 606 (by decide +kernel) (by decide +kernel)), (lw_gin 607 (by decide +kernel) (by decide +kernel)), (lw_gin 65 (by decide +kernel) (by decide +kernel))⟩, (lw_gin 608 (by decide +kernel) (by decide +kernel)), by decide +kernel, by decide +kernel, by decide +kernel, by decide⟩
theorem cv_X8_116 : CV RX8 116 mX6_spoilt 0 := ⟨⟨(lw_gin 609 (by decide +kernel) (by decide +kernel)), (lw_gin 610 (by decide +kernel) (by decide +kernel)), (lw_gin 611 (by decide +kernel) (by decide +kernel)), (lw_gin 65 (by decide +kernel) (by decide +kernel))⟩, (lw_gin 612 (by decide +kernel) (by decide +kernel)), by decide +kernel, by decide +kernel, by decide +kernel, by decide⟩
theorem cv_X8_128 : CV RX8 128 mX8_keepForUndo 0 := ⟨⟨(lw_gin 628 (by decide +kernel) (by decide +kernel)), (lw_gin 630 (by decide +kernel) (by decide +kernel)), (lw_gin 22 (by decide +kernel) (by decide +kernel)), (lw_gin 61 (by decide +kernel) (by decide +kernel))⟩, (lw_gin 631 (by decide +kernel) (by decide +kernel)), by decide +kernel, by decide +kernel, by decide +kernel, by decide⟩
theorem cv_X8_131 : CV RX8 131 mX2_grow 2 := ⟨⟨(lw_gin 641 (by decide +kernel) (by decide +kernel)), (lw_gin 410 (by decide +kernel) (by decide +kernel)), (lw_gin 411 (by decide +kernel) (by decide +kernel)), (lw_gin 62 (by decide +kernel) (by decide +kernel))⟩, (lw_gin 412 (by decide +kernel) (by decide +kernel)), by decide +kernel, by decide +kernel, by decide +kernel, by decide⟩
theorem cv_X8_135 : CV RX8 135 mX2_find 2 := ⟨⟨(lw_gin 646 (by decide +kernel) (by decide +kernel)), (lw_gin 402 (by decide +kernel) (by decide +kernel)), (lw_gin 403 (by decide +kernel) (by decide +kernel)), (lw_gin 62 (by decide +kernel) (by decide +kernel))⟩, (lw_gin 404 (by decide +kernel) (by decide +kernel)), by decide +kernel, by decide +kernel, by decide +kernel, by decide⟩
theorem cv_X8_139 : CV RX8 139 mX2_widen 3 := ⟨⟨(lw_gin 647 (by decide +kernel) (by decide +kernel)), (lw_gin 414 (by decide +kernel) (by decide +kernel)), (lw_gin 415 (by decide +kernel) (by decide +kernel)), (lw_gin 62 (by decide +kernel) (by decide +kernel))⟩, (lw_gin 416 (by decide +kernel) (by decide +kernel)), by decide +kernel, by decide +kernel, by decide +kernel, by decide⟩
theorem cv_X8_143 : CV RX8 143 mX2_cut 1 := ⟨⟨(lw_gin 652 (by decide +kernel) (by decide +kernel)), (lw_gin 653 (by decide +kernel) (by decide +kernel)), (lw_gin 654 (by decide +kernel) (by decide +kernel)), (lw_gin 62 (by decide +kernel) (by decide +kernel))⟩, (lw_gin 655 (by decide +kernel) (by decide +kernel)), by decide +kernel, by decide +kernel, by decide +kernel, by decide⟩
theorem cv_X8_147 : CV RX8 147 mX2_narrowTo 2 := ⟨⟨(lw_gin 660 (by decide +kernel) (by decide +kernel)), (lw_gin 661 (by decide +kernel) (by decide +kernel)), (lw_gin 662 (by decide +kernel) (by decide +kernel)), (lw_gin 62 (by decide +kernel) (by decide +kernel))⟩, (lw_gin 663 (by decide +kernel) (by decide +kernel)), by decide +kernel, by decide +kernel, by decide +kernel, by decide⟩
theorem cv_X8_151 : CV RX8 151 mX2_turn 0 := ⟨⟨(lw_gin 676 (by decide +kernel) (by decide +kernel)), (lw_gin 677 (by decide +kernel) (by decide +kernel)), (lw_gin 678 (by decide +kernel) (by decide +kernel)), (lw_gin 62 (by decide +kernel) (by decide +kernel))⟩, (lw_gin 679 (by decide +kernel) (by decide +kernel)), by decide +kernel, by decide +kernel, by decide +kernel, by decide⟩
theorem cv_X8_154 : CV RX8 154 mX2_candidates 0 := ⟨⟨(lw_gin 684 (by decide +kernel) (by decide +kernel)), (lw_gin 685 (by decide +kernel) (by decide +kernel)), (lw_gin 686 (by decide +kernel) (by decide +kernel)), (lw_gin 62 (by decide +kernel) (by decide +kernel))⟩, (lw_gin 687 (by decide +kernel) (by decide +kernel)), by decide +kernel, by decide +kernel, by decide +kernel, by decide⟩
theorem cv_X8_157 : CV RX8 157 mX3_giveBack 1 := ⟨⟨(lw_gin 692 (by decide +kernel) (by decide +kernel)), (lw_gin 693 (by decide +kernel) (by decide +kernel)), (lw_gin 694 (by decide +kernel) (by decide +kernel)), (lw_gin 63 (by decide +kernel) (by decide +kernel))⟩, (lw_gin 695 (by decide +kernel) (by decide +kernel)), by decide +kernel, by decide +kernel, by decide +kernel, by decide⟩
theorem cv_X8_160 : CV RX8 160 mX6_forget 0 := ⟨⟨(lw_gin 433 (by decide +kernel) (by decide +kernel)), (lw_gin 434 (by decide +kernel) (by decide +kernel)), (lw_gin 435 (by decide +kernel) (by decide +kernel)), (lw_gin 65 (by decide +kernel) (by decide +kernel))⟩, (lw_gin 436 (by decide +kernel) (by decide +kernel)), by decide +kernel, by decide +kernel, by decide +kernel, by decide⟩
theorem cv_X8_166 : CV RX8 166 mX6_bestTells 1 := ⟨⟨(lw_gin 704 (by decide +kernel) (by decide +kernel)), (lw_gin 705 (by decide +kernel) (by decide +kernel)), (lw_gin 706 (by decide +kernel) (by decide +kernel)), (lw_gin 65 (by decide +kernel) (by decide +kernel))⟩, (lw_gin 707 (by decide +kernel) (by decide +kernel)), by decide +kernel, by decide +kernel, by decide +kernel, by decide⟩
theorem cv_X8_170 : CV RX8 170 mX6_bestWord 1 := ⟨⟨(lw_gin 712 (by decide +kernel) (by decide +kernel)), (lw_gin 713 (by decide +kernel) (by decide +kernel)), (lw_gin 714 (by decide +kernel) (by decide +kernel)), (lw_gin 65 (by decide +kernel) (by decide +kernel))⟩, (lw_gin 715 (by decide +kernel) (by decide +kernel)), by decide +kernel, by decide +kernel, by decide +kernel, by decide⟩
theorem cv_X8_173 : CV RX8 173 mX6_countedWords 1 := ⟨⟨(lw_gin 720 (by decide +kernel) (by decide +kernel)), (lw_gin 721 (by decide +kernel) (by decide +kernel)), (lw_gin 722 (by decide +kernel) (by decide +kernel)), (lw_gin 65 (by decide +kernel) (by decide +kernel))⟩, (lw_gin 723 (by decide +kernel) (by decide +kernel)), by decide +kernel, by decide +kernel, by decide +kernel, by decide⟩
theorem cv_X8_179 : CV RX8 179 mX6_countedTells 2 := ⟨⟨(lw_gin 729 (by decide +kernel) (by decide +kernel)), (lw_gin 730 (by decide +kernel) (by decide +kernel)), (lw_gin 731 (by decide +kernel) (by decide +kernel)), (lw_gin 65 (by decide +kernel) (by decide +kernel))⟩, (lw_gin 732 (by decide +kernel) (by decide +kernel)), by decide +kernel, by decide +kernel, by decide +kernel, by decide⟩
theorem cv_X8_183 : CV RX8 183 mX6_likelihood 2 := ⟨⟨(lw_gin 745 (by decide +kernel) (by decide +kernel)), (lw_gin 746 (by decide +kernel) (by decide +kernel)), (lw_gin 747 (by decide +kernel) (by decide +kernel)), (lw_gin 65 (by decide +kernel) (by decide +kernel))⟩, (lw_gin 748 (by decide +kernel) (by decide +kernel)), by decide +kernel, by decide +kernel, by decide +kernel, by decide⟩
theorem cv_X8_187 : CV RX8 187 mX2_take 1 := ⟨⟨(lw_gin 761 (by decide +kernel) (by decide +kernel)), (lw_gin 637 (by decide +kernel) (by decide +kernel)), (lw_gin 638 (by decide +kernel) (by decide +kernel)), (lw_gin 62 (by decide +kernel) (by decide +kernel))⟩, (lw_gin 639 (by decide +kernel) (by decide +kernel)), by decide +kernel, by decide +kernel, by decide +kernel, by decide⟩
theorem cv_X8_190 : CV RX8 190 mX3_take 1 := ⟨⟨(lw_gin 762 (by decide +kernel) (by decide +kernel)), (lw_gin 763 (by decide +kernel) (by decide +kernel)), (lw_gin 764 (by decide +kernel) (by decide +kernel)), (lw_gin 63 (by decide +kernel) (by decide +kernel))⟩, (lw_gin 765 (by decide +kernel) (by decide +kernel)), by decide +kernel, by decide +kernel, by decide +kernel, by decide⟩
theorem cv_X8_203 : CV RX8 203 mX5_refusal 3 := ⟨⟨(lw_gin 780 (by decide +kernel) (by decide +kernel)), (lw_gin 781 (by decide +kernel) (by decide +kernel)), (lw_gin 782 (by decide +kernel) (by decide +kernel)), (lw_gin 68 (by decide +kernel) (by decide +kernel))⟩, (lw_gin 783 (by decide +kernel) (by decide +kernel)), by decide +kernel, by decide +kernel, by decide +kernel, by decide⟩
theorem cv_X8_207 : CV RX8 207 mX6_kindsMeant 3 := ⟨⟨(lw_gin 788 (by decide +kernel) (by decide +kernel)), (lw_gin 789 (by decide +kernel) (by decide +kernel)), (lw_gin 790 (by decide +kernel) (by decide +kernel)), (lw_gin 65 (by decide +kernel) (by decide +kernel))⟩, (lw_gin 791 (by decide +kernel) (by decide +kernel)), by decide +kernel, by decide +kernel, by decide +kernel, by decide⟩
theorem cv_X8_211 : CV RX8 211 mX5_put 2 := ⟨⟨(lw_gin 800 (by decide +kernel) (by decide +kernel)), (lw_gin 801 (by decide +kernel) (by decide +kernel)), (lw_gin 802 (by decide +kernel) (by decide +kernel)), (lw_gin 68 (by decide +kernel) (by decide +kernel))⟩, (lw_gin 803 (by decide +kernel) (by decide +kernel)), by decide +kernel, by decide +kernel, by decide +kernel, by decide⟩
theorem cv_X8_215 : CV RX8 215 mX5_renew 2 := ⟨⟨(lw_gin 812 (by decide +kernel) (by decide +kernel)), (lw_gin 813 (by decide +kernel) (by decide +kernel)), (lw_gin 814 (by decide +kernel) (by decide +kernel)), (lw_gin 68 (by decide +kernel) (by decide +kernel))⟩, (lw_gin 815 (by decide +kernel) (by decide +kernel)), by decide +kernel, by decide +kernel, by decide +kernel, by decide⟩
theorem cv_X8_222 : CV RX8 222 mX5_lacks 2 := ⟨⟨(lw_gin 828 (by decide +kernel) (by decide +kernel)), (lw_gin 785 (by decide +kernel) (by decide +kernel)), (lw_gin 786 (by decide +kernel) (by decide +kernel)), (lw_gin 68 (by decide +kernel) (by decide +kernel))⟩, (lw_gin 787 (by decide +kernel) (by decide +kernel)), by decide +kernel, by decide +kernel, by decide +kernel, by decide⟩
theorem cv_X8_235 : CV RX8 235 mX3_keep 1 := ⟨⟨(lw_gin 632 (by decide +kernel) (by decide +kernel)), (lw_gin 633 (by decide +kernel) (by decide +kernel)), (lw_gin 634 (by decide +kernel) (by decide +kernel)), (lw_gin 63 (by decide +kernel) (by decide +kernel))⟩, (lw_gin 635 (by decide +kernel) (by decide +kernel)), by decide +kernel, by decide +kernel, by decide +kernel, by decide⟩
theorem cv_X8_238 : CV RX8 238 mX2_takeSlots 1 := ⟨⟨(lw_gin 426 (by decide +kernel) (by decide +kernel)), (lw_gin 427 (by decide +kernel) (by decide +kernel)), (lw_gin 428 (by decide +kernel) (by decide +kernel)), (lw_gin 62 (by decide +kernel) (by decide +kernel))⟩, (lw_gin 429 (by decide +kernel) (by decide +kernel)), by decide +kernel, by decide +kernel, by decide +kernel, by decide⟩
theorem k_X8_71 : Cond.constant RX8 71 (Int32.ofInt (999999)) ∈ lw_g := (lw_gin 441 (by decide +kernel) (by decide +kernel))
theorem k_X8_177 : Cond.constantLong RX8 177 (Int64.ofInt (-1)) ∈ lw_g := (lw_gin 724 (by decide +kernel) (by decide +kernel))
theorem fp_X8_59 : FP RX8 59 3 1 .int := ⟨_, _, _, tyX4, rfl, by decide, in_X4, (lw_gin 156 (by decide +kernel) (by decide +kernel)), tyX4_ok, nmX4, rfl, rfl⟩
theorem fp_X8_92 : FP RX8 92 1 4 .int := ⟨_, _, _, tyX2, rfl, by decide, in_X2, (lw_gin 105 (by decide +kernel) (by decide +kernel)), tyX2_ok, nmX2, rfl, rfl⟩
theorem fp_X8_95 : FP RX8 95 1 5 .int := ⟨_, _, _, tyX2, rfl, by decide, in_X2, (lw_gin 108 (by decide +kernel) (by decide +kernel)), tyX2_ok, nmX2, rfl, rfl⟩
theorem fp_X8_119 : FP RX8 119 2 2 .int := ⟨_, _, _, tyX3, rfl, by decide, in_X3, (lw_gin 140 (by decide +kernel) (by decide +kernel)), tyX3_ok, nmX3, rfl, rfl⟩
theorem fp_X8_163 : FP RX8 163 1 6 .int := ⟨_, _, _, tyX2, rfl, by decide, in_X2, (lw_gin 111 (by decide +kernel) (by decide +kernel)), tyX2_ok, nmX2, rfl, rfl⟩
theorem fp_X8_193 : FP RX8 193 7 8 .boolean := ⟨_, _, _, tyX8, rfl, by decide, in_X8, (lw_gin 341 (by decide +kernel) (by decide +kernel)), tyX8_ok, nmX8, rfl, rfl⟩
theorem cs_X0_7 : CS RX0 7 mX0_others 2 := ⟨⟨(lw_gin 518 (by decide +kernel) (by decide +kernel)), (lw_gin 519 (by decide +kernel) (by decide +kernel)), (lw_gin 71 (by decide +kernel) (by decide +kernel))⟩, (lw_gin 520 (by decide +kernel) (by decide +kernel)), by decide +kernel, by decide +kernel, by decide +kernel, by decide⟩
theorem cs_X0_13 : CS RX0 13 mX0_rises 2 := ⟨⟨(lw_gin 521 (by decide +kernel) (by decide +kernel)), (lw_gin 522 (by decide +kernel) (by decide +kernel)), (lw_gin 71 (by decide +kernel) (by decide +kernel))⟩, (lw_gin 523 (by decide +kernel) (by decide +kernel)), by decide +kernel, by decide +kernel, by decide +kernel, by decide⟩
theorem cs_X0_17 : CS RX0 17 mX0_isSteady 2 := ⟨⟨(lw_gin 524 (by decide +kernel) (by decide +kernel)), (lw_gin 525 (by decide +kernel) (by decide +kernel)), (lw_gin 71 (by decide +kernel) (by decide +kernel))⟩, (lw_gin 526 (by decide +kernel) (by decide +kernel)), by decide +kernel, by decide +kernel, by decide +kernel, by decide⟩
theorem fl_X1_9 : FL RX1 9 0 2 := ⟨_, _, _, rfl, by decide, in_X1, (lw_gin 182 (by decide +kernel) (by decide +kernel))⟩
theorem fl_X1_15 : FL RX1 15 0 3 := ⟨_, _, _, rfl, by decide, in_X1, (lw_gin 184 (by decide +kernel) (by decide +kernel))⟩
theorem fl_X1_18 : FL RX1 18 0 4 := ⟨_, _, _, rfl, by decide, in_X1, (lw_gin 186 (by decide +kernel) (by decide +kernel))⟩
theorem fl_X1_21 : FL RX1 21 0 5 := ⟨_, _, _, rfl, by decide, in_X1, (lw_gin 187 (by decide +kernel) (by decide +kernel))⟩
theorem fl_X1_24 : FL RX1 24 0 6 := ⟨_, _, _, rfl, by decide, in_X1, (lw_gin 188 (by decide +kernel) (by decide +kernel))⟩
theorem fl_X1_28 : FL RX1 28 0 7 := ⟨_, _, _, rfl, by decide, in_X1, (lw_gin 189 (by decide +kernel) (by decide +kernel))⟩
theorem fl_X1_35 : FL RX1 35 0 1 := ⟨_, _, _, rfl, by decide, in_X1, (lw_gin 180 (by decide +kernel) (by decide +kernel))⟩
theorem fl_X1_45 : FL RX1 45 6 11 := ⟨_, _, _, rfl, by decide, in_X7, (lw_gin 229 (by decide +kernel) (by decide +kernel))⟩
theorem fl_X1_47 : FL RX1 47 6 10 := ⟨_, _, _, rfl, by decide, in_X7, (lw_gin 226 (by decide +kernel) (by decide +kernel))⟩
theorem fl_X1_48 : FL RX1 48 6 9 := ⟨_, _, _, rfl, by decide, in_X7, (lw_gin 224 (by decide +kernel) (by decide +kernel))⟩
theorem ac_X1_49 : AC RX1 49 := ⟨(lw_gin 557 (by decide +kernel) (by decide +kernel)), (lw_gin 432 (by decide +kernel) (by decide +kernel)), (lw_gin 431 (by decide +kernel) (by decide +kernel)), (lw_gin 70 (by decide +kernel) (by decide +kernel))⟩
theorem mx_X1_55 : MX RX1 55 := ⟨(lw_gin 570 (by decide +kernel) (by decide +kernel)), (lw_gin 571 (by decide +kernel) (by decide +kernel)), (lw_gin 72 (by decide +kernel) (by decide +kernel)), (lw_gin 572 (by decide +kernel) (by decide +kernel))⟩
theorem cs_X1_70 : CS RX1 70 mJ13_bitCount_95d88 1 := ⟨⟨(lw_gin 594 (by decide +kernel) (by decide +kernel)), (lw_gin 595 (by decide +kernel) (by decide +kernel)), (lw_gin 73 (by decide +kernel) (by decide +kernel))⟩, (lw_gin 596 (by decide +kernel) (by decide +kernel)), by decide +kernel, by decide +kernel, by decide +kernel, by decide⟩
theorem cv_X1_39 : CV RX1 39 mX7_pick 1 := ⟨⟨(lw_gin 556 (by decide +kernel) (by decide +kernel)), (lw_gin 533 (by decide +kernel) (by decide +kernel)), (lw_gin 534 (by decide +kernel) (by decide +kernel)), (lw_gin 67 (by decide +kernel) (by decide +kernel))⟩, (lw_gin 535 (by decide +kernel) (by decide +kernel)), by decide +kernel, by decide +kernel, by decide +kernel, by decide⟩
theorem cv_X1_61 : CV RX1 61 mX1_questionsIfTrue 1 := ⟨⟨(lw_gin 581 (by decide +kernel) (by decide +kernel)), (lw_gin 583 (by decide +kernel) (by decide +kernel)), (lw_gin 18 (by decide +kernel) (by decide +kernel)), (lw_gin 66 (by decide +kernel) (by decide +kernel))⟩, (lw_gin 584 (by decide +kernel) (by decide +kernel)), by decide +kernel, by decide +kernel, by decide +kernel, by decide⟩
theorem cv_X1_64 : CV RX1 64 mX1_alikeTo 1 := ⟨⟨(lw_gin 585 (by decide +kernel) (by decide +kernel)), (lw_gin 587 (by decide +kernel) (by decide +kernel)), (lw_gin 19 (by decide +kernel) (by decide +kernel)), (lw_gin 66 (by decide +kernel) (by decide +kernel))⟩, (lw_gin 588 (by decide +kernel) (by decide +kernel)), by decide +kernel, by decide +kernel, by decide +kernel, by decide⟩
theorem cv_X1_76 : CV RX1 76 mX1_partedBest 2 := ⟨⟨(lw_gin 600 (by decide +kernel) (by decide +kernel)), (lw_gin 567 (by decide +kernel) (by decide +kernel)), (lw_gin 568 (by decide +kernel) (by decide +kernel)), (lw_gin 66 (by decide +kernel) (by decide +kernel))⟩, (lw_gin 569 (by decide +kernel) (by decide +kernel)), by decide +kernel, by decide +kernel, by decide +kernel, by decide⟩
theorem cv_X1_80 : CV RX1 80 mX1_takingLike 2 := ⟨⟨(lw_gin 601 (by decide +kernel) (by decide +kernel)), (lw_gin 603 (by decide +kernel) (by decide +kernel)), (lw_gin 21 (by decide +kernel) (by decide +kernel)), (lw_gin 66 (by decide +kernel) (by decide +kernel))⟩, (lw_gin 604 (by decide +kernel) (by decide +kernel)), by decide +kernel, by decide +kernel, by decide +kernel, by decide⟩
theorem cv_X1_84 : CV RX1 84 mX1_isAlike 2 := ⟨⟨(lw_gin 589 (by decide +kernel) (by decide +kernel)), (lw_gin 591 (by decide +kernel) (by decide +kernel)), (lw_gin 20 (by decide +kernel) (by decide +kernel)), (lw_gin 66 (by decide +kernel) (by decide +kernel))⟩, (lw_gin 592 (by decide +kernel) (by decide +kernel)), by decide +kernel, by decide +kernel, by decide +kernel, by decide⟩
theorem k_X1_68 : Cond.constantLong RX1 68 (Int64.ofInt (-1)) ∈ lw_g := (lw_gin 593 (by decide +kernel) (by decide +kernel))
theorem fp_X1_31 : FP RX1 31 0 0 .boolean := ⟨_, _, _, tyX1, rfl, by decide, in_X1, (lw_gin 178 (by decide +kernel) (by decide +kernel)), tyX1_ok, nmX1, rfl, rfl⟩
theorem fp_X1_35 : FP RX1 35 0 1 .int := ⟨_, _, _, tyX1, rfl, by decide, in_X1, (lw_gin 180 (by decide +kernel) (by decide +kernel)), tyX1_ok, nmX1, rfl, rfl⟩
theorem fl_X2_9 : FL RX2 9 1 0 := ⟨_, _, _, rfl, by decide, in_X2, (lw_gin 88 (by decide +kernel) (by decide +kernel))⟩
theorem fl_X2_15 : FL RX2 15 1 1 := ⟨_, _, _, rfl, by decide, in_X2, (lw_gin 92 (by decide +kernel) (by decide +kernel))⟩
theorem fl_X2_18 : FL RX2 18 1 2 := ⟨_, _, _, rfl, by decide, in_X2, (lw_gin 96 (by decide +kernel) (by decide +kernel))⟩
theorem fl_X2_21 : FL RX2 21 1 6 := ⟨_, _, _, rfl, by decide, in_X2, (lw_gin 110 (by decide +kernel) (by decide +kernel))⟩
theorem fl_X2_29 : FL RX2 29 1 4 := ⟨_, _, _, rfl, by decide, in_X2, (lw_gin 104 (by decide +kernel) (by decide +kernel))⟩
theorem fl_X2_32 : FL RX2 32 1 5 := ⟨_, _, _, rfl, by decide, in_X2, (lw_gin 107 (by decide +kernel) (by decide +kernel))⟩
theorem fl_X2_41 : FL RX2 41 1 3 := ⟨_, _, _, rfl, by decide, in_X2, (lw_gin 101 (by decide +kernel) (by decide +kernel))⟩
theorem ac_X2_35 : AC RX2 35 := ⟨(lw_gin 430 (by decide +kernel) (by decide +kernel)), (lw_gin 432 (by decide +kernel) (by decide +kernel)), (lw_gin 431 (by decide +kernel) (by decide +kernel)), (lw_gin 70 (by decide +kernel) (by decide +kernel))⟩
theorem cs_X2_66 : CS RX2 66 mX4_tensWord 1 := ⟨⟨(lw_gin 451 (by decide +kernel) (by decide +kernel)), (lw_gin 396 (by decide +kernel) (by decide +kernel)), (lw_gin 64 (by decide +kernel) (by decide +kernel))⟩, (lw_gin 397 (by decide +kernel) (by decide +kernel)), by decide +kernel, by decide +kernel, by decide +kernel, by decide⟩
theorem cv_X2_25 : CV RX2 25 mX2_takeSlots 1 := ⟨⟨(lw_gin 640 (by decide +kernel) (by decide +kernel)), (lw_gin 427 (by decide +kernel) (by decide +kernel)), (lw_gin 428 (by decide +kernel) (by decide +kernel)), (lw_gin 62 (by decide +kernel) (by decide +kernel))⟩, (lw_gin 429 (by decide +kernel) (by decide +kernel)), by decide +kernel, by decide +kernel, by decide +kernel, by decide⟩
theorem cv_X2_44 : CV RX2 44 mX2_isSlot 1 := ⟨⟨(lw_gin 405 (by decide +kernel) (by decide +kernel)), (lw_gin 406 (by decide +kernel) (by decide +kernel)), (lw_gin 407 (by decide +kernel) (by decide +kernel)), (lw_gin 62 (by decide +kernel) (by decide +kernel))⟩, (lw_gin 408 (by decide +kernel) (by decide +kernel)), by decide +kernel, by decide +kernel, by decide +kernel, by decide⟩
theorem cv_X2_48 : CV RX2 48 mX2_widen 3 := ⟨⟨(lw_gin 413 (by decide +kernel) (by decide +kernel)), (lw_gin 414 (by decide +kernel) (by decide +kernel)), (lw_gin 415 (by decide +kernel) (by decide +kernel)), (lw_gin 62 (by decide +kernel) (by decide +kernel))⟩, (lw_gin 416 (by decide +kernel) (by decide +kernel)), by decide +kernel, by decide +kernel, by decide +kernel, by decide⟩
theorem cv_X2_55 : CV RX2 55 mX2_find 2 := ⟨⟨(lw_gin 683 (by decide +kernel) (by decide +kernel)), (lw_gin 402 (by decide +kernel) (by decide +kernel)), (lw_gin 403 (by decide +kernel) (by decide +kernel)), (lw_gin 62 (by decide +kernel) (by decide +kernel))⟩, (lw_gin 404 (by decide +kernel) (by decide +kernel)), by decide +kernel, by decide +kernel, by decide +kernel, by decide⟩
theorem cv_X2_59 : CV RX2 59 mX2_spellSmall 1 := ⟨⟨(lw_gin 446 (by decide +kernel) (by decide +kernel)), (lw_gin 448 (by decide +kernel) (by decide +kernel)), (lw_gin 4 (by decide +kernel) (by decide +kernel)), (lw_gin 62 (by decide +kernel) (by decide +kernel))⟩, (lw_gin 449 (by decide +kernel) (by decide +kernel)), by decide +kernel, by decide +kernel, by decide +kernel, by decide⟩
theorem cv_X2_62 : CV RX2 62 mX2_grow 2 := ⟨⟨(lw_gin 450 (by decide +kernel) (by decide +kernel)), (lw_gin 410 (by decide +kernel) (by decide +kernel)), (lw_gin 411 (by decide +kernel) (by decide +kernel)), (lw_gin 62 (by decide +kernel) (by decide +kernel))⟩, (lw_gin 412 (by decide +kernel) (by decide +kernel)), by decide +kernel, by decide +kernel, by decide +kernel, by decide⟩
theorem k_X2_52 : Cond.constant RX2 52 (Int32.ofInt (1103515245)) ∈ lw_g := (lw_gin 680 (by decide +kernel) (by decide +kernel))
theorem k_X2_53 : Cond.constant RX2 53 (Int32.ofInt (2147483647)) ∈ lw_g := (lw_gin 681 (by decide +kernel) (by decide +kernel))
theorem k_X2_54 : Cond.constant RX2 54 (Int32.ofInt (65536)) ∈ lw_g := (lw_gin 682 (by decide +kernel) (by decide +kernel))
theorem fp_X2_21 : FP RX2 21 1 6 .int := ⟨_, _, _, tyX2, rfl, by decide, in_X2, (lw_gin 110 (by decide +kernel) (by decide +kernel)), tyX2_ok, nmX2, rfl, rfl⟩
theorem fp_X2_29 : FP RX2 29 1 4 .int := ⟨_, _, _, tyX2, rfl, by decide, in_X2, (lw_gin 104 (by decide +kernel) (by decide +kernel)), tyX2_ok, nmX2, rfl, rfl⟩
theorem fp_X2_32 : FP RX2 32 1 5 .int := ⟨_, _, _, tyX2, rfl, by decide, in_X2, (lw_gin 107 (by decide +kernel) (by decide +kernel)), tyX2_ok, nmX2, rfl, rfl⟩
theorem fp_X2_41 : FP RX2 41 1 3 .int := ⟨_, _, _, tyX2, rfl, by decide, in_X2, (lw_gin 101 (by decide +kernel) (by decide +kernel)), tyX2_ok, nmX2, rfl, rfl⟩
theorem fl_X3_11 : FL RX3 11 2 0 := ⟨_, _, _, rfl, by decide, in_X3, (lw_gin 137 (by decide +kernel) (by decide +kernel))⟩
theorem fl_X3_18 : FL RX3 18 2 2 := ⟨_, _, _, rfl, by decide, in_X3, (lw_gin 139 (by decide +kernel) (by decide +kernel))⟩
theorem fl_X3_22 : FL RX3 22 2 1 := ⟨_, _, _, rfl, by decide, in_X3, (lw_gin 138 (by decide +kernel) (by decide +kernel))⟩
theorem cv_X3_25 : CV RX3 25 mX2_take 1 := ⟨⟨(lw_gin 636 (by decide +kernel) (by decide +kernel)), (lw_gin 637 (by decide +kernel) (by decide +kernel)), (lw_gin 638 (by decide +kernel) (by decide +kernel)), (lw_gin 62 (by decide +kernel) (by decide +kernel))⟩, (lw_gin 639 (by decide +kernel) (by decide +kernel)), by decide +kernel, by decide +kernel, by decide +kernel, by decide⟩
theorem fp_X3_18 : FP RX3 18 2 2 .int := ⟨_, _, _, tyX3, rfl, by decide, in_X3, (lw_gin 139 (by decide +kernel) (by decide +kernel)), tyX3_ok, nmX3, rfl, rfl⟩
theorem fp_X3_22 : FP RX3 22 2 1 .int := ⟨_, _, _, tyX3, rfl, by decide, in_X3, (lw_gin 138 (by decide +kernel) (by decide +kernel)), tyX3_ok, nmX3, rfl, rfl⟩
theorem fl_X4_9 : FL RX4 9 3 0 := ⟨_, _, _, rfl, by decide, in_X4, (lw_gin 154 (by decide +kernel) (by decide +kernel))⟩
theorem fl_X4_15 : FL RX4 15 3 1 := ⟨_, _, _, rfl, by decide, in_X4, (lw_gin 155 (by decide +kernel) (by decide +kernel))⟩
theorem fl_X4_19 : FL RX4 19 1 3 := ⟨_, _, _, rfl, by decide, in_X2, (lw_gin 99 (by decide +kernel) (by decide +kernel))⟩
theorem fl_X4_24 : FL RX4 24 3 2 := ⟨_, _, _, rfl, by decide, in_X4, (lw_gin 157 (by decide +kernel) (by decide +kernel))⟩
theorem cs_X4_38 : CS RX4 38 mX4_isDigit 1 := ⟨⟨(lw_gin 385 (by decide +kernel) (by decide +kernel)), (lw_gin 386 (by decide +kernel) (by decide +kernel)), (lw_gin 64 (by decide +kernel) (by decide +kernel))⟩, (lw_gin 387 (by decide +kernel) (by decide +kernel)), by decide +kernel, by decide +kernel, by decide +kernel, by decide⟩
theorem cs_X4_46 : CS RX4 46 mX4_wordOfValue 1 := ⟨⟨(lw_gin 392 (by decide +kernel) (by decide +kernel)), (lw_gin 393 (by decide +kernel) (by decide +kernel)), (lw_gin 64 (by decide +kernel) (by decide +kernel))⟩, (lw_gin 394 (by decide +kernel) (by decide +kernel)), by decide +kernel, by decide +kernel, by decide +kernel, by decide⟩
theorem cs_X4_49 : CS RX4 49 mX4_wordOfLetter 1 := ⟨⟨(lw_gin 398 (by decide +kernel) (by decide +kernel)), (lw_gin 399 (by decide +kernel) (by decide +kernel)), (lw_gin 64 (by decide +kernel) (by decide +kernel))⟩, (lw_gin 400 (by decide +kernel) (by decide +kernel)), by decide +kernel, by decide +kernel, by decide +kernel, by decide⟩
theorem cs_X4_64 : CS RX4 64 mX4_tensWord 1 := ⟨⟨(lw_gin 395 (by decide +kernel) (by decide +kernel)), (lw_gin 396 (by decide +kernel) (by decide +kernel)), (lw_gin 64 (by decide +kernel) (by decide +kernel))⟩, (lw_gin 397 (by decide +kernel) (by decide +kernel)), by decide +kernel, by decide +kernel, by decide +kernel, by decide⟩
theorem cv_X4_27 : CV RX4 27 mX4_isAtEnd 0 := ⟨⟨(lw_gin 377 (by decide +kernel) (by decide +kernel)), (lw_gin 379 (by decide +kernel) (by decide +kernel)), (lw_gin 0 (by decide +kernel) (by decide +kernel)), (lw_gin 64 (by decide +kernel) (by decide +kernel))⟩, (lw_gin 380 (by decide +kernel) (by decide +kernel)), by decide +kernel, by decide +kernel, by decide +kernel, by decide⟩
theorem cv_X4_31 : CV RX4 31 mX4_readCandidate 2 := ⟨⟨(lw_gin 381 (by decide +kernel) (by decide +kernel)), (lw_gin 383 (by decide +kernel) (by decide +kernel)), (lw_gin 1 (by decide +kernel) (by decide +kernel)), (lw_gin 64 (by decide +kernel) (by decide +kernel))⟩, (lw_gin 384 (by decide +kernel) (by decide +kernel)), by decide +kernel, by decide +kernel, by decide +kernel, by decide⟩
theorem cv_X4_35 : CV RX4 35 mX2_isLastFull 0 := ⟨⟨(lw_gin 418 (by decide +kernel) (by decide +kernel)), (lw_gin 419 (by decide +kernel) (by decide +kernel)), (lw_gin 420 (by decide +kernel) (by decide +kernel)), (lw_gin 62 (by decide +kernel) (by decide +kernel))⟩, (lw_gin 421 (by decide +kernel) (by decide +kernel)), by decide +kernel, by decide +kernel, by decide +kernel, by decide⟩
theorem cv_X4_42 : CV RX4 42 mX4_valueFrom 1 := ⟨⟨(lw_gin 388 (by decide +kernel) (by decide +kernel)), (lw_gin 390 (by decide +kernel) (by decide +kernel)), (lw_gin 2 (by decide +kernel) (by decide +kernel)), (lw_gin 64 (by decide +kernel) (by decide +kernel))⟩, (lw_gin 391 (by decide +kernel) (by decide +kernel)), by decide +kernel, by decide +kernel, by decide +kernel, by decide⟩
theorem cv_X4_52 : CV RX4 52 mX2_find 2 := ⟨⟨(lw_gin 401 (by decide +kernel) (by decide +kernel)), (lw_gin 402 (by decide +kernel) (by decide +kernel)), (lw_gin 403 (by decide +kernel) (by decide +kernel)), (lw_gin 62 (by decide +kernel) (by decide +kernel))⟩, (lw_gin 404 (by decide +kernel) (by decide +kernel)), by decide +kernel, by decide +kernel, by decide +kernel, by decide⟩
theorem cv_X4_56 : CV RX4 56 mX2_grow 2 := ⟨⟨(lw_gin 409 (by decide +kernel) (by decide +kernel)), (lw_gin 410 (by decide +kernel) (by decide +kernel)), (lw_gin 411 (by decide +kernel) (by decide +kernel)), (lw_gin 62 (by decide +kernel) (by decide +kernel))⟩, (lw_gin 412 (by decide +kernel) (by decide +kernel)), by decide +kernel, by decide +kernel, by decide +kernel, by decide⟩
theorem cv_X4_60 : CV RX4 60 mX2_widen 3 := ⟨⟨(lw_gin 417 (by decide +kernel) (by decide +kernel)), (lw_gin 414 (by decide +kernel) (by decide +kernel)), (lw_gin 415 (by decide +kernel) (by decide +kernel)), (lw_gin 62 (by decide +kernel) (by decide +kernel))⟩, (lw_gin 416 (by decide +kernel) (by decide +kernel)), by decide +kernel, by decide +kernel, by decide +kernel, by decide⟩
theorem fp_X4_15 : FP RX4 15 3 1 .int := ⟨_, _, _, tyX4, rfl, by decide, in_X4, (lw_gin 155 (by decide +kernel) (by decide +kernel)), tyX4_ok, nmX4, rfl, rfl⟩
theorem fp_X4_19 : FP RX4 19 1 3 .int := ⟨_, _, _, tyX2, rfl, by decide, in_X2, (lw_gin 99 (by decide +kernel) (by decide +kernel)), tyX2_ok, nmX2, rfl, rfl⟩
theorem fp_X4_24 : FP RX4 24 3 2 .int := ⟨_, _, _, tyX4, rfl, by decide, in_X4, (lw_gin 157 (by decide +kernel) (by decide +kernel)), tyX4_ok, nmX4, rfl, rfl⟩
theorem fl_X5_9 : FL RX5 9 4 0 := ⟨_, _, _, rfl, by decide, in_X5, (lw_gin 320 (by decide +kernel) (by decide +kernel))⟩
theorem fl_X5_15 : FL RX5 15 4 1 := ⟨_, _, _, rfl, by decide, in_X5, (lw_gin 322 (by decide +kernel) (by decide +kernel))⟩
theorem fl_X5_19 : FL RX5 19 4 2 := ⟨_, _, _, rfl, by decide, in_X5, (lw_gin 324 (by decide +kernel) (by decide +kernel))⟩
theorem cv_X5_22 : CV RX5 22 mX5_lacks 2 := ⟨⟨(lw_gin 784 (by decide +kernel) (by decide +kernel)), (lw_gin 785 (by decide +kernel) (by decide +kernel)), (lw_gin 786 (by decide +kernel) (by decide +kernel)), (lw_gin 68 (by decide +kernel) (by decide +kernel))⟩, (lw_gin 787 (by decide +kernel) (by decide +kernel)), by decide +kernel, by decide +kernel, by decide +kernel, by decide⟩
theorem cv_X5_26 : CV RX5 26 mX5_cutToLane 1 := ⟨⟨(lw_gin 804 (by decide +kernel) (by decide +kernel)), (lw_gin 806 (by decide +kernel) (by decide +kernel)), (lw_gin 25 (by decide +kernel) (by decide +kernel)), (lw_gin 68 (by decide +kernel) (by decide +kernel))⟩, (lw_gin 807 (by decide +kernel) (by decide +kernel)), by decide +kernel, by decide +kernel, by decide +kernel, by decide⟩
theorem fp_X5_15 : FP RX5 15 4 1 .int := ⟨_, _, _, tyX5, rfl, by decide, in_X5, (lw_gin 322 (by decide +kernel) (by decide +kernel)), tyX5_ok, nmX5, rfl, rfl⟩
theorem fp_X5_19 : FP RX5 19 4 2 .int := ⟨_, _, _, tyX5, rfl, by decide, in_X5, (lw_gin 324 (by decide +kernel) (by decide +kernel)), tyX5_ok, nmX5, rfl, rfl⟩
theorem fl_X6_12 : FL RX6 12 5 2 := ⟨_, _, _, rfl, by decide, in_X6, (lw_gin 263 (by decide +kernel) (by decide +kernel))⟩
theorem fl_X6_18 : FL RX6 18 5 9 := ⟨_, _, _, rfl, by decide, in_X6, (lw_gin 270 (by decide +kernel) (by decide +kernel))⟩
theorem fl_X6_22 : FL RX6 22 5 10 := ⟨_, _, _, rfl, by decide, in_X6, (lw_gin 271 (by decide +kernel) (by decide +kernel))⟩
theorem fl_X6_25 : FL RX6 25 5 11 := ⟨_, _, _, rfl, by decide, in_X6, (lw_gin 272 (by decide +kernel) (by decide +kernel))⟩
theorem fl_X6_28 : FL RX6 28 5 12 := ⟨_, _, _, rfl, by decide, in_X6, (lw_gin 273 (by decide +kernel) (by decide +kernel))⟩
theorem fl_X6_31 : FL RX6 31 5 0 := ⟨_, _, _, rfl, by decide, in_X6, (lw_gin 261 (by decide +kernel) (by decide +kernel))⟩
theorem fl_X6_40 : FL RX6 40 5 1 := ⟨_, _, _, rfl, by decide, in_X6, (lw_gin 262 (by decide +kernel) (by decide +kernel))⟩
theorem fl_X6_44 : FL RX6 44 5 3 := ⟨_, _, _, rfl, by decide, in_X6, (lw_gin 264 (by decide +kernel) (by decide +kernel))⟩
theorem fl_X6_48 : FL RX6 48 0 0 := ⟨_, _, _, rfl, by decide, in_X1, (lw_gin 179 (by decide +kernel) (by decide +kernel))⟩
theorem fl_X6_51 : FL RX6 51 5 13 := ⟨_, _, _, rfl, by decide, in_X6, (lw_gin 274 (by decide +kernel) (by decide +kernel))⟩
theorem fl_X6_57 : FL RX6 57 5 4 := ⟨_, _, _, rfl, by decide, in_X6, (lw_gin 265 (by decide +kernel) (by decide +kernel))⟩
theorem fl_X6_61 : FL RX6 61 5 5 := ⟨_, _, _, rfl, by decide, in_X6, (lw_gin 266 (by decide +kernel) (by decide +kernel))⟩
theorem fl_X6_64 : FL RX6 64 5 6 := ⟨_, _, _, rfl, by decide, in_X6, (lw_gin 267 (by decide +kernel) (by decide +kernel))⟩
theorem fl_X6_67 : FL RX6 67 5 7 := ⟨_, _, _, rfl, by decide, in_X6, (lw_gin 268 (by decide +kernel) (by decide +kernel))⟩
theorem fl_X6_70 : FL RX6 70 1 1 := ⟨_, _, _, rfl, by decide, in_X2, (lw_gin 94 (by decide +kernel) (by decide +kernel))⟩
theorem fl_X6_78 : FL RX6 78 0 1 := ⟨_, _, _, rfl, by decide, in_X1, (lw_gin 181 (by decide +kernel) (by decide +kernel))⟩
theorem fl_X6_81 : FL RX6 81 0 2 := ⟨_, _, _, rfl, by decide, in_X1, (lw_gin 183 (by decide +kernel) (by decide +kernel))⟩
theorem fl_X6_92 : FL RX6 92 5 8 := ⟨_, _, _, rfl, by decide, in_X6, (lw_gin 269 (by decide +kernel) (by decide +kernel))⟩
theorem fl_X6_95 : FL RX6 95 1 0 := ⟨_, _, _, rfl, by decide, in_X2, (lw_gin 91 (by decide +kernel) (by decide +kernel))⟩
theorem fl_X6_102 : FL RX6 102 0 3 := ⟨_, _, _, rfl, by decide, in_X1, (lw_gin 185 (by decide +kernel) (by decide +kernel))⟩
theorem fl_X6_116 : FL RX6 116 6 9 := ⟨_, _, _, rfl, by decide, in_X7, (lw_gin 225 (by decide +kernel) (by decide +kernel))⟩
theorem fl_X6_119 : FL RX6 119 6 10 := ⟨_, _, _, rfl, by decide, in_X7, (lw_gin 228 (by decide +kernel) (by decide +kernel))⟩
theorem fl_X6_120 : FL RX6 120 6 11 := ⟨_, _, _, rfl, by decide, in_X7, (lw_gin 231 (by decide +kernel) (by decide +kernel))⟩
theorem fl_X6_128 : FL RX6 128 1 3 := ⟨_, _, _, rfl, by decide, in_X2, (lw_gin 103 (by decide +kernel) (by decide +kernel))⟩
theorem fl_X6_142 : FL RX6 142 5 16 := ⟨_, _, _, rfl, by decide, in_X6, (lw_gin 277 (by decide +kernel) (by decide +kernel))⟩
theorem fl_X6_146 : FL RX6 146 5 15 := ⟨_, _, _, rfl, by decide, in_X6, (lw_gin 276 (by decide +kernel) (by decide +kernel))⟩
theorem fl_X6_167 : FL RX6 167 1 4 := ⟨_, _, _, rfl, by decide, in_X2, (lw_gin 106 (by decide +kernel) (by decide +kernel))⟩
theorem fl_X6_170 : FL RX6 170 1 5 := ⟨_, _, _, rfl, by decide, in_X2, (lw_gin 109 (by decide +kernel) (by decide +kernel))⟩
theorem fl_X6_189 : FL RX6 189 5 14 := ⟨_, _, _, rfl, by decide, in_X6, (lw_gin 275 (by decide +kernel) (by decide +kernel))⟩
theorem fl_X6_192 : FL RX6 192 6 12 := ⟨_, _, _, rfl, by decide, in_X7, (lw_gin 233 (by decide +kernel) (by decide +kernel))⟩
theorem ac_X6_122 : AC RX6 122 := ⟨(lw_gin 531 (by decide +kernel) (by decide +kernel)), (lw_gin 432 (by decide +kernel) (by decide +kernel)), (lw_gin 431 (by decide +kernel) (by decide +kernel)), (lw_gin 70 (by decide +kernel) (by decide +kernel))⟩
theorem cs_X6_149 : CS RX6 149 mX6_divisor 2 := ⟨⟨(lw_gin 753 (by decide +kernel) (by decide +kernel)), (lw_gin 754 (by decide +kernel) (by decide +kernel)), (lw_gin 65 (by decide +kernel) (by decide +kernel))⟩, (lw_gin 755 (by decide +kernel) (by decide +kernel)), by decide +kernel, by decide +kernel, by decide +kernel, by decide⟩
theorem cs_X6_161 : CS RX6 161 mX0_isKept 3 := ⟨⟨(lw_gin 515 (by decide +kernel) (by decide +kernel)), (lw_gin 516 (by decide +kernel) (by decide +kernel)), (lw_gin 71 (by decide +kernel) (by decide +kernel))⟩, (lw_gin 517 (by decide +kernel) (by decide +kernel)), by decide +kernel, by decide +kernel, by decide +kernel, by decide⟩
theorem cv_X6_54 : CV RX6 54 mX6_findBest 0 := ⟨⟨(lw_gin 465 (by decide +kernel) (by decide +kernel)), (lw_gin 467 (by decide +kernel) (by decide +kernel)), (lw_gin 5 (by decide +kernel) (by decide +kernel)), (lw_gin 65 (by decide +kernel) (by decide +kernel))⟩, (lw_gin 468 (by decide +kernel) (by decide +kernel)), by decide +kernel, by decide +kernel, by decide +kernel, by decide⟩
theorem cv_X6_75 : CV RX6 75 mX6_findCounted 0 := ⟨⟨(lw_gin 544 (by decide +kernel) (by decide +kernel)), (lw_gin 546 (by decide +kernel) (by decide +kernel)), (lw_gin 16 (by decide +kernel) (by decide +kernel)), (lw_gin 65 (by decide +kernel) (by decide +kernel))⟩, (lw_gin 547 (by decide +kernel) (by decide +kernel)), by decide +kernel, by decide +kernel, by decide +kernel, by decide⟩
theorem cv_X6_84 : CV RX6 84 mX1_partedBest 2 := ⟨⟨(lw_gin 566 (by decide +kernel) (by decide +kernel)), (lw_gin 567 (by decide +kernel) (by decide +kernel)), (lw_gin 568 (by decide +kernel) (by decide +kernel)), (lw_gin 66 (by decide +kernel) (by decide +kernel))⟩, (lw_gin 569 (by decide +kernel) (by decide +kernel)), by decide +kernel, by decide +kernel, by decide +kernel, by decide⟩
theorem cv_X6_88 : CV RX6 88 mX1_questions 0 := ⟨⟨(lw_gin 577 (by decide +kernel) (by decide +kernel)), (lw_gin 578 (by decide +kernel) (by decide +kernel)), (lw_gin 579 (by decide +kernel) (by decide +kernel)), (lw_gin 66 (by decide +kernel) (by decide +kernel))⟩, (lw_gin 580 (by decide +kernel) (by decide +kernel)), by decide +kernel, by decide +kernel, by decide +kernel, by decide⟩
theorem cv_X6_98 : CV RX6 98 mX1_lastNumber 1 := ⟨⟨(lw_gin 733 (by decide +kernel) (by decide +kernel)), (lw_gin 734 (by decide +kernel) (by decide +kernel)), (lw_gin 735 (by decide +kernel) (by decide +kernel)), (lw_gin 66 (by decide +kernel) (by decide +kernel))⟩, (lw_gin 736 (by decide +kernel) (by decide +kernel)), by decide +kernel, by decide +kernel, by decide +kernel, by decide⟩
theorem cv_X6_105 : CV RX6 105 mX7_begin 0 := ⟨⟨(lw_gin 469 (by decide +kernel) (by decide +kernel)), (lw_gin 470 (by decide +kernel) (by decide +kernel)), (lw_gin 471 (by decide +kernel) (by decide +kernel)), (lw_gin 67 (by decide +kernel) (by decide +kernel))⟩, (lw_gin 472 (by decide +kernel) (by decide +kernel)), by decide +kernel, by decide +kernel, by decide +kernel, by decide⟩
theorem cv_X6_109 : CV RX6 109 mX7_step 0 := ⟨⟨(lw_gin 474 (by decide +kernel) (by decide +kernel)), (lw_gin 475 (by decide +kernel) (by decide +kernel)), (lw_gin 476 (by decide +kernel) (by decide +kernel)), (lw_gin 67 (by decide +kernel) (by decide +kernel))⟩, (lw_gin 477 (by decide +kernel) (by decide +kernel)), by decide +kernel, by decide +kernel, by decide +kernel, by decide⟩
theorem cv_X6_113 : CV RX6 113 mX6_isCounted 0 := ⟨⟨(lw_gin 737 (by decide +kernel) (by decide +kernel)), (lw_gin 739 (by decide +kernel) (by decide +kernel)), (lw_gin 23 (by decide +kernel) (by decide +kernel)), (lw_gin 65 (by decide +kernel) (by decide +kernel))⟩, (lw_gin 740 (by decide +kernel) (by decide +kernel)), by decide +kernel, by decide +kernel, by decide +kernel, by decide⟩
theorem cv_X6_131 : CV RX6 131 mX7_isSaid 1 := ⟨⟨(lw_gin 613 (by decide +kernel) (by decide +kernel)), (lw_gin 614 (by decide +kernel) (by decide +kernel)), (lw_gin 615 (by decide +kernel) (by decide +kernel)), (lw_gin 67 (by decide +kernel) (by decide +kernel))⟩, (lw_gin 616 (by decide +kernel) (by decide +kernel)), by decide +kernel, by decide +kernel, by decide +kernel, by decide⟩
theorem cv_X6_135 : CV RX6 135 mX6_isSound 0 := ⟨⟨(lw_gin 511 (by decide +kernel) (by decide +kernel)), (lw_gin 513 (by decide +kernel) (by decide +kernel)), (lw_gin 14 (by decide +kernel) (by decide +kernel)), (lw_gin 65 (by decide +kernel) (by decide +kernel))⟩, (lw_gin 514 (by decide +kernel) (by decide +kernel)), by decide +kernel, by decide +kernel, by decide +kernel, by decide⟩
theorem cv_X6_138 : CV RX6 138 mX6_weigh 1 := ⟨⟨(lw_gin 749 (by decide +kernel) (by decide +kernel)), (lw_gin 751 (by decide +kernel) (by decide +kernel)), (lw_gin 24 (by decide +kernel) (by decide +kernel)), (lw_gin 65 (by decide +kernel) (by decide +kernel))⟩, (lw_gin 752 (by decide +kernel) (by decide +kernel)), by decide +kernel, by decide +kernel, by decide +kernel, by decide⟩
theorem cv_X6_155 : CV RX6 155 mX5_tells 4 := ⟨⟨(lw_gin 792 (by decide +kernel) (by decide +kernel)), (lw_gin 793 (by decide +kernel) (by decide +kernel)), (lw_gin 794 (by decide +kernel) (by decide +kernel)), (lw_gin 68 (by decide +kernel) (by decide +kernel))⟩, (lw_gin 795 (by decide +kernel) (by decide +kernel)), by decide +kernel, by decide +kernel, by decide +kernel, by decide⟩
theorem cv_X6_173 : CV RX6 173 mX6_keepBest 0 := ⟨⟨(lw_gin 527 (by decide +kernel) (by decide +kernel)), (lw_gin 529 (by decide +kernel) (by decide +kernel)), (lw_gin 15 (by decide +kernel) (by decide +kernel)), (lw_gin 65 (by decide +kernel) (by decide +kernel))⟩, (lw_gin 530 (by decide +kernel) (by decide +kernel)), by decide +kernel, by decide +kernel, by decide +kernel, by decide⟩
theorem cv_X6_176 : CV RX6 176 mX7_pick 1 := ⟨⟨(lw_gin 532 (by decide +kernel) (by decide +kernel)), (lw_gin 533 (by decide +kernel) (by decide +kernel)), (lw_gin 534 (by decide +kernel) (by decide +kernel)), (lw_gin 67 (by decide +kernel) (by decide +kernel))⟩, (lw_gin 535 (by decide +kernel) (by decide +kernel)), by decide +kernel, by decide +kernel, by decide +kernel, by decide⟩
theorem cv_X6_179 : CV RX6 179 mX1_clear 0 := ⟨⟨(lw_gin 548 (by decide +kernel) (by decide +kernel)), (lw_gin 549 (by decide +kernel) (by decide +kernel)), (lw_gin 550 (by decide +kernel) (by decide +kernel)), (lw_gin 66 (by decide +kernel) (by decide +kernel))⟩, (lw_gin 551 (by decide +kernel) (by decide +kernel)), by decide +kernel, by decide +kernel, by decide +kernel, by decide⟩
theorem cv_X6_182 : CV RX6 182 mX1_add 2 := ⟨⟨(lw_gin 552 (by decide +kernel) (by decide +kernel)), (lw_gin 553 (by decide +kernel) (by decide +kernel)), (lw_gin 554 (by decide +kernel) (by decide +kernel)), (lw_gin 66 (by decide +kernel) (by decide +kernel))⟩, (lw_gin 555 (by decide +kernel) (by decide +kernel)), by decide +kernel, by decide +kernel, by decide +kernel, by decide⟩
theorem cv_X6_186 : CV RX6 186 mX6_tellsBest 0 := ⟨⟨(lw_gin 558 (by decide +kernel) (by decide +kernel)), (lw_gin 560 (by decide +kernel) (by decide +kernel)), (lw_gin 17 (by decide +kernel) (by decide +kernel)), (lw_gin 65 (by decide +kernel) (by decide +kernel))⟩, (lw_gin 561 (by decide +kernel) (by decide +kernel)), by decide +kernel, by decide +kernel, by decide +kernel, by decide⟩
theorem k_X6_108 : Cond.constant RX6 108 (Int32.ofInt (65536)) ∈ lw_g := (lw_gin 473 (by decide +kernel) (by decide +kernel))
theorem k_X6_153 : Cond.constantLong RX6 153 (Int64.ofInt (-4)) ∈ lw_g := (lw_gin 756 (by decide +kernel) (by decide +kernel))
theorem fp_X6_44 : FP RX6 44 5 3 .boolean := ⟨_, _, _, tyX6, rfl, by decide, in_X6, (lw_gin 264 (by decide +kernel) (by decide +kernel)), tyX6_ok, nmX6, rfl, rfl⟩
theorem fp_X6_48 : FP RX6 48 0 0 .boolean := ⟨_, _, _, tyX1, rfl, by decide, in_X1, (lw_gin 179 (by decide +kernel) (by decide +kernel)), tyX1_ok, nmX1, rfl, rfl⟩
theorem fp_X6_51 : FP RX6 51 5 13 .boolean := ⟨_, _, _, tyX6, rfl, by decide, in_X6, (lw_gin 274 (by decide +kernel) (by decide +kernel)), tyX6_ok, nmX6, rfl, rfl⟩
theorem fp_X6_57 : FP RX6 57 5 4 .int := ⟨_, _, _, tyX6, rfl, by decide, in_X6, (lw_gin 265 (by decide +kernel) (by decide +kernel)), tyX6_ok, nmX6, rfl, rfl⟩
theorem fp_X6_61 : FP RX6 61 5 5 .int := ⟨_, _, _, tyX6, rfl, by decide, in_X6, (lw_gin 266 (by decide +kernel) (by decide +kernel)), tyX6_ok, nmX6, rfl, rfl⟩
theorem fp_X6_64 : FP RX6 64 5 6 .int := ⟨_, _, _, tyX6, rfl, by decide, in_X6, (lw_gin 267 (by decide +kernel) (by decide +kernel)), tyX6_ok, nmX6, rfl, rfl⟩
theorem fp_X6_67 : FP RX6 67 5 7 .int := ⟨_, _, _, tyX6, rfl, by decide, in_X6, (lw_gin 268 (by decide +kernel) (by decide +kernel)), tyX6_ok, nmX6, rfl, rfl⟩
theorem fp_X6_92 : FP RX6 92 5 8 .int := ⟨_, _, _, tyX6, rfl, by decide, in_X6, (lw_gin 269 (by decide +kernel) (by decide +kernel)), tyX6_ok, nmX6, rfl, rfl⟩
theorem fp_X6_142 : FP RX6 142 5 16 .long := ⟨_, _, _, tyX6, rfl, by decide, in_X6, (lw_gin 277 (by decide +kernel) (by decide +kernel)), tyX6_ok, nmX6, rfl, rfl⟩
theorem fp_X6_146 : FP RX6 146 5 15 .long := ⟨_, _, _, tyX6, rfl, by decide, in_X6, (lw_gin 276 (by decide +kernel) (by decide +kernel)), tyX6_ok, nmX6, rfl, rfl⟩
theorem fp_X6_189 : FP RX6 189 5 14 .int := ⟨_, _, _, tyX6, rfl, by decide, in_X6, (lw_gin 275 (by decide +kernel) (by decide +kernel)), tyX6_ok, nmX6, rfl, rfl⟩
theorem fl_X7_9 : FL RX7 9 6 1 := ⟨_, _, _, rfl, by decide, in_X7, (lw_gin 215 (by decide +kernel) (by decide +kernel))⟩
theorem fl_X7_15 : FL RX7 15 6 2 := ⟨_, _, _, rfl, by decide, in_X7, (lw_gin 216 (by decide +kernel) (by decide +kernel))⟩
theorem fl_X7_18 : FL RX7 18 6 3 := ⟨_, _, _, rfl, by decide, in_X7, (lw_gin 217 (by decide +kernel) (by decide +kernel))⟩
theorem fl_X7_21 : FL RX7 21 6 4 := ⟨_, _, _, rfl, by decide, in_X7, (lw_gin 218 (by decide +kernel) (by decide +kernel))⟩
theorem fl_X7_24 : FL RX7 24 6 5 := ⟨_, _, _, rfl, by decide, in_X7, (lw_gin 219 (by decide +kernel) (by decide +kernel))⟩
theorem fl_X7_27 : FL RX7 27 6 6 := ⟨_, _, _, rfl, by decide, in_X7, (lw_gin 220 (by decide +kernel) (by decide +kernel))⟩
theorem fl_X7_30 : FL RX7 30 6 7 := ⟨_, _, _, rfl, by decide, in_X7, (lw_gin 221 (by decide +kernel) (by decide +kernel))⟩
theorem fl_X7_34 : FL RX7 34 6 9 := ⟨_, _, _, rfl, by decide, in_X7, (lw_gin 223 (by decide +kernel) (by decide +kernel))⟩
theorem fl_X7_37 : FL RX7 37 6 0 := ⟨_, _, _, rfl, by decide, in_X7, (lw_gin 214 (by decide +kernel) (by decide +kernel))⟩
theorem fl_X7_41 : FL RX7 41 6 8 := ⟨_, _, _, rfl, by decide, in_X7, (lw_gin 222 (by decide +kernel) (by decide +kernel))⟩
theorem fl_X7_46 : FL RX7 46 1 3 := ⟨_, _, _, rfl, by decide, in_X2, (lw_gin 100 (by decide +kernel) (by decide +kernel))⟩
theorem fl_X7_55 : FL RX7 55 1 0 := ⟨_, _, _, rfl, by decide, in_X2, (lw_gin 89 (by decide +kernel) (by decide +kernel))⟩
theorem fl_X7_78 : FL RX7 78 1 2 := ⟨_, _, _, rfl, by decide, in_X2, (lw_gin 98 (by decide +kernel) (by decide +kernel))⟩
theorem fl_X7_80 : FL RX7 80 1 1 := ⟨_, _, _, rfl, by decide, in_X2, (lw_gin 95 (by decide +kernel) (by decide +kernel))⟩
theorem cv_X7_51 : CV RX7 51 mX7_finish 1 := ⟨⟨(lw_gin 479 (by decide +kernel) (by decide +kernel)), (lw_gin 481 (by decide +kernel) (by decide +kernel)), (lw_gin 6 (by decide +kernel) (by decide +kernel)), (lw_gin 67 (by decide +kernel) (by decide +kernel))⟩, (lw_gin 482 (by decide +kernel) (by decide +kernel)), by decide +kernel, by decide +kernel, by decide +kernel, by decide⟩
theorem cv_X7_58 : CV RX7 58 mX7_enter 2 := ⟨⟨(lw_gin 487 (by decide +kernel) (by decide +kernel)), (lw_gin 489 (by decide +kernel) (by decide +kernel)), (lw_gin 8 (by decide +kernel) (by decide +kernel)), (lw_gin 67 (by decide +kernel) (by decide +kernel))⟩, (lw_gin 490 (by decide +kernel) (by decide +kernel)), by decide +kernel, by decide +kernel, by decide +kernel, by decide⟩
theorem cv_X7_62 : CV RX7 62 mX7_begin 0 := ⟨⟨(lw_gin 617 (by decide +kernel) (by decide +kernel)), (lw_gin 470 (by decide +kernel) (by decide +kernel)), (lw_gin 471 (by decide +kernel) (by decide +kernel)), (lw_gin 67 (by decide +kernel) (by decide +kernel))⟩, (lw_gin 472 (by decide +kernel) (by decide +kernel)), by decide +kernel, by decide +kernel, by decide +kernel, by decide⟩
theorem cv_X7_65 : CV RX7 65 mX7_isWhole 1 := ⟨⟨(lw_gin 483 (by decide +kernel) (by decide +kernel)), (lw_gin 485 (by decide +kernel) (by decide +kernel)), (lw_gin 7 (by decide +kernel) (by decide +kernel)), (lw_gin 67 (by decide +kernel) (by decide +kernel))⟩, (lw_gin 486 (by decide +kernel) (by decide +kernel)), by decide +kernel, by decide +kernel, by decide +kernel, by decide⟩
theorem cv_X7_83 : CV RX7 83 mX7_passStop 1 := ⟨⟨(lw_gin 491 (by decide +kernel) (by decide +kernel)), (lw_gin 493 (by decide +kernel) (by decide +kernel)), (lw_gin 9 (by decide +kernel) (by decide +kernel)), (lw_gin 67 (by decide +kernel) (by decide +kernel))⟩, (lw_gin 494 (by decide +kernel) (by decide +kernel)), by decide +kernel, by decide +kernel, by decide +kernel, by decide⟩
theorem cv_X7_86 : CV RX7 86 mX7_passAnd 1 := ⟨⟨(lw_gin 495 (by decide +kernel) (by decide +kernel)), (lw_gin 497 (by decide +kernel) (by decide +kernel)), (lw_gin 10 (by decide +kernel) (by decide +kernel)), (lw_gin 67 (by decide +kernel) (by decide +kernel))⟩, (lw_gin 498 (by decide +kernel) (by decide +kernel)), by decide +kernel, by decide +kernel, by decide +kernel, by decide⟩
theorem cv_X7_89 : CV RX7 89 mX7_passHundred 1 := ⟨⟨(lw_gin 499 (by decide +kernel) (by decide +kernel)), (lw_gin 501 (by decide +kernel) (by decide +kernel)), (lw_gin 11 (by decide +kernel) (by decide +kernel)), (lw_gin 67 (by decide +kernel) (by decide +kernel))⟩, (lw_gin 502 (by decide +kernel) (by decide +kernel)), by decide +kernel, by decide +kernel, by decide +kernel, by decide⟩
theorem cv_X7_92 : CV RX7 92 mX7_passThousand 1 := ⟨⟨(lw_gin 503 (by decide +kernel) (by decide +kernel)), (lw_gin 505 (by decide +kernel) (by decide +kernel)), (lw_gin 12 (by decide +kernel) (by decide +kernel)), (lw_gin 67 (by decide +kernel) (by decide +kernel))⟩, (lw_gin 506 (by decide +kernel) (by decide +kernel)), by decide +kernel, by decide +kernel, by decide +kernel, by decide⟩
theorem cv_X7_95 : CV RX7 95 mX7_passLow 2 := ⟨⟨(lw_gin 507 (by decide +kernel) (by decide +kernel)), (lw_gin 509 (by decide +kernel) (by decide +kernel)), (lw_gin 13 (by decide +kernel) (by decide +kernel)), (lw_gin 67 (by decide +kernel) (by decide +kernel))⟩, (lw_gin 510 (by decide +kernel) (by decide +kernel)), by decide +kernel, by decide +kernel, by decide +kernel, by decide⟩
theorem k_X7_45 : Cond.constant RX7 45 (Int32.ofInt (1000000)) ∈ lw_g := (lw_gin 478 (by decide +kernel) (by decide +kernel))
theorem fp_X7_41 : FP RX7 41 6 8 .int := ⟨_, _, _, tyX7, rfl, by decide, in_X7, (lw_gin 222 (by decide +kernel) (by decide +kernel)), tyX7_ok, nmX7, rfl, rfl⟩
theorem fp_X7_68 : FP RX7 68 6 10 .int := ⟨_, _, _, tyX7, rfl, by decide, in_X7, (lw_gin 227 (by decide +kernel) (by decide +kernel)), tyX7_ok, nmX7, rfl, rfl⟩
theorem fp_X7_71 : FP RX7 71 6 11 .int := ⟨_, _, _, tyX7, rfl, by decide, in_X7, (lw_gin 230 (by decide +kernel) (by decide +kernel)), tyX7_ok, nmX7, rfl, rfl⟩
theorem fp_X7_74 : FP RX7 74 6 12 .long := ⟨_, _, _, tyX7, rfl, by decide, in_X7, (lw_gin 232 (by decide +kernel) (by decide +kernel)), tyX7_ok, nmX7, rfl, rfl⟩
theorem cv_L_13 : CV RL 13 mX8_type 1 := ⟨⟨(lw_gin 361 (by decide +kernel) (by decide +kernel)), (lw_gin 362 (by decide +kernel) (by decide +kernel)), (lw_gin 363 (by decide +kernel) (by decide +kernel)), (lw_gin 61 (by decide +kernel) (by decide +kernel))⟩, (lw_gin 364 (by decide +kernel) (by decide +kernel)), by decide +kernel, by decide +kernel, by decide +kernel, by decide⟩
theorem cv_L_17 : CV RL 17 mX9_type 1 := ⟨⟨(lw_gin 1046 (by decide +kernel) (by decide +kernel)), (lw_gin 1047 (by decide +kernel) (by decide +kernel)), (lw_gin 1048 (by decide +kernel) (by decide +kernel)), (lw_gin 69 (by decide +kernel) (by decide +kernel))⟩, (lw_gin 1049 (by decide +kernel) (by decide +kernel)), by decide +kernel, by decide +kernel, by decide +kernel, by decide⟩
theorem cv_L_18 : CV RL 18 mX8_words 0 := ⟨⟨(lw_gin 369 (by decide +kernel) (by decide +kernel)), (lw_gin 370 (by decide +kernel) (by decide +kernel)), (lw_gin 371 (by decide +kernel) (by decide +kernel)), (lw_gin 61 (by decide +kernel) (by decide +kernel))⟩, (lw_gin 372 (by decide +kernel) (by decide +kernel)), by decide +kernel, by decide +kernel, by decide +kernel, by decide⟩
theorem cv_L_22 : CV RL 22 mX9_words 0 := ⟨⟨(lw_gin 1052 (by decide +kernel) (by decide +kernel)), (lw_gin 1053 (by decide +kernel) (by decide +kernel)), (lw_gin 1054 (by decide +kernel) (by decide +kernel)), (lw_gin 69 (by decide +kernel) (by decide +kernel))⟩, (lw_gin 1055 (by decide +kernel) (by decide +kernel)), by decide +kernel, by decide +kernel, by decide +kernel, by decide⟩
theorem cv_L_23 : CV RL 23 mX8_say 1 := ⟨⟨(lw_gin 437 (by decide +kernel) (by decide +kernel)), (lw_gin 438 (by decide +kernel) (by decide +kernel)), (lw_gin 439 (by decide +kernel) (by decide +kernel)), (lw_gin 61 (by decide +kernel) (by decide +kernel))⟩, (lw_gin 440 (by decide +kernel) (by decide +kernel)), by decide +kernel, by decide +kernel, by decide +kernel, by decide⟩
theorem cv_L_26 : CV RL 26 mX9_say 1 := ⟨⟨(lw_gin 1085 (by decide +kernel) (by decide +kernel)), (lw_gin 1086 (by decide +kernel) (by decide +kernel)), (lw_gin 1087 (by decide +kernel) (by decide +kernel)), (lw_gin 69 (by decide +kernel) (by decide +kernel))⟩, (lw_gin 1088 (by decide +kernel) (by decide +kernel)), by decide +kernel, by decide +kernel, by decide +kernel, by decide⟩
theorem cv_L_27 : CV RL 27 mX8_slot 3 := ⟨⟨(lw_gin 452 (by decide +kernel) (by decide +kernel)), (lw_gin 453 (by decide +kernel) (by decide +kernel)), (lw_gin 454 (by decide +kernel) (by decide +kernel)), (lw_gin 61 (by decide +kernel) (by decide +kernel))⟩, (lw_gin 455 (by decide +kernel) (by decide +kernel)), by decide +kernel, by decide +kernel, by decide +kernel, by decide⟩
theorem cv_L_31 : CV RL 31 mX9_slot 3 := ⟨⟨(lw_gin 948 (by decide +kernel) (by decide +kernel)), (lw_gin 949 (by decide +kernel) (by decide +kernel)), (lw_gin 950 (by decide +kernel) (by decide +kernel)), (lw_gin 69 (by decide +kernel) (by decide +kernel))⟩, (lw_gin 951 (by decide +kernel) (by decide +kernel)), by decide +kernel, by decide +kernel, by decide +kernel, by decide⟩
theorem cv_L_32 : CV RL 32 mX8_count 1 := ⟨⟨(lw_gin 457 (by decide +kernel) (by decide +kernel)), (lw_gin 458 (by decide +kernel) (by decide +kernel)), (lw_gin 459 (by decide +kernel) (by decide +kernel)), (lw_gin 61 (by decide +kernel) (by decide +kernel))⟩, (lw_gin 460 (by decide +kernel) (by decide +kernel)), by decide +kernel, by decide +kernel, by decide +kernel, by decide⟩
theorem cv_L_35 : CV RL 35 mX9_count 1 := ⟨⟨(lw_gin 963 (by decide +kernel) (by decide +kernel)), (lw_gin 964 (by decide +kernel) (by decide +kernel)), (lw_gin 965 (by decide +kernel) (by decide +kernel)), (lw_gin 69 (by decide +kernel) (by decide +kernel))⟩, (lw_gin 966 (by decide +kernel) (by decide +kernel)), by decide +kernel, by decide +kernel, by decide +kernel, by decide⟩
theorem cv_L_36 : CV RL 36 mX8_hear 2 := ⟨⟨(lw_gin 618 (by decide +kernel) (by decide +kernel)), (lw_gin 619 (by decide +kernel) (by decide +kernel)), (lw_gin 620 (by decide +kernel) (by decide +kernel)), (lw_gin 61 (by decide +kernel) (by decide +kernel))⟩, (lw_gin 621 (by decide +kernel) (by decide +kernel)), by decide +kernel, by decide +kernel, by decide +kernel, by decide⟩
theorem cv_L_40 : CV RL 40 mX9_hear 2 := ⟨⟨(lw_gin 1102 (by decide +kernel) (by decide +kernel)), (lw_gin 1103 (by decide +kernel) (by decide +kernel)), (lw_gin 1104 (by decide +kernel) (by decide +kernel)), (lw_gin 69 (by decide +kernel) (by decide +kernel))⟩, (lw_gin 1105 (by decide +kernel) (by decide +kernel)), by decide +kernel, by decide +kernel, by decide +kernel, by decide⟩
theorem cv_L_41 : CV RL 41 mX8_also 3 := ⟨⟨(lw_gin 642 (by decide +kernel) (by decide +kernel)), (lw_gin 643 (by decide +kernel) (by decide +kernel)), (lw_gin 644 (by decide +kernel) (by decide +kernel)), (lw_gin 61 (by decide +kernel) (by decide +kernel))⟩, (lw_gin 645 (by decide +kernel) (by decide +kernel)), by decide +kernel, by decide +kernel, by decide +kernel, by decide⟩
theorem cv_L_44 : CV RL 44 mX9_also 3 := ⟨⟨(lw_gin 1114 (by decide +kernel) (by decide +kernel)), (lw_gin 1115 (by decide +kernel) (by decide +kernel)), (lw_gin 1116 (by decide +kernel) (by decide +kernel)), (lw_gin 69 (by decide +kernel) (by decide +kernel))⟩, (lw_gin 1117 (by decide +kernel) (by decide +kernel)), by decide +kernel, by decide +kernel, by decide +kernel, by decide⟩
theorem cv_L_45 : CV RL 45 mX8_lose 1 := ⟨⟨(lw_gin 648 (by decide +kernel) (by decide +kernel)), (lw_gin 649 (by decide +kernel) (by decide +kernel)), (lw_gin 650 (by decide +kernel) (by decide +kernel)), (lw_gin 61 (by decide +kernel) (by decide +kernel))⟩, (lw_gin 651 (by decide +kernel) (by decide +kernel)), by decide +kernel, by decide +kernel, by decide +kernel, by decide⟩
theorem cv_L_48 : CV RL 48 mX9_lose 1 := ⟨⟨(lw_gin 1126 (by decide +kernel) (by decide +kernel)), (lw_gin 1127 (by decide +kernel) (by decide +kernel)), (lw_gin 1128 (by decide +kernel) (by decide +kernel)), (lw_gin 69 (by decide +kernel) (by decide +kernel))⟩, (lw_gin 1129 (by decide +kernel) (by decide +kernel)), by decide +kernel, by decide +kernel, by decide +kernel, by decide⟩
theorem cv_L_49 : CV RL 49 mX8_settle 2 := ⟨⟨(lw_gin 656 (by decide +kernel) (by decide +kernel)), (lw_gin 657 (by decide +kernel) (by decide +kernel)), (lw_gin 658 (by decide +kernel) (by decide +kernel)), (lw_gin 61 (by decide +kernel) (by decide +kernel))⟩, (lw_gin 659 (by decide +kernel) (by decide +kernel)), by decide +kernel, by decide +kernel, by decide +kernel, by decide⟩
theorem cv_L_52 : CV RL 52 mX9_settle 2 := ⟨⟨(lw_gin 1130 (by decide +kernel) (by decide +kernel)), (lw_gin 1131 (by decide +kernel) (by decide +kernel)), (lw_gin 1132 (by decide +kernel) (by decide +kernel)), (lw_gin 69 (by decide +kernel) (by decide +kernel))⟩, (lw_gin 1133 (by decide +kernel) (by decide +kernel)), by decide +kernel, by decide +kernel, by decide +kernel, by decide⟩
theorem cv_L_53 : CV RL 53 mX8_check 1 := ⟨⟨(lw_gin 664 (by decide +kernel) (by decide +kernel)), (lw_gin 665 (by decide +kernel) (by decide +kernel)), (lw_gin 666 (by decide +kernel) (by decide +kernel)), (lw_gin 61 (by decide +kernel) (by decide +kernel))⟩, (lw_gin 667 (by decide +kernel) (by decide +kernel)), by decide +kernel, by decide +kernel, by decide +kernel, by decide⟩
theorem cv_L_56 : CV RL 56 mX9_check 1 := ⟨⟨(lw_gin 1134 (by decide +kernel) (by decide +kernel)), (lw_gin 1135 (by decide +kernel) (by decide +kernel)), (lw_gin 1136 (by decide +kernel) (by decide +kernel)), (lw_gin 69 (by decide +kernel) (by decide +kernel))⟩, (lw_gin 1137 (by decide +kernel) (by decide +kernel)), by decide +kernel, by decide +kernel, by decide +kernel, by decide⟩
theorem cv_L_57 : CV RL 57 mX8_slack 1 := ⟨⟨(lw_gin 668 (by decide +kernel) (by decide +kernel)), (lw_gin 669 (by decide +kernel) (by decide +kernel)), (lw_gin 670 (by decide +kernel) (by decide +kernel)), (lw_gin 61 (by decide +kernel) (by decide +kernel))⟩, (lw_gin 671 (by decide +kernel) (by decide +kernel)), by decide +kernel, by decide +kernel, by decide +kernel, by decide⟩
theorem cv_L_60 : CV RL 60 mX9_slack 1 := ⟨⟨(lw_gin 1139 (by decide +kernel) (by decide +kernel)), (lw_gin 1140 (by decide +kernel) (by decide +kernel)), (lw_gin 1141 (by decide +kernel) (by decide +kernel)), (lw_gin 69 (by decide +kernel) (by decide +kernel))⟩, (lw_gin 1142 (by decide +kernel) (by decide +kernel)), by decide +kernel, by decide +kernel, by decide +kernel, by decide⟩
theorem cv_L_61 : CV RL 61 mX8_storm 1 := ⟨⟨(lw_gin 672 (by decide +kernel) (by decide +kernel)), (lw_gin 673 (by decide +kernel) (by decide +kernel)), (lw_gin 674 (by decide +kernel) (by decide +kernel)), (lw_gin 61 (by decide +kernel) (by decide +kernel))⟩, (lw_gin 675 (by decide +kernel) (by decide +kernel)), by decide +kernel, by decide +kernel, by decide +kernel, by decide⟩
theorem cv_L_64 : CV RL 64 mX9_storm 1 := ⟨⟨(lw_gin 1143 (by decide +kernel) (by decide +kernel)), (lw_gin 1144 (by decide +kernel) (by decide +kernel)), (lw_gin 1145 (by decide +kernel) (by decide +kernel)), (lw_gin 69 (by decide +kernel) (by decide +kernel))⟩, (lw_gin 1146 (by decide +kernel) (by decide +kernel)), by decide +kernel, by decide +kernel, by decide +kernel, by decide⟩
theorem cv_L_65 : CV RL 65 mX8_undo 0 := ⟨⟨(lw_gin 688 (by decide +kernel) (by decide +kernel)), (lw_gin 689 (by decide +kernel) (by decide +kernel)), (lw_gin 690 (by decide +kernel) (by decide +kernel)), (lw_gin 61 (by decide +kernel) (by decide +kernel))⟩, (lw_gin 691 (by decide +kernel) (by decide +kernel)), by decide +kernel, by decide +kernel, by decide +kernel, by decide⟩
theorem cv_L_68 : CV RL 68 mX9_undo 0 := ⟨⟨(lw_gin 1152 (by decide +kernel) (by decide +kernel)), (lw_gin 1153 (by decide +kernel) (by decide +kernel)), (lw_gin 1154 (by decide +kernel) (by decide +kernel)), (lw_gin 69 (by decide +kernel) (by decide +kernel))⟩, (lw_gin 1155 (by decide +kernel) (by decide +kernel)), by decide +kernel, by decide +kernel, by decide +kernel, by decide⟩
theorem cv_L_69 : CV RL 69 mX8_seed 1 := ⟨⟨(lw_gin 696 (by decide +kernel) (by decide +kernel)), (lw_gin 697 (by decide +kernel) (by decide +kernel)), (lw_gin 698 (by decide +kernel) (by decide +kernel)), (lw_gin 61 (by decide +kernel) (by decide +kernel))⟩, (lw_gin 699 (by decide +kernel) (by decide +kernel)), by decide +kernel, by decide +kernel, by decide +kernel, by decide⟩
theorem cv_L_72 : CV RL 72 mX9_seed 1 := ⟨⟨(lw_gin 1156 (by decide +kernel) (by decide +kernel)), (lw_gin 1157 (by decide +kernel) (by decide +kernel)), (lw_gin 1158 (by decide +kernel) (by decide +kernel)), (lw_gin 69 (by decide +kernel) (by decide +kernel))⟩, (lw_gin 1159 (by decide +kernel) (by decide +kernel)), by decide +kernel, by decide +kernel, by decide +kernel, by decide⟩
theorem cv_L_73 : CV RL 73 mX8_best 1 := ⟨⟨(lw_gin 700 (by decide +kernel) (by decide +kernel)), (lw_gin 701 (by decide +kernel) (by decide +kernel)), (lw_gin 702 (by decide +kernel) (by decide +kernel)), (lw_gin 61 (by decide +kernel) (by decide +kernel))⟩, (lw_gin 703 (by decide +kernel) (by decide +kernel)), by decide +kernel, by decide +kernel, by decide +kernel, by decide⟩
theorem cv_L_76 : CV RL 76 mX9_best 1 := ⟨⟨(lw_gin 1160 (by decide +kernel) (by decide +kernel)), (lw_gin 1161 (by decide +kernel) (by decide +kernel)), (lw_gin 1162 (by decide +kernel) (by decide +kernel)), (lw_gin 69 (by decide +kernel) (by decide +kernel))⟩, (lw_gin 1163 (by decide +kernel) (by decide +kernel)), by decide +kernel, by decide +kernel, by decide +kernel, by decide⟩
theorem cv_L_77 : CV RL 77 mX8_taken 1 := ⟨⟨(lw_gin 708 (by decide +kernel) (by decide +kernel)), (lw_gin 709 (by decide +kernel) (by decide +kernel)), (lw_gin 710 (by decide +kernel) (by decide +kernel)), (lw_gin 61 (by decide +kernel) (by decide +kernel))⟩, (lw_gin 711 (by decide +kernel) (by decide +kernel)), by decide +kernel, by decide +kernel, by decide +kernel, by decide⟩
theorem cv_L_80 : CV RL 80 mX9_taken 1 := ⟨⟨(lw_gin 1164 (by decide +kernel) (by decide +kernel)), (lw_gin 1165 (by decide +kernel) (by decide +kernel)), (lw_gin 1166 (by decide +kernel) (by decide +kernel)), (lw_gin 69 (by decide +kernel) (by decide +kernel))⟩, (lw_gin 1167 (by decide +kernel) (by decide +kernel)), by decide +kernel, by decide +kernel, by decide +kernel, by decide⟩
theorem cv_L_81 : CV RL 81 mX8_open 1 := ⟨⟨(lw_gin 716 (by decide +kernel) (by decide +kernel)), (lw_gin 717 (by decide +kernel) (by decide +kernel)), (lw_gin 718 (by decide +kernel) (by decide +kernel)), (lw_gin 61 (by decide +kernel) (by decide +kernel))⟩, (lw_gin 719 (by decide +kernel) (by decide +kernel)), by decide +kernel, by decide +kernel, by decide +kernel, by decide⟩
theorem cv_L_85 : CV RL 85 mX9_open 1 := ⟨⟨(lw_gin 1168 (by decide +kernel) (by decide +kernel)), (lw_gin 1169 (by decide +kernel) (by decide +kernel)), (lw_gin 1170 (by decide +kernel) (by decide +kernel)), (lw_gin 69 (by decide +kernel) (by decide +kernel))⟩, (lw_gin 1171 (by decide +kernel) (by decide +kernel)), by decide +kernel, by decide +kernel, by decide +kernel, by decide⟩
theorem cv_L_86 : CV RL 86 mX8_counted 2 := ⟨⟨(lw_gin 725 (by decide +kernel) (by decide +kernel)), (lw_gin 726 (by decide +kernel) (by decide +kernel)), (lw_gin 727 (by decide +kernel) (by decide +kernel)), (lw_gin 61 (by decide +kernel) (by decide +kernel))⟩, (lw_gin 728 (by decide +kernel) (by decide +kernel)), by decide +kernel, by decide +kernel, by decide +kernel, by decide⟩
theorem cv_L_89 : CV RL 89 mX9_counted 2 := ⟨⟨(lw_gin 1173 (by decide +kernel) (by decide +kernel)), (lw_gin 1174 (by decide +kernel) (by decide +kernel)), (lw_gin 1175 (by decide +kernel) (by decide +kernel)), (lw_gin 69 (by decide +kernel) (by decide +kernel))⟩, (lw_gin 1176 (by decide +kernel) (by decide +kernel)), by decide +kernel, by decide +kernel, by decide +kernel, by decide⟩
theorem cv_L_90 : CV RL 90 mX8_likely 2 := ⟨⟨(lw_gin 741 (by decide +kernel) (by decide +kernel)), (lw_gin 742 (by decide +kernel) (by decide +kernel)), (lw_gin 743 (by decide +kernel) (by decide +kernel)), (lw_gin 61 (by decide +kernel) (by decide +kernel))⟩, (lw_gin 744 (by decide +kernel) (by decide +kernel)), by decide +kernel, by decide +kernel, by decide +kernel, by decide⟩
theorem cv_L_94 : CV RL 94 mX9_likely 2 := ⟨⟨(lw_gin 1181 (by decide +kernel) (by decide +kernel)), (lw_gin 1182 (by decide +kernel) (by decide +kernel)), (lw_gin 1183 (by decide +kernel) (by decide +kernel)), (lw_gin 69 (by decide +kernel) (by decide +kernel))⟩, (lw_gin 1184 (by decide +kernel) (by decide +kernel)), by decide +kernel, by decide +kernel, by decide +kernel, by decide⟩
theorem cv_L_95 : CV RL 95 mX8_image 0 := ⟨⟨(lw_gin 757 (by decide +kernel) (by decide +kernel)), (lw_gin 758 (by decide +kernel) (by decide +kernel)), (lw_gin 759 (by decide +kernel) (by decide +kernel)), (lw_gin 61 (by decide +kernel) (by decide +kernel))⟩, (lw_gin 760 (by decide +kernel) (by decide +kernel)), by decide +kernel, by decide +kernel, by decide +kernel, by decide⟩
theorem cv_L_98 : CV RL 98 mX9_image 0 := ⟨⟨(lw_gin 1186 (by decide +kernel) (by decide +kernel)), (lw_gin 1187 (by decide +kernel) (by decide +kernel)), (lw_gin 1188 (by decide +kernel) (by decide +kernel)), (lw_gin 69 (by decide +kernel) (by decide +kernel))⟩, (lw_gin 1189 (by decide +kernel) (by decide +kernel)), by decide +kernel, by decide +kernel, by decide +kernel, by decide⟩
theorem cv_L_99 : CV RL 99 mX8_restore 0 := ⟨⟨(lw_gin 766 (by decide +kernel) (by decide +kernel)), (lw_gin 767 (by decide +kernel) (by decide +kernel)), (lw_gin 768 (by decide +kernel) (by decide +kernel)), (lw_gin 61 (by decide +kernel) (by decide +kernel))⟩, (lw_gin 769 (by decide +kernel) (by decide +kernel)), by decide +kernel, by decide +kernel, by decide +kernel, by decide⟩
theorem cv_L_102 : CV RL 102 mX9_restore 0 := ⟨⟨(lw_gin 1190 (by decide +kernel) (by decide +kernel)), (lw_gin 1191 (by decide +kernel) (by decide +kernel)), (lw_gin 1192 (by decide +kernel) (by decide +kernel)), (lw_gin 69 (by decide +kernel) (by decide +kernel))⟩, (lw_gin 1193 (by decide +kernel) (by decide +kernel)), by decide +kernel, by decide +kernel, by decide +kernel, by decide⟩
theorem cv_L_103 : CV RL 103 mX8_meant 4 := ⟨⟨(lw_gin 770 (by decide +kernel) (by decide +kernel)), (lw_gin 771 (by decide +kernel) (by decide +kernel)), (lw_gin 772 (by decide +kernel) (by decide +kernel)), (lw_gin 61 (by decide +kernel) (by decide +kernel))⟩, (lw_gin 773 (by decide +kernel) (by decide +kernel)), by decide +kernel, by decide +kernel, by decide +kernel, by decide⟩
theorem cv_L_107 : CV RL 107 mX9_meant 4 := ⟨⟨(lw_gin 1221 (by decide +kernel) (by decide +kernel)), (lw_gin 1222 (by decide +kernel) (by decide +kernel)), (lw_gin 1223 (by decide +kernel) (by decide +kernel)), (lw_gin 69 (by decide +kernel) (by decide +kernel))⟩, (lw_gin 1224 (by decide +kernel) (by decide +kernel)), by decide +kernel, by decide +kernel, by decide +kernel, by decide⟩
theorem cv_L_108 : CV RL 108 mX8_film 3 := ⟨⟨(lw_gin 796 (by decide +kernel) (by decide +kernel)), (lw_gin 797 (by decide +kernel) (by decide +kernel)), (lw_gin 798 (by decide +kernel) (by decide +kernel)), (lw_gin 61 (by decide +kernel) (by decide +kernel))⟩, (lw_gin 799 (by decide +kernel) (by decide +kernel)), by decide +kernel, by decide +kernel, by decide +kernel, by decide⟩
theorem cv_L_111 : CV RL 111 mX9_film 3 := ⟨⟨(lw_gin 1226 (by decide +kernel) (by decide +kernel)), (lw_gin 1227 (by decide +kernel) (by decide +kernel)), (lw_gin 1228 (by decide +kernel) (by decide +kernel)), (lw_gin 69 (by decide +kernel) (by decide +kernel))⟩, (lw_gin 1229 (by decide +kernel) (by decide +kernel)), by decide +kernel, by decide +kernel, by decide +kernel, by decide⟩
theorem cv_L_112 : CV RL 112 mX8_sheet 3 := ⟨⟨(lw_gin 808 (by decide +kernel) (by decide +kernel)), (lw_gin 809 (by decide +kernel) (by decide +kernel)), (lw_gin 810 (by decide +kernel) (by decide +kernel)), (lw_gin 61 (by decide +kernel) (by decide +kernel))⟩, (lw_gin 811 (by decide +kernel) (by decide +kernel)), by decide +kernel, by decide +kernel, by decide +kernel, by decide⟩
theorem cv_L_115 : CV RL 115 mX9_sheet 3 := ⟨⟨(lw_gin 1194 (by decide +kernel) (by decide +kernel)), (lw_gin 1195 (by decide +kernel) (by decide +kernel)), (lw_gin 1196 (by decide +kernel) (by decide +kernel)), (lw_gin 69 (by decide +kernel) (by decide +kernel))⟩, (lw_gin 1197 (by decide +kernel) (by decide +kernel)), by decide +kernel, by decide +kernel, by decide +kernel, by decide⟩
theorem cv_L_116 : CV RL 116 mX8_drop 1 := ⟨⟨(lw_gin 816 (by decide +kernel) (by decide +kernel)), (lw_gin 817 (by decide +kernel) (by decide +kernel)), (lw_gin 818 (by decide +kernel) (by decide +kernel)), (lw_gin 61 (by decide +kernel) (by decide +kernel))⟩, (lw_gin 819 (by decide +kernel) (by decide +kernel)), by decide +kernel, by decide +kernel, by decide +kernel, by decide⟩
theorem cv_L_119 : CV RL 119 mX9_drop 1 := ⟨⟨(lw_gin 1202 (by decide +kernel) (by decide +kernel)), (lw_gin 1203 (by decide +kernel) (by decide +kernel)), (lw_gin 1204 (by decide +kernel) (by decide +kernel)), (lw_gin 69 (by decide +kernel) (by decide +kernel))⟩, (lw_gin 1205 (by decide +kernel) (by decide +kernel)), by decide +kernel, by decide +kernel, by decide +kernel, by decide⟩
theorem cv_L_122 : CV RL 122 mX8_item 4 := ⟨⟨(lw_gin 820 (by decide +kernel) (by decide +kernel)), (lw_gin 821 (by decide +kernel) (by decide +kernel)), (lw_gin 822 (by decide +kernel) (by decide +kernel)), (lw_gin 61 (by decide +kernel) (by decide +kernel))⟩, (lw_gin 823 (by decide +kernel) (by decide +kernel)), by decide +kernel, by decide +kernel, by decide +kernel, by decide⟩
theorem cv_L_126 : CV RL 126 mX9_item 4 := ⟨⟨(lw_gin 1206 (by decide +kernel) (by decide +kernel)), (lw_gin 1207 (by decide +kernel) (by decide +kernel)), (lw_gin 1208 (by decide +kernel) (by decide +kernel)), (lw_gin 69 (by decide +kernel) (by decide +kernel))⟩, (lw_gin 1209 (by decide +kernel) (by decide +kernel)), by decide +kernel, by decide +kernel, by decide +kernel, by decide⟩
theorem cv_L_127 : CV RL 127 mX8_copy 5 := ⟨⟨(lw_gin 824 (by decide +kernel) (by decide +kernel)), (lw_gin 825 (by decide +kernel) (by decide +kernel)), (lw_gin 826 (by decide +kernel) (by decide +kernel)), (lw_gin 61 (by decide +kernel) (by decide +kernel))⟩, (lw_gin 827 (by decide +kernel) (by decide +kernel)), by decide +kernel, by decide +kernel, by decide +kernel, by decide⟩
theorem cv_L_131 : CV RL 131 mX9_copy 5 := ⟨⟨(lw_gin 1217 (by decide +kernel) (by decide +kernel)), (lw_gin 1218 (by decide +kernel) (by decide +kernel)), (lw_gin 1219 (by decide +kernel) (by decide +kernel)), (lw_gin 69 (by decide +kernel) (by decide +kernel))⟩, (lw_gin 1220 (by decide +kernel) (by decide +kernel)), by decide +kernel, by decide +kernel, by decide +kernel, by decide⟩
theorem k_L_120 : Cond.constantLong RL 120 (Int64.ofInt (4294967295)) ∈ lw_g := (lw_gin 1230 (by decide +kernel) (by decide +kernel))
theorem fl_X9_7 : FL RX9 7 8 0 := ⟨_, _, _, rfl, by decide, in_X9, (lw_gin 836 (by decide +kernel) (by decide +kernel))⟩
theorem fl_X9_13 : FL RX9 13 8 1 := ⟨_, _, _, rfl, by decide, in_X9, (lw_gin 837 (by decide +kernel) (by decide +kernel))⟩
theorem fl_X9_16 : FL RX9 16 8 2 := ⟨_, _, _, rfl, by decide, in_X9, (lw_gin 838 (by decide +kernel) (by decide +kernel))⟩
theorem fl_X9_19 : FL RX9 19 8 5 := ⟨_, _, _, rfl, by decide, in_X9, (lw_gin 841 (by decide +kernel) (by decide +kernel))⟩
theorem fl_X9_22 : FL RX9 22 8 12 := ⟨_, _, _, rfl, by decide, in_X9, (lw_gin 848 (by decide +kernel) (by decide +kernel))⟩
theorem fl_X9_25 : FL RX9 25 8 16 := ⟨_, _, _, rfl, by decide, in_X9, (lw_gin 852 (by decide +kernel) (by decide +kernel))⟩
theorem fl_X9_28 : FL RX9 28 8 17 := ⟨_, _, _, rfl, by decide, in_X9, (lw_gin 853 (by decide +kernel) (by decide +kernel))⟩
theorem fl_X9_31 : FL RX9 31 8 18 := ⟨_, _, _, rfl, by decide, in_X9, (lw_gin 854 (by decide +kernel) (by decide +kernel))⟩
theorem fl_X9_35 : FL RX9 35 8 19 := ⟨_, _, _, rfl, by decide, in_X9, (lw_gin 855 (by decide +kernel) (by decide +kernel))⟩
theorem fl_X9_38 : FL RX9 38 8 20 := ⟨_, _, _, rfl, by decide, in_X9, (lw_gin 856 (by decide +kernel) (by decide +kernel))⟩
theorem fl_X9_41 : FL RX9 41 8 22 := ⟨_, _, _, rfl, by decide, in_X9, (lw_gin 858 (by decide +kernel) (by decide +kernel))⟩
theorem fl_X9_44 : FL RX9 44 8 25 := ⟨_, _, _, rfl, by decide, in_X9, (lw_gin 861 (by decide +kernel) (by decide +kernel))⟩
theorem fl_X9_47 : FL RX9 47 8 26 := ⟨_, _, _, rfl, by decide, in_X9, (lw_gin 862 (by decide +kernel) (by decide +kernel))⟩
theorem fl_X9_50 : FL RX9 50 8 28 := ⟨_, _, _, rfl, by decide, in_X9, (lw_gin 864 (by decide +kernel) (by decide +kernel))⟩
theorem fl_X9_53 : FL RX9 53 8 30 := ⟨_, _, _, rfl, by decide, in_X9, (lw_gin 866 (by decide +kernel) (by decide +kernel))⟩
theorem fl_X9_56 : FL RX9 56 8 31 := ⟨_, _, _, rfl, by decide, in_X9, (lw_gin 867 (by decide +kernel) (by decide +kernel))⟩
theorem fl_X9_59 : FL RX9 59 8 32 := ⟨_, _, _, rfl, by decide, in_X9, (lw_gin 868 (by decide +kernel) (by decide +kernel))⟩
theorem fl_X9_63 : FL RX9 63 8 33 := ⟨_, _, _, rfl, by decide, in_X9, (lw_gin 869 (by decide +kernel) (by decide +kernel))⟩
theorem fl_X9_66 : FL RX9 66 8 34 := ⟨_, _, _, rfl, by decide, in_X9, (lw_gin 870 (by decide +kernel) (by decide +kernel))⟩
theorem fl_X9_69 : FL RX9 69 8 35 := ⟨_, _, _, rfl, by decide, in_X9, (lw_gin 871 (by decide +kernel) (by decide +kernel))⟩
theorem fl_X9_72 : FL RX9 72 8 36 := ⟨_, _, _, rfl, by decide, in_X9, (lw_gin 872 (by decide +kernel) (by decide +kernel))⟩
theorem fl_X9_83 : FL RX9 83 8 7 := ⟨_, _, _, rfl, by decide, in_X9, (lw_gin 843 (by decide +kernel) (by decide +kernel))⟩
theorem fl_X9_86 : FL RX9 86 8 3 := ⟨_, _, _, rfl, by decide, in_X9, (lw_gin 839 (by decide +kernel) (by decide +kernel))⟩
theorem fl_X9_113 : FL RX9 113 8 6 := ⟨_, _, _, rfl, by decide, in_X9, (lw_gin 842 (by decide +kernel) (by decide +kernel))⟩
theorem fl_X9_123 : FL RX9 123 8 4 := ⟨_, _, _, rfl, by decide, in_X9, (lw_gin 840 (by decide +kernel) (by decide +kernel))⟩
theorem fl_X9_129 : FL RX9 129 8 8 := ⟨_, _, _, rfl, by decide, in_X9, (lw_gin 844 (by decide +kernel) (by decide +kernel))⟩
theorem fl_X9_132 : FL RX9 132 8 9 := ⟨_, _, _, rfl, by decide, in_X9, (lw_gin 845 (by decide +kernel) (by decide +kernel))⟩
theorem fl_X9_135 : FL RX9 135 8 10 := ⟨_, _, _, rfl, by decide, in_X9, (lw_gin 846 (by decide +kernel) (by decide +kernel))⟩
theorem fl_X9_138 : FL RX9 138 8 11 := ⟨_, _, _, rfl, by decide, in_X9, (lw_gin 847 (by decide +kernel) (by decide +kernel))⟩
theorem fl_X9_151 : FL RX9 151 8 13 := ⟨_, _, _, rfl, by decide, in_X9, (lw_gin 849 (by decide +kernel) (by decide +kernel))⟩
theorem fl_X9_157 : FL RX9 157 8 15 := ⟨_, _, _, rfl, by decide, in_X9, (lw_gin 851 (by decide +kernel) (by decide +kernel))⟩
theorem fl_X9_160 : FL RX9 160 8 14 := ⟨_, _, _, rfl, by decide, in_X9, (lw_gin 850 (by decide +kernel) (by decide +kernel))⟩
theorem fl_X9_166 : FL RX9 166 8 21 := ⟨_, _, _, rfl, by decide, in_X9, (lw_gin 857 (by decide +kernel) (by decide +kernel))⟩
theorem fl_X9_192 : FL RX9 192 8 29 := ⟨_, _, _, rfl, by decide, in_X9, (lw_gin 865 (by decide +kernel) (by decide +kernel))⟩
theorem fl_X9_199 : FL RX9 199 8 23 := ⟨_, _, _, rfl, by decide, in_X9, (lw_gin 859 (by decide +kernel) (by decide +kernel))⟩
theorem fl_X9_202 : FL RX9 202 8 24 := ⟨_, _, _, rfl, by decide, in_X9, (lw_gin 860 (by decide +kernel) (by decide +kernel))⟩
theorem fl_X9_230 : FL RX9 230 8 27 := ⟨_, _, _, rfl, by decide, in_X9, (lw_gin 863 (by decide +kernel) (by decide +kernel))⟩
theorem cs_X9_75 : CS RX9 75 mX9_in 3 := ⟨⟨(lw_gin 956 (by decide +kernel) (by decide +kernel)), (lw_gin 957 (by decide +kernel) (by decide +kernel)), (lw_gin 69 (by decide +kernel) (by decide +kernel))⟩, (lw_gin 958 (by decide +kernel) (by decide +kernel)), by decide +kernel, by decide +kernel, by decide +kernel, by decide⟩
theorem cs_X9_99 : CS RX9 99 mX9_worth 1 := ⟨⟨(lw_gin 1004 (by decide +kernel) (by decide +kernel)), (lw_gin 1005 (by decide +kernel) (by decide +kernel)), (lw_gin 69 (by decide +kernel) (by decide +kernel))⟩, (lw_gin 1006 (by decide +kernel) (by decide +kernel)), by decide +kernel, by decide +kernel, by decide +kernel, by decide⟩
theorem cs_X9_212 : CS RX9 212 mX9_letterWord 1 := ⟨⟨(lw_gin 1070 (by decide +kernel) (by decide +kernel)), (lw_gin 1071 (by decide +kernel) (by decide +kernel)), (lw_gin 69 (by decide +kernel) (by decide +kernel))⟩, (lw_gin 1072 (by decide +kernel) (by decide +kernel)), by decide +kernel, by decide +kernel, by decide +kernel, by decide⟩
theorem cs_X9_248 : CS RX9 248 mX9_isWord 1 := ⟨⟨(lw_gin 1106 (by decide +kernel) (by decide +kernel)), (lw_gin 1107 (by decide +kernel) (by decide +kernel)), (lw_gin 69 (by decide +kernel) (by decide +kernel))⟩, (lw_gin 1108 (by decide +kernel) (by decide +kernel)), by decide +kernel, by decide +kernel, by decide +kernel, by decide⟩
theorem cs_X9_282 : CS RX9 282 mX9_isSheet 1 := ⟨⟨(lw_gin 1198 (by decide +kernel) (by decide +kernel)), (lw_gin 1199 (by decide +kernel) (by decide +kernel)), (lw_gin 69 (by decide +kernel) (by decide +kernel))⟩, (lw_gin 1200 (by decide +kernel) (by decide +kernel)), by decide +kernel, by decide +kernel, by decide +kernel, by decide⟩
theorem cs_X9_289 : CS RX9 289 mX9_cut 2 := ⟨⟨(lw_gin 1214 (by decide +kernel) (by decide +kernel)), (lw_gin 1215 (by decide +kernel) (by decide +kernel)), (lw_gin 69 (by decide +kernel) (by decide +kernel))⟩, (lw_gin 1216 (by decide +kernel) (by decide +kernel)), by decide +kernel, by decide +kernel, by decide +kernel, by decide⟩
theorem cv_X9_79 : CV RX9 79 mX9_at 1 := ⟨⟨(lw_gin 959 (by decide +kernel) (by decide +kernel)), (lw_gin 961 (by decide +kernel) (by decide +kernel)), (lw_gin 27 (by decide +kernel) (by decide +kernel)), (lw_gin 69 (by decide +kernel) (by decide +kernel))⟩, (lw_gin 962 (by decide +kernel) (by decide +kernel)), by decide +kernel, by decide +kernel, by decide +kernel, by decide⟩
theorem cv_X9_95 : CV RX9 95 mX9_wordHere 0 := ⟨⟨(lw_gin 995 (by decide +kernel) (by decide +kernel)), (lw_gin 997 (by decide +kernel) (by decide +kernel)), (lw_gin 35 (by decide +kernel) (by decide +kernel)), (lw_gin 69 (by decide +kernel) (by decide +kernel))⟩, (lw_gin 998 (by decide +kernel) (by decide +kernel)), by decide +kernel, by decide +kernel, by decide +kernel, by decide⟩
theorem cv_X9_104 : CV RX9 104 mX9_low 0 := ⟨⟨(lw_gin 1000 (by decide +kernel) (by decide +kernel)), (lw_gin 1002 (by decide +kernel) (by decide +kernel)), (lw_gin 36 (by decide +kernel) (by decide +kernel)), (lw_gin 69 (by decide +kernel) (by decide +kernel))⟩, (lw_gin 1003 (by decide +kernel) (by decide +kernel)), by decide +kernel, by decide +kernel, by decide +kernel, by decide⟩
theorem cv_X9_107 : CV RX9 107 mX9_more 0 := ⟨⟨(lw_gin 1010 (by decide +kernel) (by decide +kernel)), (lw_gin 1012 (by decide +kernel) (by decide +kernel)), (lw_gin 37 (by decide +kernel) (by decide +kernel)), (lw_gin 69 (by decide +kernel) (by decide +kernel))⟩, (lw_gin 1013 (by decide +kernel) (by decide +kernel)), by decide +kernel, by decide +kernel, by decide +kernel, by decide⟩
theorem cv_X9_110 : CV RX9 110 mX9_small 0 := ⟨⟨(lw_gin 991 (by decide +kernel) (by decide +kernel)), (lw_gin 993 (by decide +kernel) (by decide +kernel)), (lw_gin 34 (by decide +kernel) (by decide +kernel)), (lw_gin 69 (by decide +kernel) (by decide +kernel))⟩, (lw_gin 994 (by decide +kernel) (by decide +kernel)), by decide +kernel, by decide +kernel, by decide +kernel, by decide⟩
theorem cv_X9_116 : CV RX9 116 mX9_number 0 := ⟨⟨(lw_gin 987 (by decide +kernel) (by decide +kernel)), (lw_gin 989 (by decide +kernel) (by decide +kernel)), (lw_gin 33 (by decide +kernel) (by decide +kernel)), (lw_gin 69 (by decide +kernel) (by decide +kernel))⟩, (lw_gin 990 (by decide +kernel) (by decide +kernel)), by decide +kernel, by decide +kernel, by decide +kernel, by decide⟩
theorem cv_X9_119 : CV RX9 119 mX9_takesPicked 0 := ⟨⟨(lw_gin 979 (by decide +kernel) (by decide +kernel)), (lw_gin 981 (by decide +kernel) (by decide +kernel)), (lw_gin 31 (by decide +kernel) (by decide +kernel)), (lw_gin 69 (by decide +kernel) (by decide +kernel))⟩, (lw_gin 982 (by decide +kernel) (by decide +kernel)), by decide +kernel, by decide +kernel, by decide +kernel, by decide⟩
theorem cv_X9_126 : CV RX9 126 mX9_isSaid 0 := ⟨⟨(lw_gin 983 (by decide +kernel) (by decide +kernel)), (lw_gin 985 (by decide +kernel) (by decide +kernel)), (lw_gin 32 (by decide +kernel) (by decide +kernel)), (lw_gin 69 (by decide +kernel) (by decide +kernel))⟩, (lw_gin 986 (by decide +kernel) (by decide +kernel)), by decide +kernel, by decide +kernel, by decide +kernel, by decide⟩
theorem cv_X9_141 : CV RX9 141 mX9_readings 0 := ⟨⟨(lw_gin 971 (by decide +kernel) (by decide +kernel)), (lw_gin 973 (by decide +kernel) (by decide +kernel)), (lw_gin 29 (by decide +kernel) (by decide +kernel)), (lw_gin 69 (by decide +kernel) (by decide +kernel))⟩, (lw_gin 974 (by decide +kernel) (by decide +kernel)), by decide +kernel, by decide +kernel, by decide +kernel, by decide⟩
theorem cv_X9_144 : CV RX9 144 mX9_takes 1 := ⟨⟨(lw_gin 975 (by decide +kernel) (by decide +kernel)), (lw_gin 977 (by decide +kernel) (by decide +kernel)), (lw_gin 30 (by decide +kernel) (by decide +kernel)), (lw_gin 69 (by decide +kernel) (by decide +kernel))⟩, (lw_gin 978 (by decide +kernel) (by decide +kernel)), by decide +kernel, by decide +kernel, by decide +kernel, by decide⟩
theorem cv_X9_148 : CV RX9 148 mX9_holds 0 := ⟨⟨(lw_gin 1014 (by decide +kernel) (by decide +kernel)), (lw_gin 1016 (by decide +kernel) (by decide +kernel)), (lw_gin 38 (by decide +kernel) (by decide +kernel)), (lw_gin 69 (by decide +kernel) (by decide +kernel))⟩, (lw_gin 1017 (by decide +kernel) (by decide +kernel)), by decide +kernel, by decide +kernel, by decide +kernel, by decide⟩
theorem cv_X9_154 : CV RX9 154 mX9_finds 0 := ⟨⟨(lw_gin 967 (by decide +kernel) (by decide +kernel)), (lw_gin 969 (by decide +kernel) (by decide +kernel)), (lw_gin 28 (by decide +kernel) (by decide +kernel)), (lw_gin 69 (by decide +kernel) (by decide +kernel))⟩, (lw_gin 970 (by decide +kernel) (by decide +kernel)), by decide +kernel, by decide +kernel, by decide +kernel, by decide⟩
theorem cv_X9_163 : CV RX9 163 mX9_isAsBest 0 := ⟨⟨(lw_gin 1022 (by decide +kernel) (by decide +kernel)), (lw_gin 1024 (by decide +kernel) (by decide +kernel)), (lw_gin 40 (by decide +kernel) (by decide +kernel)), (lw_gin 69 (by decide +kernel) (by decide +kernel))⟩, (lw_gin 1025 (by decide +kernel) (by decide +kernel)), by decide +kernel, by decide +kernel, by decide +kernel, by decide⟩
theorem cv_X9_169 : CV RX9 169 mX9_counts 0 := ⟨⟨(lw_gin 1018 (by decide +kernel) (by decide +kernel)), (lw_gin 1020 (by decide +kernel) (by decide +kernel)), (lw_gin 39 (by decide +kernel) (by decide +kernel)), (lw_gin 69 (by decide +kernel) (by decide +kernel))⟩, (lw_gin 1021 (by decide +kernel) (by decide +kernel)), by decide +kernel, by decide +kernel, by decide +kernel, by decide⟩
theorem cv_X9_172 : CV RX9 172 mX9_tellsSame 1 := ⟨⟨(lw_gin 1034 (by decide +kernel) (by decide +kernel)), (lw_gin 1036 (by decide +kernel) (by decide +kernel)), (lw_gin 43 (by decide +kernel) (by decide +kernel)), (lw_gin 69 (by decide +kernel) (by decide +kernel))⟩, (lw_gin 1037 (by decide +kernel) (by decide +kernel)), by decide +kernel, by decide +kernel, by decide +kernel, by decide⟩
theorem cv_X9_176 : CV RX9 176 mX9_look 1 := ⟨⟨(lw_gin 1026 (by decide +kernel) (by decide +kernel)), (lw_gin 1028 (by decide +kernel) (by decide +kernel)), (lw_gin 41 (by decide +kernel) (by decide +kernel)), (lw_gin 69 (by decide +kernel) (by decide +kernel))⟩, (lw_gin 1029 (by decide +kernel) (by decide +kernel)), by decide +kernel, by decide +kernel, by decide +kernel, by decide⟩
theorem cv_X9_179 : CV RX9 179 mX9_partOf 3 := ⟨⟨(lw_gin 1038 (by decide +kernel) (by decide +kernel)), (lw_gin 1040 (by decide +kernel) (by decide +kernel)), (lw_gin 44 (by decide +kernel) (by decide +kernel)), (lw_gin 69 (by decide +kernel) (by decide +kernel))⟩, (lw_gin 1041 (by decide +kernel) (by decide +kernel)), by decide +kernel, by decide +kernel, by decide +kernel, by decide⟩
theorem cv_X9_183 : CV RX9 183 mX9_isSlot 1 := ⟨⟨(lw_gin 952 (by decide +kernel) (by decide +kernel)), (lw_gin 954 (by decide +kernel) (by decide +kernel)), (lw_gin 26 (by decide +kernel) (by decide +kernel)), (lw_gin 69 (by decide +kernel) (by decide +kernel))⟩, (lw_gin 955 (by decide +kernel) (by decide +kernel)), by decide +kernel, by decide +kernel, by decide +kernel, by decide⟩
theorem cv_X9_186 : CV RX9 186 mX9_questions 0 := ⟨⟨(lw_gin 1030 (by decide +kernel) (by decide +kernel)), (lw_gin 1032 (by decide +kernel) (by decide +kernel)), (lw_gin 42 (by decide +kernel) (by decide +kernel)), (lw_gin 69 (by decide +kernel) (by decide +kernel))⟩, (lw_gin 1033 (by decide +kernel) (by decide +kernel)), by decide +kernel, by decide +kernel, by decide +kernel, by decide⟩
theorem cv_X9_189 : CV RX9 189 mX9_spoilt 0 := ⟨⟨(lw_gin 1042 (by decide +kernel) (by decide +kernel)), (lw_gin 1044 (by decide +kernel) (by decide +kernel)), (lw_gin 45 (by decide +kernel) (by decide +kernel)), (lw_gin 69 (by decide +kernel) (by decide +kernel))⟩, (lw_gin 1045 (by decide +kernel) (by decide +kernel)), by decide +kernel, by decide +kernel, by decide +kernel, by decide⟩
theorem cv_X9_205 : CV RX9 205 mX9_here 0 := ⟨⟨(lw_gin 1056 (by decide +kernel) (by decide +kernel)), (lw_gin 1058 (by decide +kernel) (by decide +kernel)), (lw_gin 46 (by decide +kernel) (by decide +kernel)), (lw_gin 69 (by decide +kernel) (by decide +kernel))⟩, (lw_gin 1059 (by decide +kernel) (by decide +kernel)), by decide +kernel, by decide +kernel, by decide +kernel, by decide⟩
theorem cv_X9_215 : CV RX9 215 mX9_wordRead 0 := ⟨⟨(lw_gin 1064 (by decide +kernel) (by decide +kernel)), (lw_gin 1066 (by decide +kernel) (by decide +kernel)), (lw_gin 48 (by decide +kernel) (by decide +kernel)), (lw_gin 69 (by decide +kernel) (by decide +kernel))⟩, (lw_gin 1067 (by decide +kernel) (by decide +kernel)), by decide +kernel, by decide +kernel, by decide +kernel, by decide⟩
theorem cv_X9_218 : CV RX9 218 mX9_has 1 := ⟨⟨(lw_gin 1073 (by decide +kernel) (by decide +kernel)), (lw_gin 1075 (by decide +kernel) (by decide +kernel)), (lw_gin 49 (by decide +kernel) (by decide +kernel)), (lw_gin 69 (by decide +kernel) (by decide +kernel))⟩, (lw_gin 1076 (by decide +kernel) (by decide +kernel)), by decide +kernel, by decide +kernel, by decide +kernel, by decide⟩
theorem cv_X9_221 : CV RX9 221 mX9_reads 1 := ⟨⟨(lw_gin 1060 (by decide +kernel) (by decide +kernel)), (lw_gin 1062 (by decide +kernel) (by decide +kernel)), (lw_gin 47 (by decide +kernel) (by decide +kernel)), (lw_gin 69 (by decide +kernel) (by decide +kernel))⟩, (lw_gin 1063 (by decide +kernel) (by decide +kernel)), by decide +kernel, by decide +kernel, by decide +kernel, by decide⟩
theorem cv_X9_224 : CV RX9 224 mX9_fault 0 := ⟨⟨(lw_gin 1077 (by decide +kernel) (by decide +kernel)), (lw_gin 1079 (by decide +kernel) (by decide +kernel)), (lw_gin 50 (by decide +kernel) (by decide +kernel)), (lw_gin 69 (by decide +kernel) (by decide +kernel))⟩, (lw_gin 1080 (by decide +kernel) (by decide +kernel)), by decide +kernel, by decide +kernel, by decide +kernel, by decide⟩
theorem cv_X9_227 : CV RX9 227 mX9_clears 0 := ⟨⟨(lw_gin 1081 (by decide +kernel) (by decide +kernel)), (lw_gin 1083 (by decide +kernel) (by decide +kernel)), (lw_gin 51 (by decide +kernel) (by decide +kernel)), (lw_gin 69 (by decide +kernel) (by decide +kernel))⟩, (lw_gin 1084 (by decide +kernel) (by decide +kernel)), by decide +kernel, by decide +kernel, by decide +kernel, by decide⟩
theorem cv_X9_233 : CV RX9 233 mX9_says 1 := ⟨⟨(lw_gin 1094 (by decide +kernel) (by decide +kernel)), (lw_gin 1096 (by decide +kernel) (by decide +kernel)), (lw_gin 53 (by decide +kernel) (by decide +kernel)), (lw_gin 69 (by decide +kernel) (by decide +kernel))⟩, (lw_gin 1097 (by decide +kernel) (by decide +kernel)), by decide +kernel, by decide +kernel, by decide +kernel, by decide⟩
theorem cv_X9_239 : CV RX9 239 mX9_saysSmall 1 := ⟨⟨(lw_gin 1090 (by decide +kernel) (by decide +kernel)), (lw_gin 1092 (by decide +kernel) (by decide +kernel)), (lw_gin 52 (by decide +kernel) (by decide +kernel)), (lw_gin 69 (by decide +kernel) (by decide +kernel))⟩, (lw_gin 1093 (by decide +kernel) (by decide +kernel)), by decide +kernel, by decide +kernel, by decide +kernel, by decide⟩
theorem cv_X9_242 : CV RX9 242 mX9_hears 2 := ⟨⟨(lw_gin 1098 (by decide +kernel) (by decide +kernel)), (lw_gin 1100 (by decide +kernel) (by decide +kernel)), (lw_gin 54 (by decide +kernel) (by decide +kernel)), (lw_gin 69 (by decide +kernel) (by decide +kernel))⟩, (lw_gin 1101 (by decide +kernel) (by decide +kernel)), by decide +kernel, by decide +kernel, by decide +kernel, by decide⟩
theorem cv_X9_251 : CV RX9 251 mX9_notes 0 := ⟨⟨(lw_gin 1110 (by decide +kernel) (by decide +kernel)), (lw_gin 1112 (by decide +kernel) (by decide +kernel)), (lw_gin 55 (by decide +kernel) (by decide +kernel)), (lw_gin 69 (by decide +kernel) (by decide +kernel))⟩, (lw_gin 1113 (by decide +kernel) (by decide +kernel)), by decide +kernel, by decide +kernel, by decide +kernel, by decide⟩
theorem cv_X9_254 : CV RX9 254 mX9_placeOf 2 := ⟨⟨(lw_gin 1118 (by decide +kernel) (by decide +kernel)), (lw_gin 1120 (by decide +kernel) (by decide +kernel)), (lw_gin 56 (by decide +kernel) (by decide +kernel)), (lw_gin 69 (by decide +kernel) (by decide +kernel))⟩, (lw_gin 1121 (by decide +kernel) (by decide +kernel)), by decide +kernel, by decide +kernel, by decide +kernel, by decide⟩
theorem cv_X9_258 : CV RX9 258 mX9_comes 3 := ⟨⟨(lw_gin 1122 (by decide +kernel) (by decide +kernel)), (lw_gin 1124 (by decide +kernel) (by decide +kernel)), (lw_gin 57 (by decide +kernel) (by decide +kernel)), (lw_gin 69 (by decide +kernel) (by decide +kernel))⟩, (lw_gin 1125 (by decide +kernel) (by decide +kernel)), by decide +kernel, by decide +kernel, by decide +kernel, by decide⟩
theorem cv_X9_275 : CV RX9 275 mX9_isCounted 1 := ⟨⟨(lw_gin 1177 (by decide +kernel) (by decide +kernel)), (lw_gin 1179 (by decide +kernel) (by decide +kernel)), (lw_gin 58 (by decide +kernel) (by decide +kernel)), (lw_gin 69 (by decide +kernel) (by decide +kernel))⟩, (lw_gin 1180 (by decide +kernel) (by decide +kernel)), by decide +kernel, by decide +kernel, by decide +kernel, by decide⟩
theorem cv_X9_285 : CV RX9 285 mX9_why 4 := ⟨⟨(lw_gin 1210 (by decide +kernel) (by decide +kernel)), (lw_gin 1212 (by decide +kernel) (by decide +kernel)), (lw_gin 59 (by decide +kernel) (by decide +kernel)), (lw_gin 69 (by decide +kernel) (by decide +kernel))⟩, (lw_gin 1213 (by decide +kernel) (by decide +kernel)), by decide +kernel, by decide +kernel, by decide +kernel, by decide⟩
theorem k_X9_89 : Cond.constantLong RX9 89 (Int64.ofInt (19)) ∈ lw_g := (lw_gin 1007 (by decide +kernel) (by decide +kernel))
theorem k_X9_91 : Cond.constantLong RX9 91 (Int64.ofInt (20)) ∈ lw_g := (lw_gin 1008 (by decide +kernel) (by decide +kernel))
theorem k_X9_93 : Cond.constantLong RX9 93 (Int64.ofInt (27)) ∈ lw_g := (lw_gin 1009 (by decide +kernel) (by decide +kernel))
theorem k_X9_102 : Cond.constantLong RX9 102 (Int64.ofInt (9)) ∈ lw_g := (lw_gin 999 (by decide +kernel) (by decide +kernel))
theorem k_X9_195 : Cond.constantLong RX9 195 (Int64.ofInt (32)) ∈ lw_g := (lw_gin 1050 (by decide +kernel) (by decide +kernel))
theorem k_X9_197 : Cond.constantLong RX9 197 (Int64.ofInt (126)) ∈ lw_g := (lw_gin 1051 (by decide +kernel) (by decide +kernel))
theorem k_X9_208 : Cond.constantLong RX9 208 (Int64.ofInt (48)) ∈ lw_g := (lw_gin 1068 (by decide +kernel) (by decide +kernel))
theorem k_X9_210 : Cond.constantLong RX9 210 (Int64.ofInt (57)) ∈ lw_g := (lw_gin 1069 (by decide +kernel) (by decide +kernel))
theorem k_X9_237 : Cond.constantLong RX9 237 (Int64.ofInt (999999)) ∈ lw_g := (lw_gin 1089 (by decide +kernel) (by decide +kernel))
theorem k_X9_246 : Cond.constantLong RX9 246 (Int64.ofInt (31)) ∈ lw_g := (lw_gin 1109 (by decide +kernel) (by decide +kernel))
theorem k_X9_262 : Cond.constantLong RX9 262 (Int64.ofInt (4)) ∈ lw_g := (lw_gin 1138 (by decide +kernel) (by decide +kernel))
theorem k_X9_264 : Cond.constantLong RX9 264 (Int64.ofInt (40)) ∈ lw_g := (lw_gin 1147 (by decide +kernel) (by decide +kernel))
theorem k_X9_266 : Cond.constantLong RX9 266 (Int64.ofInt (1103515245)) ∈ lw_g := (lw_gin 1148 (by decide +kernel) (by decide +kernel))
theorem k_X9_268 : Cond.constantLong RX9 268 (Int64.ofInt (12345)) ∈ lw_g := (lw_gin 1149 (by decide +kernel) (by decide +kernel))
theorem k_X9_270 : Cond.constantLong RX9 270 (Int64.ofInt (2147483648)) ∈ lw_g := (lw_gin 1150 (by decide +kernel) (by decide +kernel))
theorem k_X9_273 : Cond.constantLong RX9 273 (Int64.ofInt (-1)) ∈ lw_g := (lw_gin 1172 (by decide +kernel) (by decide +kernel))
theorem k_X9_278 : Cond.constantLong RX9 278 (Int64.ofInt (-4)) ∈ lw_g := (lw_gin 1185 (by decide +kernel) (by decide +kernel))
theorem k_X9_280 : Cond.constantLong RX9 280 (Int64.ofInt (3)) ∈ lw_g := (lw_gin 1201 (by decide +kernel) (by decide +kernel))
theorem k_X9_293 : Cond.constantLong RX9 293 (Int64.ofInt (6)) ∈ lw_g := (lw_gin 1225 (by decide +kernel) (by decide +kernel))
theorem k_X9_272 : Cond.constant RX9 272 (Int32.ofInt (65536)) ∈ lw_g := (lw_gin 1151 (by decide +kernel) (by decide +kernel))
theorem fp_X9_59 : FP RX9 59 8 32 .int := ⟨_, _, _, tyX9, rfl, by decide, in_X9, (lw_gin 868 (by decide +kernel) (by decide +kernel)), tyX9_ok, nmX9, rfl, rfl⟩
theorem fp_X9_83 : FP RX9 83 8 7 .int := ⟨_, _, _, tyX9, rfl, by decide, in_X9, (lw_gin 843 (by decide +kernel) (by decide +kernel)), tyX9_ok, nmX9, rfl, rfl⟩
theorem fp_X9_86 : FP RX9 86 8 3 .int := ⟨_, _, _, tyX9, rfl, by decide, in_X9, (lw_gin 839 (by decide +kernel) (by decide +kernel)), tyX9_ok, nmX9, rfl, rfl⟩
theorem fp_X9_113 : FP RX9 113 8 6 .int := ⟨_, _, _, tyX9, rfl, by decide, in_X9, (lw_gin 842 (by decide +kernel) (by decide +kernel)), tyX9_ok, nmX9, rfl, rfl⟩
theorem fp_X9_123 : FP RX9 123 8 4 .int := ⟨_, _, _, tyX9, rfl, by decide, in_X9, (lw_gin 840 (by decide +kernel) (by decide +kernel)), tyX9_ok, nmX9, rfl, rfl⟩
theorem fp_X9_129 : FP RX9 129 8 8 .int := ⟨_, _, _, tyX9, rfl, by decide, in_X9, (lw_gin 844 (by decide +kernel) (by decide +kernel)), tyX9_ok, nmX9, rfl, rfl⟩
theorem fp_X9_132 : FP RX9 132 8 9 .int := ⟨_, _, _, tyX9, rfl, by decide, in_X9, (lw_gin 845 (by decide +kernel) (by decide +kernel)), tyX9_ok, nmX9, rfl, rfl⟩
theorem fp_X9_135 : FP RX9 135 8 10 .int := ⟨_, _, _, tyX9, rfl, by decide, in_X9, (lw_gin 846 (by decide +kernel) (by decide +kernel)), tyX9_ok, nmX9, rfl, rfl⟩
theorem fp_X9_138 : FP RX9 138 8 11 .int := ⟨_, _, _, tyX9, rfl, by decide, in_X9, (lw_gin 847 (by decide +kernel) (by decide +kernel)), tyX9_ok, nmX9, rfl, rfl⟩
theorem fp_X9_151 : FP RX9 151 8 13 .int := ⟨_, _, _, tyX9, rfl, by decide, in_X9, (lw_gin 849 (by decide +kernel) (by decide +kernel)), tyX9_ok, nmX9, rfl, rfl⟩
theorem fp_X9_157 : FP RX9 157 8 15 .int := ⟨_, _, _, tyX9, rfl, by decide, in_X9, (lw_gin 851 (by decide +kernel) (by decide +kernel)), tyX9_ok, nmX9, rfl, rfl⟩
theorem fp_X9_160 : FP RX9 160 8 14 .int := ⟨_, _, _, tyX9, rfl, by decide, in_X9, (lw_gin 850 (by decide +kernel) (by decide +kernel)), tyX9_ok, nmX9, rfl, rfl⟩
theorem fp_X9_166 : FP RX9 166 8 21 .int := ⟨_, _, _, tyX9, rfl, by decide, in_X9, (lw_gin 857 (by decide +kernel) (by decide +kernel)), tyX9_ok, nmX9, rfl, rfl⟩
theorem fp_X9_192 : FP RX9 192 8 29 .int := ⟨_, _, _, tyX9, rfl, by decide, in_X9, (lw_gin 865 (by decide +kernel) (by decide +kernel)), tyX9_ok, nmX9, rfl, rfl⟩
theorem fp_X9_199 : FP RX9 199 8 23 .int := ⟨_, _, _, tyX9, rfl, by decide, in_X9, (lw_gin 859 (by decide +kernel) (by decide +kernel)), tyX9_ok, nmX9, rfl, rfl⟩
theorem fp_X9_202 : FP RX9 202 8 24 .int := ⟨_, _, _, tyX9, rfl, by decide, in_X9, (lw_gin 860 (by decide +kernel) (by decide +kernel)), tyX9_ok, nmX9, rfl, rfl⟩
theorem fp_X9_230 : FP RX9 230 8 27 .int := ⟨_, _, _, tyX9, rfl, by decide, in_X9, (lw_gin 863 (by decide +kernel) (by decide +kernel)), tyX9_ok, nmX9, rfl, rfl⟩
theorem k_J13_314 : Cond.constantLong RJ13 314 (Int64.ofInt (6148914691236517205)) ∈ lw_g := (lw_gin 597 (by decide +kernel) (by decide +kernel))
theorem k_J13_316 : Cond.constantLong RJ13 316 (Int64.ofInt (3689348814741910323)) ∈ lw_g := (lw_gin 598 (by decide +kernel) (by decide +kernel))
theorem k_J13_318 : Cond.constantLong RJ13 318 (Int64.ofInt (1085102592571150095)) ∈ lw_g := (lw_gin 599 (by decide +kernel) (by decide +kernel))
end
section
/-! ===== posts by kind of answer ===== -/
def b2i (b : Bool) : Int := if b then 1 else 0
theorem b2i_t : b2i true = 1 := rfl
theorem b2i_f : b2i false = 0 := rfl
theorem b2i_r (b : Bool) : 0 ≤ b2i b ∧ b2i b ≤ 1 := by cases b <;> decide
theorem b2i_0 {b : Bool} : b2i b = 0 ↔ b = false := by cases b <;> decide
theorem b2i_1 {b : Bool} : b2i b ≠ 0 ↔ b = true := by cases b <;> decide
def pI (P : Int → Sg → Prop) : List Value → Sg → Prop := fun rv σ => ∃ r : Int, rv = [vI r] ∧ P r σ
def pL (P : Int → Sg → Prop) : List Value → Sg → Prop := fun rv σ => ∃ r : Int, rv = [vL r] ∧ P r σ
def pB (P : Bool → Sg → Prop) : List Value → Sg → Prop := fun rv σ => ∃ b : Bool, rv = [vI (b2i b)] ∧ P b σ
def pV (P : Sg → Prop) : List Value → Sg → Prop := fun rv σ => rv = [] ∧ P σ
section ZP
variable {g : G} {x : Cx} {own : String} {cc : ByteArray} {nL dp pc : Nat} {L L' : List (Nat × Value)} {S : List Value} {σ : Sg}
theorem z_retI {P : Int → Sg → Prop} {z : Int} (h : Ok g x own cc nL dp) (r : Rt g x (some .int) (pI P)) (d : decode cc pc = .ok (.ireturn, 1)) (hp : P z σ) : Z g x nL pc L [vI z] σ := z_iret h r d ⟨z, rfl, hp⟩
theorem z_retL {P : Int → Sg → Prop} {z : Int} (h : Ok g x own cc nL dp) (r : Rt g x (some .long) (pL P)) (d : decode cc pc = .ok (.lreturn, 1)) (hp : P z σ) : Z g x nL pc L [vL z] σ := z_lret h r d ⟨z, rfl, hp⟩
theorem z_retT {P : Bool → Sg → Prop} (h : Ok g x own cc nL dp) (r : Rt g x (some .boolean) (pB P)) (d : decode cc pc = .ok (.ireturn, 1)) (hp : P true σ) : Z g x nL pc L [vI 1] σ := z_zret h r d (Or.inr rfl) ⟨true, rfl, hp⟩
theorem z_retF {P : Bool → Sg → Prop} (h : Ok g x own cc nL dp) (r : Rt g x (some .boolean) (pB P)) (d : decode cc pc = .ok (.ireturn, 1)) (hp : P false σ) : Z g x nL pc L [vI 0] σ := z_zret h r d (Or.inl rfl) ⟨false, rfl, hp⟩
theorem z_retB {P : Bool → Sg → Prop} {b : Bool} (h : Ok g x own cc nL dp) (r : Rt g x (some .boolean) (pB P)) (d : decode cc pc = .ok (.ireturn, 1)) (hp : P b σ) : Z g x nL pc L [vI (b2i b)] σ := z_zret h r d (by cases b <;> simp [b2i]) ⟨b, rfl, hp⟩
theorem z_retV {P : Sg → Prop} (h : Ok g x own cc nL dp) (r : Rt g x none (pV P)) (d : decode cc pc = .ok (.return_, 1)) (hp : P σ) : Z g x nL pc L [] σ := z_vret h r d ⟨rfl, hp⟩
theorem z_cvI {P : Int → Sg → Prop} (h : Ok g x own cc nL dp) {I : MI} {ix n ci b N : Nat} {fl : List Nat} {T : u_T} {As : List Value} {st : List Value} (M : MM g I (.ref (g.2.2.1 b) :: As) σ (pI P)) (cv : CV own ix I n) (hs : sh b = (0, ci, fl)) (hcl : vwCl[ci]? = some (I.1.cls, T, N)) (hn : As.length = n) (hst : As.reverse ++ .ref (g.2.2.1 b) :: S = st) (hd : I.2.2.2.2 < dp) (hsum : (S.map fun v => v.category).sum ≤ 8) (d : decode cc pc = .ok (.invokevirtual ix, 3)) (kk : ∀ (r : Int) (σ' : Sg), P r σ' → Z g x nL (pc + 3) L (vI r :: S) σ') : Z g x nL pc L st σ :=
  z_callV h M cv hs hcl hn hst hd hsum d (fun rv σ' hp => by obtain ⟨r, rfl, hp⟩ := hp; exact kk r σ' hp)
theorem z_cvL {P : Int → Sg → Prop} (h : Ok g x own cc nL dp) {I : MI} {ix n ci b N : Nat} {fl : List Nat} {T : u_T} {As : List Value} {st : List Value} (M : MM g I (.ref (g.2.2.1 b) :: As) σ (pL P)) (cv : CV own ix I n) (hs : sh b = (0, ci, fl)) (hcl : vwCl[ci]? = some (I.1.cls, T, N)) (hn : As.length = n) (hst : As.reverse ++ .ref (g.2.2.1 b) :: S = st) (hd : I.2.2.2.2 < dp) (hsum : (S.map fun v => v.category).sum ≤ 8) (d : decode cc pc = .ok (.invokevirtual ix, 3)) (kk : ∀ (r : Int) (σ' : Sg), P r σ' → Z g x nL (pc + 3) L (vL r :: S) σ') : Z g x nL pc L st σ :=
  z_callV h M cv hs hcl hn hst hd hsum d (fun rv σ' hp => by obtain ⟨r, rfl, hp⟩ := hp; exact kk r σ' hp)
theorem z_cvB {P : Bool → Sg → Prop} (h : Ok g x own cc nL dp) {I : MI} {ix n ci b N : Nat} {fl : List Nat} {T : u_T} {As : List Value} {st : List Value} (M : MM g I (.ref (g.2.2.1 b) :: As) σ (pB P)) (cv : CV own ix I n) (hs : sh b = (0, ci, fl)) (hcl : vwCl[ci]? = some (I.1.cls, T, N)) (hn : As.length = n) (hst : As.reverse ++ .ref (g.2.2.1 b) :: S = st) (hd : I.2.2.2.2 < dp) (hsum : (S.map fun v => v.category).sum ≤ 8) (d : decode cc pc = .ok (.invokevirtual ix, 3)) (kT : ∀ (σ' : Sg), P true σ' → Z g x nL (pc + 3) L (vI 1 :: S) σ') (kF : ∀ (σ' : Sg), P false σ' → Z g x nL (pc + 3) L (vI 0 :: S) σ') : Z g x nL pc L st σ :=
  z_callV h M cv hs hcl hn hst hd hsum d (fun rv σ' hp => by
    obtain ⟨b, rfl, hp⟩ := hp
    cases b
    · exact kF σ' hp
    · exact kT σ' hp)
theorem z_cvV {P : Sg → Prop} (h : Ok g x own cc nL dp) {I : MI} {ix n ci b N : Nat} {fl : List Nat} {T : u_T} {As : List Value} {st : List Value} (M : MM g I (.ref (g.2.2.1 b) :: As) σ (pV P)) (cv : CV own ix I n) (hs : sh b = (0, ci, fl)) (hcl : vwCl[ci]? = some (I.1.cls, T, N)) (hn : As.length = n) (hst : As.reverse ++ .ref (g.2.2.1 b) :: S = st) (hd : I.2.2.2.2 < dp) (hsum : (S.map fun v => v.category).sum ≤ 8) (d : decode cc pc = .ok (.invokevirtual ix, 3)) (kk : ∀ (σ' : Sg), P σ' → Z g x nL (pc + 3) L S σ') : Z g x nL pc L st σ :=
  z_callV h M cv hs hcl hn hst hd hsum d (fun rv σ' hp => by obtain ⟨rfl, hp⟩ := hp; exact kk σ' hp)
theorem z_csI {P : Int → Sg → Prop} (h : Ok g x own cc nL dp) {I : MI} {ix n : Nat} {As : List Value} {st : List Value} (M : MM g I As σ (pI P)) (cv : CS own ix I n) (hn : As.length = n) (hst : As.reverse ++ S = st) (hd : I.2.2.2.2 < dp) (hsum : (S.map fun v => v.category).sum ≤ 8) (d : decode cc pc = .ok (.invokestatic ix, 3)) (kk : ∀ (r : Int) (σ' : Sg), P r σ' → Z g x nL (pc + 3) L (vI r :: S) σ') : Z g x nL pc L st σ :=
  z_callS h M cv hn hst hd hsum d (fun rv σ' hp => by obtain ⟨r, rfl, hp⟩ := hp; exact kk r σ' hp)
theorem z_csL {P : Int → Sg → Prop} (h : Ok g x own cc nL dp) {I : MI} {ix n : Nat} {As : List Value} {st : List Value} (M : MM g I As σ (pL P)) (cv : CS own ix I n) (hn : As.length = n) (hst : As.reverse ++ S = st) (hd : I.2.2.2.2 < dp) (hsum : (S.map fun v => v.category).sum ≤ 8) (d : decode cc pc = .ok (.invokestatic ix, 3)) (kk : ∀ (r : Int) (σ' : Sg), P r σ' → Z g x nL (pc + 3) L (vL r :: S) σ') : Z g x nL pc L st σ :=
  z_callS h M cv hn hst hd hsum d (fun rv σ' hp => by obtain ⟨r, rfl, hp⟩ := hp; exact kk r σ' hp)
theorem z_csB {P : Bool → Sg → Prop} (h : Ok g x own cc nL dp) {I : MI} {ix n : Nat} {As : List Value} {st : List Value} (M : MM g I As σ (pB P)) (cv : CS own ix I n) (hn : As.length = n) (hst : As.reverse ++ S = st) (hd : I.2.2.2.2 < dp) (hsum : (S.map fun v => v.category).sum ≤ 8) (d : decode cc pc = .ok (.invokestatic ix, 3)) (kT : ∀ (σ' : Sg), P true σ' → Z g x nL (pc + 3) L (vI 1 :: S) σ') (kF : ∀ (σ' : Sg), P false σ' → Z g x nL (pc + 3) L (vI 0 :: S) σ') : Z g x nL pc L st σ :=
  z_callS h M cv hn hst hd hsum d (fun rv σ' hp => by
    obtain ⟨b, rfl, hp⟩ := hp
    cases b
    · exact kF σ' hp
    · exact kT σ' hp)
/-- the same world and answer under a weaker post -/
theorem MM.mono {I : MI} {av : List Value} {p q : List Value → Sg → Prop} (h : MM g I av σ p) (hpq : ∀ rv σ', p rv σ' → q rv σ') : MM g I av σ q := by
  intro sz T e ha hc hk s m args below hf happ hP hK
  obtain ⟨t, o, a1, a2, a3, ⟨⟨⟨v, σ', b1, b2, b3⟩, b4⟩, b5⟩⟩ := h sz T e ha hc hk s m args below hf happ hP hK
  exact ⟨t, o, a1, a2, a3, ⟨⟨⟨v, σ', b1, hpq _ _ b2, b3⟩, b4⟩, b5⟩⟩
/-- the answer's value by an equation -/
theorem z_top {a b : Int} (e : a = b) (k : Z g x nL pc L (vI b :: S) σ) : Z g x nL pc L (vI a :: S) σ := e ▸ k
theorem z_topL {a b : Int} (e : a = b) (k : Z g x nL pc L (vL b :: S) σ) : Z g x nL pc L (vL a :: S) σ := e ▸ k
theorem z_sg {τ : Sg} (e : σ = τ) (k : Z g x nL pc L S τ) : Z g x nL pc L S σ := e ▸ k
/-- the world's numbers are in their ranges -/
theorem z_rn (k : Rn σ → Z g x nL pc L S σ) : Z g x nL pc L S σ := fun H locs ls hr hP hS hl => k hr H locs ls hr hP hS hl
end ZP
end
section
/-! ===== answers that change nothing ===== -/
def pE (e : Int) (σ0 : Sg) : Int → Sg → Prop := fun r σ => r = e ∧ σ = σ0
def pQ (c : Prop) (σ0 : Sg) : Bool → Sg → Prop := fun b σ => (b = true ↔ c) ∧ σ = σ0
section ZQ
variable {g : G} {x : Cx} {own : String} {cc : ByteArray} {nL dp pc : Nat} {L L' : List (Nat × Value)} {S : List Value} {σ σ0 : Sg}
theorem z_retE {e z : Int} (h : Ok g x own cc nL dp) (r : Rt g x (some .int) (pI (pE e σ0))) (d : decode cc pc = .ok (.ireturn, 1)) (hz : z = e) (hs : σ = σ0) : Z g x nL pc L [vI z] σ := z_retI h r d ⟨hz, hs⟩
theorem z_retEL {e z : Int} (h : Ok g x own cc nL dp) (r : Rt g x (some .long) (pL (pE e σ0))) (d : decode cc pc = .ok (.lreturn, 1)) (hz : z = e) (hs : σ = σ0) : Z g x nL pc L [vL z] σ := z_retL h r d ⟨hz, hs⟩
theorem z_retQT {c : Prop} (h : Ok g x own cc nL dp) (r : Rt g x (some .boolean) (pB (pQ c σ0))) (d : decode cc pc = .ok (.ireturn, 1)) (hz : c) (hs : σ = σ0) : Z g x nL pc L [vI 1] σ := z_retT h r d ⟨iff_of_true rfl hz, hs⟩
theorem z_retQF {c : Prop} (h : Ok g x own cc nL dp) (r : Rt g x (some .boolean) (pB (pQ c σ0))) (d : decode cc pc = .ok (.ireturn, 1)) (hz : ¬ c) (hs : σ = σ0) : Z g x nL pc L [vI 0] σ := z_retF h r d ⟨iff_of_false (by decide) hz, hs⟩
theorem z_retQB {c : Prop} {b : Bool} (h : Ok g x own cc nL dp) (r : Rt g x (some .boolean) (pB (pQ c σ0))) (d : decode cc pc = .ok (.ireturn, 1)) (hz : b = true ↔ c) (hs : σ = σ0) : Z g x nL pc L [vI (b2i b)] σ := z_retB h r d ⟨hz, hs⟩
theorem z_cvE {e : Int} (h : Ok g x own cc nL dp) {I : MI} {ix n ci b N : Nat} {fl : List Nat} {T : u_T} {As : List Value} {st : List Value} (M : MM g I (.ref (g.2.2.1 b) :: As) σ (pI (pE e σ))) (cv : CV own ix I n) (hs : sh b = (0, ci, fl)) (hcl : vwCl[ci]? = some (I.1.cls, T, N)) (hn : As.length = n) (hst : As.reverse ++ .ref (g.2.2.1 b) :: S = st) (hd : I.2.2.2.2 < dp) (hsum : (S.map fun v => v.category).sum ≤ 8) (d : decode cc pc = .ok (.invokevirtual ix, 3)) (kk : Z g x nL (pc + 3) L (vI e :: S) σ) : Z g x nL pc L st σ :=
  z_cvI h M cv hs hcl hn hst hd hsum d (fun r σ' hp => by obtain ⟨rfl, rfl⟩ := hp; exact kk)
theorem z_cvEL {e : Int} (h : Ok g x own cc nL dp) {I : MI} {ix n ci b N : Nat} {fl : List Nat} {T : u_T} {As : List Value} {st : List Value} (M : MM g I (.ref (g.2.2.1 b) :: As) σ (pL (pE e σ))) (cv : CV own ix I n) (hs : sh b = (0, ci, fl)) (hcl : vwCl[ci]? = some (I.1.cls, T, N)) (hn : As.length = n) (hst : As.reverse ++ .ref (g.2.2.1 b) :: S = st) (hd : I.2.2.2.2 < dp) (hsum : (S.map fun v => v.category).sum ≤ 8) (d : decode cc pc = .ok (.invokevirtual ix, 3)) (kk : Z g x nL (pc + 3) L (vL e :: S) σ) : Z g x nL pc L st σ :=
  z_cvL h M cv hs hcl hn hst hd hsum d (fun r σ' hp => by obtain ⟨rfl, rfl⟩ := hp; exact kk)
theorem z_cvQ {c : Prop} (h : Ok g x own cc nL dp) {I : MI} {ix n ci b N : Nat} {fl : List Nat} {T : u_T} {As : List Value} {st : List Value} (M : MM g I (.ref (g.2.2.1 b) :: As) σ (pB (pQ c σ))) (cv : CV own ix I n) (hs : sh b = (0, ci, fl)) (hcl : vwCl[ci]? = some (I.1.cls, T, N)) (hn : As.length = n) (hst : As.reverse ++ .ref (g.2.2.1 b) :: S = st) (hd : I.2.2.2.2 < dp) (hsum : (S.map fun v => v.category).sum ≤ 8) (d : decode cc pc = .ok (.invokevirtual ix, 3)) (kT : c → Z g x nL (pc + 3) L (vI 1 :: S) σ) (kF : ¬ c → Z g x nL (pc + 3) L (vI 0 :: S) σ) : Z g x nL pc L st σ :=
  z_cvB h M cv hs hcl hn hst hd hsum d (fun σ' hp => by obtain ⟨h1, rfl⟩ := hp; exact kT (h1.mp rfl)) (fun σ' hp => by obtain ⟨h1, rfl⟩ := hp; exact kF (fun q => Bool.noConfusion (h1.mpr q)))
theorem z_csE {e : Int} (h : Ok g x own cc nL dp) {I : MI} {ix n : Nat} {As : List Value} {st : List Value} (M : MM g I As σ (pI (pE e σ))) (cv : CS own ix I n) (hn : As.length = n) (hst : As.reverse ++ S = st) (hd : I.2.2.2.2 < dp) (hsum : (S.map fun v => v.category).sum ≤ 8) (d : decode cc pc = .ok (.invokestatic ix, 3)) (kk : Z g x nL (pc + 3) L (vI e :: S) σ) : Z g x nL pc L st σ :=
  z_csI h M cv hn hst hd hsum d (fun r σ' hp => by obtain ⟨rfl, rfl⟩ := hp; exact kk)
theorem z_csEL {e : Int} (h : Ok g x own cc nL dp) {I : MI} {ix n : Nat} {As : List Value} {st : List Value} (M : MM g I As σ (pL (pE e σ))) (cv : CS own ix I n) (hn : As.length = n) (hst : As.reverse ++ S = st) (hd : I.2.2.2.2 < dp) (hsum : (S.map fun v => v.category).sum ≤ 8) (d : decode cc pc = .ok (.invokestatic ix, 3)) (kk : Z g x nL (pc + 3) L (vL e :: S) σ) : Z g x nL pc L st σ :=
  z_csL h M cv hn hst hd hsum d (fun r σ' hp => by obtain ⟨rfl, rfl⟩ := hp; exact kk)
theorem z_csQ {c : Prop} (h : Ok g x own cc nL dp) {I : MI} {ix n : Nat} {As : List Value} {st : List Value} (M : MM g I As σ (pB (pQ c σ))) (cv : CS own ix I n) (hn : As.length = n) (hst : As.reverse ++ S = st) (hd : I.2.2.2.2 < dp) (hsum : (S.map fun v => v.category).sum ≤ 8) (d : decode cc pc = .ok (.invokestatic ix, 3)) (kT : c → Z g x nL (pc + 3) L (vI 1 :: S) σ) (kF : ¬ c → Z g x nL (pc + 3) L (vI 0 :: S) σ) : Z g x nL pc L st σ :=
  z_csB h M cv hn hst hd hsum d (fun σ' hp => by obtain ⟨h1, rfl⟩ := hp; exact kT (h1.mp rfl)) (fun σ' hp => by obtain ⟨h1, rfl⟩ := hp; exact kF (fun q => Bool.noConfusion (h1.mpr q)))
end ZQ
theorem up_up {σ : Sg} {c : Nat} {k a b : Int} : up (up σ c k a) c k b = up σ c k b := by
  funext c' k'; unfold up; split <;> (try split) <;> rfl
theorem up_self {σ : Sg} {c : Nat} {k : Int} : up σ c k (σ c k) = σ := by
  funext c' k'; unfold up; split
  · split
    · subst_vars; rfl
    · rfl
  · rfl
/-- the cells of a Heard at o -/
def Hd (o : Nat) : Prop := sh o = (0, 1, [o + 1 + 2, o + 2 + 2, o + 3 + 2, 0, 0, 0, 0]) ∧ sh (o + 1) = (1, 8, []) ∧ sh (o + 2) = (1, 32, []) ∧ sh (o + 3) = (1, 32, [])
theorem hd_1 : Hd 1 := ⟨rfl, rfl, rfl, rfl⟩
theorem hd_5 : Hd 5 := ⟨rfl, rfl, rfl, rfl⟩
theorem hd_9 : Hd 9 := ⟨rfl, rfl, rfl, rfl⟩
theorem hd_r (i : Nat) (h : i < 8) : Hd (15 + 4 * i) := by
  rcases (show i = 0 ∨ i = 1 ∨ i = 2 ∨ i = 3 ∨ i = 4 ∨ i = 5 ∨ i = 6 ∨ i = 7 by omega) with rfl | rfl | rfl | rfl | rfl | rfl | rfl | rfl <;> exact ⟨rfl, rfl, rfl, rfl⟩
theorem hd_q (i : Nat) (h : i < 8) : Hd (49 + 4 * i) := by
  rcases (show i = 0 ∨ i = 1 ∨ i = 2 ∨ i = 3 ∨ i = 4 ∨ i = 5 ∨ i = 6 ∨ i = 7 by omega) with rfl | rfl | rfl | rfl | rfl | rfl | rfl | rfl <;> exact ⟨rfl, rfl, rfl, rfl⟩
end
section
set_option maxHeartbeats 4000000 in
set_option maxRecDepth 100000 in
theorem t_X9_in {g : G} {σ : Sg} {v lo hi : Int} (rv : -9223372036854775808 ≤ v ∧ v ≤ 9223372036854775807) (rl : -9223372036854775808 ≤ lo ∧ lo ≤ 9223372036854775807) (rh : -9223372036854775808 ≤ hi ∧ hi ≤ 9223372036854775807) : MM g mX9_in [vL v, vL lo, vL hi] σ (pB (pQ (lo ≤ v ∧ v ≤ hi) σ)) := by
  refine mm_of rfl (by decide) rfl rfl (Nat.le_of_ble_eq_true rfl) (fun x hO hR => ?_)
  refine z_lload_n hO 0 dX9_in_0 rfl ?_
  refine z_lload_n hO 1 dX9_in_1 rfl ?_
  refine z_lcmp hO dX9_in_2 (by omega) (by omega) (fun c2 => ?_) (fun c2 => ?_) (fun c2 => ?_)
  ·
    refine z_if_lt hO 17 dX9_in_3 (by decide) (by decide) (fun c3 => absurd c3 (by omega)) (fun c3 => ?_)
    refine z_lload_n hO 0 dX9_in_6 rfl ?_
    refine z_lload hO 2 dX9_in_7 rfl ?_
    refine z_lcmp hO dX9_in_9 (by omega) (by omega) (fun c9 => ?_) (fun c9 => ?_) (fun c9 => ?_)
    ·
      refine z_if_gt hO 17 dX9_in_10 (by decide) (by decide) (fun c10 => ?_) (fun c10 => absurd c10 (by omega))
      refine z_iconst hO dX9_in_17 ?_
      exact z_retQF hO hR dX9_in_18 (by omega) rfl
    ·
      refine z_if_gt hO 17 dX9_in_10 (by decide) (by decide) (fun c10 => absurd c10 (by omega)) (fun c10 => ?_)
      refine z_iconst hO dX9_in_13 ?_
      refine z_goto hO 18 dX9_in_14 (by decide) ?_
      exact z_retQT hO hR dX9_in_18 (by omega) rfl
    ·
      refine z_if_gt hO 17 dX9_in_10 (by decide) (by decide) (fun c10 => absurd c10 (by omega)) (fun c10 => ?_)
      refine z_iconst hO dX9_in_13 ?_
      refine z_goto hO 18 dX9_in_14 (by decide) ?_
      exact z_retQT hO hR dX9_in_18 (by omega) rfl
  ·
    refine z_if_lt hO 17 dX9_in_3 (by decide) (by decide) (fun c3 => absurd c3 (by omega)) (fun c3 => ?_)
    refine z_lload_n hO 0 dX9_in_6 rfl ?_
    refine z_lload hO 2 dX9_in_7 rfl ?_
    refine z_lcmp hO dX9_in_9 (by omega) (by omega) (fun c9 => ?_) (fun c9 => ?_) (fun c9 => ?_)
    ·
      refine z_if_gt hO 17 dX9_in_10 (by decide) (by decide) (fun c10 => ?_) (fun c10 => absurd c10 (by omega))
      refine z_iconst hO dX9_in_17 ?_
      exact z_retQF hO hR dX9_in_18 (by omega) rfl
    ·
      refine z_if_gt hO 17 dX9_in_10 (by decide) (by decide) (fun c10 => absurd c10 (by omega)) (fun c10 => ?_)
      refine z_iconst hO dX9_in_13 ?_
      refine z_goto hO 18 dX9_in_14 (by decide) ?_
      exact z_retQT hO hR dX9_in_18 (by omega) rfl
    ·
      refine z_if_gt hO 17 dX9_in_10 (by decide) (by decide) (fun c10 => absurd c10 (by omega)) (fun c10 => ?_)
      refine z_iconst hO dX9_in_13 ?_
      refine z_goto hO 18 dX9_in_14 (by decide) ?_
      exact z_retQT hO hR dX9_in_18 (by omega) rfl
  ·
    refine z_if_lt hO 17 dX9_in_3 (by decide) (by decide) (fun c3 => ?_) (fun c3 => absurd c3 (by omega))
    refine z_iconst hO dX9_in_17 ?_
    exact z_retQF hO hR dX9_in_18 (by omega) rfl

set_option maxHeartbeats 4000000 in
set_option maxRecDepth 100000 in
theorem t_X9_at {g : G} {σ : Sg} {s : Int} : MM g mX9_at [.ref (g.2.2.1 113), vI s] σ (pI (pE (4 + 9 * s) σ)) := by
  refine mm_of rfl (by decide) rfl rfl (Nat.le_of_ble_eq_true rfl) (fun x hO hR => ?_)
  refine z_iconst hO dX9_at_0 ?_
  refine z_bipush hO dX9_at_1 (by decide) ?_
  refine z_iload_n hO 1 dX9_at_3 rfl ?_
  refine z_imul hO dX9_at_4 ?_
  refine z_iadd hO dX9_at_5 ?_
  exact z_retE hO hR dX9_at_6 (by omega) rfl

set_option maxHeartbeats 4000000 in
set_option maxRecDepth 100000 in
theorem t_X9_isSlot {g : G} {σ : Sg} {s : Int} (rs : -2147483648 ≤ s ∧ s ≤ 2147483647) (hn : 0 ≤ σ 114 0) : MM g mX9_isSlot [.ref (g.2.2.1 113), vI s] σ (pB (pQ (0 ≤ s ∧ s < σ 114 0) σ)) := by
  refine mm_of rfl (by decide) rfl rfl (Nat.le_of_ble_eq_true rfl) (fun x hO hR => ?_)
  refine z_iload_n hO 1 dX9_isSlot_0 rfl ?_
  refine z_i2l hO dX9_isSlot_1 (by omega) ?_
  refine z_lconst hO 0 dX9_isSlot_2 (by decide) ?_
  refine z_aload_n hO 0 dX9_isSlot_3 rfl ?_
  refine z_getR hO (114) fl_X9_7 rfl rfl dX9_isSlot_4 ?_
  refine z_iconst hO dX9_isSlot_7 ?_
  refine z_iald hO rfl (by omega) (by decide) dX9_isSlot_8 (fun r8 => ?_)
  refine z_iconst hO dX9_isSlot_9 ?_
  refine z_isub hO dX9_isSlot_10 ?_
  refine z_i2l hO dX9_isSlot_11 (by omega) ?_
  refine z_csQ hO (t_X9_in (by omega) (by omega) (by omega)) cs_X9_75 rfl rfl (by decide) (Nat.le_of_ble_eq_true rfl) dX9_isSlot_12 (fun c12 => ?_) (fun c12 => ?_)
  ·
    exact z_retQT hO hR dX9_isSlot_15 (by omega) rfl
  ·
    exact z_retQF hO hR dX9_isSlot_15 (by omega) rfl

/-- the word at a place; -4: there is none -/
def wh (w : Int → Int) (n i : Int) : Int := if 0 ≤ i ∧ i < n then w i else -4
def wth (v : Int) : Int := if 1 ≤ v ∧ v ≤ 19 then v else if 20 ≤ v ∧ v ≤ 27 then 10 * v - 180 else 0

set_option maxHeartbeats 4000000 in
set_option maxRecDepth 100000 in
theorem t_X9_wordHere {g : G} {σ : Sg} (h0 : 0 ≤ σ 113 7) (hn : σ 113 3 ≤ 9) : MM g mX9_wordHere [.ref (g.2.2.1 113)] σ (pI (pE (wh (σ 116) (σ 113 3) (σ 113 7)) σ)) := by
  refine mm_of rfl (by decide) rfl rfl (Nat.le_of_ble_eq_true rfl) (fun x hO hR => ?_)
  refine z_aload_n hO 0 dX9_wordHere_0 rfl ?_
  refine z_getI hO 7 fl_X9_83 rfl rfl rfl dX9_wordHere_1 (fun r1 => ?_)
  refine z_aload_n hO 0 dX9_wordHere_4 rfl ?_
  refine z_getI hO 3 fl_X9_86 rfl rfl rfl dX9_wordHere_5 (fun r5 => ?_)
  refine z_icmp_ge hO 23 dX9_wordHere_8 (by decide) (by omega) (by omega) (fun c8 => ?_) (fun c8 => ?_)
  ·
    refine z_bipush hO dX9_wordHere_23 (by decide) ?_
    exact z_retE hO hR dX9_wordHere_25 (by simp only [wh]; split <;> first | rfl | omega) rfl
  ·
    refine z_aload_n hO 0 dX9_wordHere_11 rfl ?_
    refine z_getR hO (116) fl_X9_16 rfl rfl dX9_wordHere_12 ?_
    refine z_aload_n hO 0 dX9_wordHere_15 rfl ?_
    refine z_getI hO 7 fl_X9_83 rfl rfl rfl dX9_wordHere_16 (fun r16 => ?_)
    refine z_iald hO rfl (by omega) (by decide) dX9_wordHere_19 (fun r19 => ?_)
    refine z_goto hO 25 dX9_wordHere_20 (by decide) ?_
    exact z_retE hO hR dX9_wordHere_25 (by simp only [wh]; split <;> first | rfl | omega) rfl

set_option maxHeartbeats 4000000 in
set_option maxRecDepth 100000 in
theorem t_X9_worth {g : G} {σ : Sg} {w : Int} (rw : -2147483648 ≤ w ∧ w ≤ 2147483647) : MM g mX9_worth [vI w] σ (pI (pE (wth w) σ)) := by
  refine mm_of rfl (by decide) rfl rfl (Nat.le_of_ble_eq_true rfl) (fun x hO hR => ?_)
  refine z_iload_n hO 0 dX9_worth_0 rfl ?_
  refine z_i2l hO dX9_worth_1 (by omega) ?_
  refine z_lconst hO 1 dX9_worth_2 (by decide) ?_
  refine z_ldc2 hO k_X9_89 dX9_worth_3 ?_
  refine z_csQ hO (t_X9_in (by omega) (by omega) (by omega)) cs_X9_75 rfl rfl (by decide) (Nat.le_of_ble_eq_true rfl) dX9_worth_6 (fun c6 => ?_) (fun c6 => ?_)
  ·
    refine z_if_eq hO 16 dX9_worth_9 (by decide) (by decide) (fun c9 => absurd c9 (by omega)) (fun c9 => ?_)
    refine z_iload_n hO 0 dX9_worth_12 rfl ?_
    refine z_goto hO 42 dX9_worth_13 (by decide) ?_
    exact z_retE hO hR dX9_worth_42 (by simp only [wth]; (repeat split) <;> omega) rfl
  ·
    refine z_if_eq hO 16 dX9_worth_9 (by decide) (by decide) (fun c9 => ?_) (fun c9 => absurd c9 (by omega))
    refine z_iload_n hO 0 dX9_worth_16 rfl ?_
    refine z_i2l hO dX9_worth_17 (by omega) ?_
    refine z_ldc2 hO k_X9_91 dX9_worth_18 ?_
    refine z_ldc2 hO k_X9_93 dX9_worth_21 ?_
    refine z_csQ hO (t_X9_in (by omega) (by omega) (by omega)) cs_X9_75 rfl rfl (by decide) (Nat.le_of_ble_eq_true rfl) dX9_worth_24 (fun c24 => ?_) (fun c24 => ?_)
    ·
      refine z_if_eq hO 41 dX9_worth_27 (by decide) (by decide) (fun c27 => absurd c27 (by omega)) (fun c27 => ?_)
      refine z_bipush hO dX9_worth_30 (by decide) ?_
      refine z_iload_n hO 0 dX9_worth_32 rfl ?_
      refine z_imul hO dX9_worth_33 ?_
      refine z_sipush hO dX9_worth_34 (by decide) ?_
      refine z_isub hO dX9_worth_37 ?_
      refine z_goto hO 42 dX9_worth_38 (by decide) ?_
      exact z_retE hO hR dX9_worth_42 (by simp only [wth]; (repeat split) <;> omega) rfl
    ·
      refine z_if_eq hO 41 dX9_worth_27 (by decide) (by decide) (fun c27 => ?_) (fun c27 => absurd c27 (by omega))
      refine z_iconst hO dX9_worth_41 ?_
      exact z_retE hO hR dX9_worth_42 (by simp only [wth]; (repeat split) <;> omega) rfl

/-! what the reference's readers answer, and where they stand then; f: the word at a place, -4 where there is none -/
def lowF (f : Int → Int) (i : Int) : Int × Int := if wth (f i) = 0 then (0, i) else if 19 < f i ∧ 1 ≤ f (i + 1) ∧ f (i + 1) ≤ 9 then (wth (f i) + f (i + 1), i + 1 + 1) else (wth (f i), i + 1)
def moreF (f : Int → Int) (i : Int) : Int × Int := if f i = 30 then (if (lowF f (i + 1)).1 = 0 then (-4, (lowF f (i + 1)).2) else lowF f (i + 1)) else lowF f i
def smallF (f : Int → Int) (i : Int) : Int × Int := if 1 ≤ f i ∧ f i ≤ 9 ∧ f (i + 1) = 28 then (if (moreF f (i + 2)).1 < 0 then (-4, (moreF f (i + 2)).2) else (100 * f i + (moreF f (i + 2)).1, (moreF f (i + 2)).2)) else lowF f i
def restF (f : Int → Int) (i : Int) : Int × Int := if f i = 30 then moreF f i else smallF f i
def numF (f : Int → Int) (i : Int) : Int × Int := if (smallF f i).1 ≤ 0 ∨ f (smallF f i).2 ≠ 29 then smallF f i else if (restF f ((smallF f i).2 + 1)).1 < 0 then (-4, (restF f ((smallF f i).2 + 1)).2) else (1000 * (smallF f i).1 + (restF f ((smallF f i).2 + 1)).1, (restF f ((smallF f i).2 + 1)).2)
/-- words at the places below n, none elsewhere -/
def PF (f : Int → Int) (n : Int) : Prop := 0 ≤ n ∧ n ≤ 8 ∧ (∀ i, 0 ≤ i → i < n → 0 ≤ f i ∧ f i ≤ 31) ∧ ∀ i, (i < 0 ∨ n ≤ i) → f i = -4
theorem PF.r {f : Int → Int} {n : Int} (h : PF f n) (i : Int) : -4 ≤ f i ∧ f i ≤ 31 := by
  by_cases q : 0 ≤ i ∧ i < n
  · have := h.2.2.1 i q.1 q.2; omega
  · have := h.2.2.2 i (by omega); omega
theorem PF.lt {f : Int → Int} {n : Int} (h : PF f n) {i : Int} (q : f i ≠ -4) : 0 ≤ i ∧ i < n := by
  apply Classical.byContradiction; intro z; exact q (h.2.2.2 i (by omega))
theorem wth_r (v : Int) : 0 ≤ wth v ∧ wth v ≤ 90 := by
  unfold wth; split
  · omega
  · split <;> omega
theorem wth_4 {v : Int} (h : wth v ≠ 0) : v ≠ -4 := by rintro rfl; exact h (by decide)
theorem lowF_r {f : Int → Int} {n i : Int} (h : PF f n) (hi : 0 ≤ i) (hn : i ≤ n) : 0 ≤ (lowF f i).1 ∧ (lowF f i).1 ≤ 99 ∧ i ≤ (lowF f i).2 ∧ (lowF f i).2 ≤ n := by
  unfold lowF
  have a := wth_r (f i)
  split
  · simp only; omega
  · rename_i h1
    have b := h.lt (wth_4 h1)
    split
    · rename_i h2
      have c := h.lt (i := i + 1) (by omega)
      simp only; omega
    · simp only; omega
theorem moreF_r {f : Int → Int} {n i : Int} (h : PF f n) (hi : 0 ≤ i) (hn : i ≤ n) : -4 ≤ (moreF f i).1 ∧ (moreF f i).1 ≤ 99 ∧ i ≤ (moreF f i).2 ∧ (moreF f i).2 ≤ n := by
  unfold moreF
  split
  · rename_i h1
    have b := h.lt (i := i) (by omega)
    have c := lowF_r h (i := i + 1) (by omega) (by omega)
    split
    · simp only; omega
    · omega
  · have c := lowF_r h hi hn; omega
theorem smallF_r {f : Int → Int} {n i : Int} (h : PF f n) (hi : 0 ≤ i) (hn : i ≤ n) : -4 ≤ (smallF f i).1 ∧ (smallF f i).1 ≤ 999 ∧ i ≤ (smallF f i).2 ∧ (smallF f i).2 ≤ n := by
  unfold smallF
  split
  · have b := h.lt (i := i + 1) (by omega)
    have c := moreF_r h (i := i + 2) (by omega) (by omega)
    split
    · simp only; omega
    · simp only; omega
  · have c := lowF_r h hi hn; omega
theorem restF_r {f : Int → Int} {n i : Int} (h : PF f n) (hi : 0 ≤ i) (hn : i ≤ n) : -4 ≤ (restF f i).1 ∧ (restF f i).1 ≤ 999 ∧ i ≤ (restF f i).2 ∧ (restF f i).2 ≤ n := by
  unfold restF
  split
  · have := moreF_r h hi hn; omega
  · exact smallF_r h hi hn
theorem numF_r {f : Int → Int} {n i : Int} (h : PF f n) (hi : 0 ≤ i) (hn : i ≤ n) : -4 ≤ (numF f i).1 ∧ (numF f i).1 ≤ 999999 ∧ i ≤ (numF f i).2 ∧ (numF f i).2 ≤ n := by
  unfold numF
  have a := smallF_r h hi hn
  split
  · omega
  · have b := h.lt (i := (smallF f i).2) (by omega)
    have c := restF_r h (i := (smallF f i).2 + 1) (by omega) (by omega)
    split
    · simp only; omega
    · simp only; omega
end
section
set_option maxHeartbeats 4000000 in
set_option maxRecDepth 100000 in
theorem t_X9_low {g : G} {σ : Sg} (hw : PF (wh (σ 116) (σ 113 3)) (σ 113 3)) (h0 : 0 ≤ σ 113 7) (h1 : σ 113 7 ≤ σ 113 3) : MM g mX9_low [.ref (g.2.2.1 113)] σ (pI (fun r σ' => r = (lowF (wh (σ 116) (σ 113 3)) (σ 113 7)).1 ∧ σ' = up σ 113 7 (lowF (wh (σ 116) (σ 113 3)) (σ 113 7)).2)) := by
  refine mm_of rfl (by decide) rfl rfl (Nat.le_of_ble_eq_true rfl) (fun x hO hR => ?_)
  have hA := hw.1
  have hB := hw.2.1
  have hC := hw.r (σ 113 7)
  have hD := wth_r (wh (σ 116) (σ 113 3) (σ 113 7))
  have hE := hw.r (σ 113 7 + 1)
  refine z_aload_n hO 0 dX9_low_0 rfl ?_
  refine z_cvE hO (t_X9_wordHere (by (try simp only [up_row_ne, up_ne, up_eq, up_nk, up_up, up_self, ne_eq, Nat.reduceEqDiff, Int.reduceEq, reduceCtorEq, not_false_eq_true, not_true_eq_false]); omega) (by (try simp only [up_row_ne, up_ne, up_eq, up_nk, up_up, up_self, ne_eq, Nat.reduceEqDiff, Int.reduceEq, reduceCtorEq, not_false_eq_true, not_true_eq_false]); omega)) cv_X9_95 rfl rfl rfl rfl (by decide) (Nat.le_of_ble_eq_true rfl) dX9_low_1 ?_
  refine z_istore_n hO (L' := [(1, _), (0, _)]) dX9_low_4 (by decide) rfl ?_
  refine z_iload_n hO 0 dX9_low_5 rfl ?_
  refine z_csE hO (t_X9_worth (by omega)) cs_X9_99 rfl rfl (by decide) (Nat.le_of_ble_eq_true rfl) dX9_low_6 ?_
  refine z_istore_n hO (L' := [(2, _), (1, _), (0, _)]) dX9_low_9 (by decide) rfl ?_
  refine z_iload_n hO 0 dX9_low_10 rfl ?_
  refine z_if_ne hO 16 dX9_low_11 (by decide) (by omega) (fun c11 => ?_) (fun c11 => ?_)
  ·
    refine z_aload_n hO 2 dX9_low_16 rfl ?_
    refine z_dup hO dX9_low_17 rfl ?_
    refine z_getI hO 7 fl_X9_83 rfl rfl rfl dX9_low_18 (fun r18 => ?_)
    refine z_iconst hO dX9_low_21 ?_
    refine z_iadd hO dX9_low_22 ?_
    refine z_putI hO 7 fp_X9_83 rfl rfl rfl (by omega) rfl rfl dX9_low_23 ?_
    refine z_iload_n hO 1 dX9_low_26 rfl ?_
    refine z_bipush hO dX9_low_27 (by decide) ?_
    refine z_icmp_le hO 64 dX9_low_29 (by decide) (by omega) (by decide) (fun c29 => ?_) (fun c29 => ?_)
    ·
      refine z_iload_n hO 0 dX9_low_64 rfl ?_
      exact z_retI hO hR dX9_low_65 (by unfold lowF; (repeat' split) <;> first | (exfalso; omega) | (constructor <;> first | rfl | omega | simp [up_row_ne, up_ne, up_eq, up_nk, up_up, up_self, ne_eq, Nat.reduceEqDiff, Int.reduceEq, reduceCtorEq, not_false_eq_true, not_true_eq_false]))
    ·
      refine z_aload_n hO 2 dX9_low_32 rfl ?_
      refine z_cvE hO (t_X9_wordHere (by (try simp only [up_row_ne, up_ne, up_eq, up_nk, up_up, up_self, ne_eq, Nat.reduceEqDiff, Int.reduceEq, reduceCtorEq, not_false_eq_true, not_true_eq_false]); omega) (by (try simp only [up_row_ne, up_ne, up_eq, up_nk, up_up, up_self, ne_eq, Nat.reduceEqDiff, Int.reduceEq, reduceCtorEq, not_false_eq_true, not_true_eq_false]); omega)) cv_X9_95 rfl rfl rfl rfl (by decide) (Nat.le_of_ble_eq_true rfl) dX9_low_33 ?_
      try simp only [up_row_ne, up_ne, up_eq, up_nk, up_up, up_self, ne_eq, Nat.reduceEqDiff, Int.reduceEq, reduceCtorEq, not_false_eq_true, not_true_eq_false]
      refine z_i2l hO dX9_low_36 (by omega) ?_
      refine z_lconst hO 1 dX9_low_37 (by decide) ?_
      refine z_ldc2 hO k_X9_102 dX9_low_38 ?_
      refine z_csQ hO (t_X9_in (by omega) (by omega) (by omega)) cs_X9_75 rfl rfl (by decide) (Nat.le_of_ble_eq_true rfl) dX9_low_41 (fun c41 => ?_) (fun c41 => ?_)
      ·
        try simp only [up_row_ne, up_ne, up_eq, up_nk, up_up, up_self, ne_eq, Nat.reduceEqDiff, Int.reduceEq, reduceCtorEq, not_false_eq_true, not_true_eq_false] at c41 ⊢
        refine z_if_eq hO 64 dX9_low_44 (by decide) (by decide) (fun c44 => absurd c44 (by omega)) (fun c44 => ?_)
        refine z_iload_n hO 0 dX9_low_47 rfl ?_
        refine z_aload_n hO 2 dX9_low_48 rfl ?_
        refine z_cvE hO (t_X9_wordHere (by (try simp only [up_row_ne, up_ne, up_eq, up_nk, up_up, up_self, ne_eq, Nat.reduceEqDiff, Int.reduceEq, reduceCtorEq, not_false_eq_true, not_true_eq_false]); omega) (by (try simp only [up_row_ne, up_ne, up_eq, up_nk, up_up, up_self, ne_eq, Nat.reduceEqDiff, Int.reduceEq, reduceCtorEq, not_false_eq_true, not_true_eq_false]); omega)) cv_X9_95 rfl rfl rfl rfl (by decide) (Nat.le_of_ble_eq_true rfl) dX9_low_49 ?_
        try simp only [up_row_ne, up_ne, up_eq, up_nk, up_up, up_self, ne_eq, Nat.reduceEqDiff, Int.reduceEq, reduceCtorEq, not_false_eq_true, not_true_eq_false]
        refine z_iadd hO dX9_low_52 ?_
        refine z_istore_n hO (L' := [(2, _), (1, _), (0, _)]) dX9_low_53 (by decide) rfl ?_
        refine z_aload_n hO 2 dX9_low_54 rfl ?_
        refine z_dup hO dX9_low_55 rfl ?_
        refine z_getI hO 7 fl_X9_83 rfl rfl rfl dX9_low_56 (fun r56 => ?_)
        try simp only [up_row_ne, up_ne, up_eq, up_nk, up_up, up_self, ne_eq, Nat.reduceEqDiff, Int.reduceEq, reduceCtorEq, not_false_eq_true, not_true_eq_false] at r56 ⊢
        refine z_iconst hO dX9_low_59 ?_
        refine z_iadd hO dX9_low_60 ?_
        refine z_putI hO 7 fp_X9_83 rfl rfl rfl (by omega) rfl rfl dX9_low_61 ?_
        refine z_iload_n hO 0 dX9_low_64 rfl ?_
        exact z_retI hO hR dX9_low_65 (by unfold lowF; (repeat' split) <;> first | (exfalso; omega) | (constructor <;> first | rfl | omega | simp [up_row_ne, up_ne, up_eq, up_nk, up_up, up_self, ne_eq, Nat.reduceEqDiff, Int.reduceEq, reduceCtorEq, not_false_eq_true, not_true_eq_false]))
      ·
        try simp only [up_row_ne, up_ne, up_eq, up_nk, up_up, up_self, ne_eq, Nat.reduceEqDiff, Int.reduceEq, reduceCtorEq, not_false_eq_true, not_true_eq_false] at c41 ⊢
        refine z_if_eq hO 64 dX9_low_44 (by decide) (by decide) (fun c44 => ?_) (fun c44 => absurd c44 (by omega))
        refine z_iload_n hO 0 dX9_low_64 rfl ?_
        exact z_retI hO hR dX9_low_65 (by unfold lowF; (repeat' split) <;> first | (exfalso; omega) | (constructor <;> first | rfl | omega | simp [up_row_ne, up_ne, up_eq, up_nk, up_up, up_self, ne_eq, Nat.reduceEqDiff, Int.reduceEq, reduceCtorEq, not_false_eq_true, not_true_eq_false]))
  ·
    refine z_iconst hO dX9_low_14 ?_
    exact z_retI hO hR dX9_low_15 (by unfold lowF; (repeat' split) <;> first | (exfalso; omega) | (constructor <;> first | rfl | omega | simp [up_row_ne, up_ne, up_eq, up_nk, up_up, up_self, ne_eq, Nat.reduceEqDiff, Int.reduceEq, reduceCtorEq, not_false_eq_true, not_true_eq_false]))

set_option maxHeartbeats 4000000 in
set_option maxRecDepth 100000 in
theorem t_X9_more {g : G} {σ : Sg} (hw : PF (wh (σ 116) (σ 113 3)) (σ 113 3)) (h0 : 0 ≤ σ 113 7) (h1 : σ 113 7 ≤ σ 113 3) : MM g mX9_more [.ref (g.2.2.1 113)] σ (pI (fun r σ' => r = (moreF (wh (σ 116) (σ 113 3)) (σ 113 7)).1 ∧ σ' = up σ 113 7 (moreF (wh (σ 116) (σ 113 3)) (σ 113 7)).2)) := by
  refine mm_of rfl (by decide) rfl rfl (Nat.le_of_ble_eq_true rfl) (fun x hO hR => ?_)
  have hA := hw.1
  have hB := hw.2.1
  have hC := hw.r (σ 113 7)
  have hE := lowF_r hw h0 h1
  have hF : wh (σ 116) (σ 113 3) (σ 113 7) = 30 → σ 113 7 + 1 ≤ σ 113 3 := fun q => by have := hw.lt (i := σ 113 7) (by omega); omega
  have hG : wh (σ 116) (σ 113 3) (σ 113 7) = 30 → _ := fun q => lowF_r hw (i := σ 113 7 + 1) (by omega) (hF q)
  refine z_aload_n hO 0 dX9_more_0 rfl ?_
  refine z_cvE hO (t_X9_wordHere (by (try simp only [up_row_ne, up_ne, up_eq, up_nk, up_up, up_self, ne_eq, Nat.reduceEqDiff, Int.reduceEq, reduceCtorEq, not_false_eq_true, not_true_eq_false]); omega) (by (try simp only [up_row_ne, up_ne, up_eq, up_nk, up_up, up_self, ne_eq, Nat.reduceEqDiff, Int.reduceEq, reduceCtorEq, not_false_eq_true, not_true_eq_false]); omega)) cv_X9_95 rfl rfl rfl rfl (by decide) (Nat.le_of_ble_eq_true rfl) dX9_more_1 ?_
  refine z_bipush hO dX9_more_4 (by decide) ?_
  refine z_icmp_ne hO 13 dX9_more_6 (by decide) (by omega) (by decide) (fun c6 => ?_) (fun c6 => ?_)
  ·
    refine z_iconst hO dX9_more_13 ?_
    refine z_istore_n hO (L' := [(1, _), (0, _)]) dX9_more_14 (by decide) rfl ?_
    refine z_aload_n hO 1 dX9_more_15 rfl ?_
    refine z_dup hO dX9_more_16 rfl ?_
    refine z_getI hO 7 fl_X9_83 rfl rfl rfl dX9_more_17 (fun r17 => ?_)
    refine z_iload_n hO 0 dX9_more_20 rfl ?_
    refine z_if_eq hO 28 dX9_more_21 (by decide) (by decide) (fun c21 => ?_) (fun c21 => absurd c21 (by omega))
    refine z_iconst hO dX9_more_28 ?_
    refine z_iadd hO dX9_more_29 ?_
    refine z_putI hO 7 fp_X9_83 rfl rfl rfl (by omega) rfl rfl dX9_more_30 ?_
    refine z_aload_n hO 1 dX9_more_33 rfl ?_
    refine z_cvI hO (t_X9_low (by first | exact hw | (simp only [up_row_ne, up_ne, up_eq, up_nk, up_up, up_self, ne_eq, Nat.reduceEqDiff, Int.reduceEq, reduceCtorEq, not_false_eq_true, not_true_eq_false]; exact hw)) (by (try simp only [up_row_ne, up_ne, up_eq, up_nk, up_up, up_self, ne_eq, Nat.reduceEqDiff, Int.reduceEq, reduceCtorEq, not_false_eq_true, not_true_eq_false]); omega) (by (try simp only [up_row_ne, up_ne, up_eq, up_nk, up_up, up_self, ne_eq, Nat.reduceEqDiff, Int.reduceEq, reduceCtorEq, not_false_eq_true, not_true_eq_false]); omega)) cv_X9_104 rfl rfl rfl rfl (by decide) (Nat.le_of_ble_eq_true rfl) dX9_more_34 (fun v34 s34 p34 => ?_)
    try simp only [up_row_ne, up_ne, up_eq, up_nk, up_up, up_self, ne_eq, Nat.reduceEqDiff, Int.reduceEq, reduceCtorEq, not_false_eq_true, not_true_eq_false] at p34
    obtain ⟨rfl, rfl⟩ := p34
    try simp only [up_row_ne, up_ne, up_eq, up_nk, up_up, up_self, ne_eq, Nat.reduceEqDiff, Int.reduceEq, reduceCtorEq, not_false_eq_true, not_true_eq_false]
    refine z_istore_n hO (L' := [(2, _), (1, _), (0, _)]) dX9_more_37 (by decide) rfl ?_
    refine z_iload_n hO 1 dX9_more_38 rfl ?_
    refine z_if_eq hO 51 dX9_more_39 (by decide) (by decide) (fun c39 => ?_) (fun c39 => absurd c39 (by omega))
    refine z_iload_n hO 0 dX9_more_51 rfl ?_
    exact z_retI hO hR dX9_more_52 (by unfold moreF; (repeat' split) <;> first | (exfalso; omega) | (constructor <;> first | rfl | omega | simp [up_row_ne, up_ne, up_eq, up_nk, up_up, up_self, ne_eq, Nat.reduceEqDiff, Int.reduceEq, reduceCtorEq, not_false_eq_true, not_true_eq_false]))
  ·
    refine z_iconst hO dX9_more_9 ?_
    refine z_goto hO 14 dX9_more_10 (by decide) ?_
    refine z_istore_n hO (L' := [(1, _), (0, _)]) dX9_more_14 (by decide) rfl ?_
    refine z_aload_n hO 1 dX9_more_15 rfl ?_
    refine z_dup hO dX9_more_16 rfl ?_
    refine z_getI hO 7 fl_X9_83 rfl rfl rfl dX9_more_17 (fun r17 => ?_)
    refine z_iload_n hO 0 dX9_more_20 rfl ?_
    refine z_if_eq hO 28 dX9_more_21 (by decide) (by decide) (fun c21 => absurd c21 (by omega)) (fun c21 => ?_)
    refine z_iconst hO dX9_more_24 ?_
    refine z_goto hO 29 dX9_more_25 (by decide) ?_
    refine z_iadd hO dX9_more_29 ?_
    refine z_putI hO 7 fp_X9_83 rfl rfl rfl (by omega) rfl rfl dX9_more_30 ?_
    refine z_aload_n hO 1 dX9_more_33 rfl ?_
    refine z_cvI hO (t_X9_low (by first | exact hw | (simp only [up_row_ne, up_ne, up_eq, up_nk, up_up, up_self, ne_eq, Nat.reduceEqDiff, Int.reduceEq, reduceCtorEq, not_false_eq_true, not_true_eq_false]; exact hw)) (by (try simp only [up_row_ne, up_ne, up_eq, up_nk, up_up, up_self, ne_eq, Nat.reduceEqDiff, Int.reduceEq, reduceCtorEq, not_false_eq_true, not_true_eq_false]); omega) (by (try simp only [up_row_ne, up_ne, up_eq, up_nk, up_up, up_self, ne_eq, Nat.reduceEqDiff, Int.reduceEq, reduceCtorEq, not_false_eq_true, not_true_eq_false]); omega)) cv_X9_104 rfl rfl rfl rfl (by decide) (Nat.le_of_ble_eq_true rfl) dX9_more_34 (fun v34 s34 p34 => ?_)
    try simp only [up_row_ne, up_ne, up_eq, up_nk, up_up, up_self, ne_eq, Nat.reduceEqDiff, Int.reduceEq, reduceCtorEq, not_false_eq_true, not_true_eq_false] at p34
    obtain ⟨rfl, rfl⟩ := p34
    try simp only [up_row_ne, up_ne, up_eq, up_nk, up_up, up_self, ne_eq, Nat.reduceEqDiff, Int.reduceEq, reduceCtorEq, not_false_eq_true, not_true_eq_false]
    refine z_istore_n hO (L' := [(2, _), (1, _), (0, _)]) dX9_more_37 (by decide) rfl ?_
    refine z_iload_n hO 1 dX9_more_38 rfl ?_
    refine z_if_eq hO 51 dX9_more_39 (by decide) (by decide) (fun c39 => absurd c39 (by omega)) (fun c39 => ?_)
    refine z_iload_n hO 0 dX9_more_42 rfl ?_
    refine z_if_ne hO 51 dX9_more_43 (by decide) (by omega) (fun c43 => ?_) (fun c43 => ?_)
    ·
      refine z_iload_n hO 0 dX9_more_51 rfl ?_
      exact z_retI hO hR dX9_more_52 (by unfold moreF; (repeat' split) <;> first | (exfalso; omega) | (constructor <;> first | rfl | omega | simp [up_row_ne, up_ne, up_eq, up_nk, up_up, up_self, ne_eq, Nat.reduceEqDiff, Int.reduceEq, reduceCtorEq, not_false_eq_true, not_true_eq_false]))
    ·
      refine z_bipush hO dX9_more_46 (by decide) ?_
      refine z_goto hO 52 dX9_more_48 (by decide) ?_
      exact z_retI hO hR dX9_more_52 (by unfold moreF; (repeat' split) <;> first | (exfalso; omega) | (constructor <;> first | rfl | omega | simp [up_row_ne, up_ne, up_eq, up_nk, up_up, up_self, ne_eq, Nat.reduceEqDiff, Int.reduceEq, reduceCtorEq, not_false_eq_true, not_true_eq_false]))

set_option maxHeartbeats 4000000 in
set_option maxRecDepth 100000 in
theorem t_X9_small {g : G} {σ : Sg} (hw : PF (wh (σ 116) (σ 113 3)) (σ 113 3)) (h0 : 0 ≤ σ 113 7) (h1 : σ 113 7 ≤ σ 113 3) : MM g mX9_small [.ref (g.2.2.1 113)] σ (pI (fun r σ' => r = (smallF (wh (σ 116) (σ 113 3)) (σ 113 7)).1 ∧ σ' = up σ 113 7 (smallF (wh (σ 116) (σ 113 3)) (σ 113 7)).2)) := by
  refine mm_of rfl (by decide) rfl rfl (Nat.le_of_ble_eq_true rfl) (fun x hO hR => ?_)
  have hA := hw.1
  have hB := hw.2.1
  have hC := hw.r (σ 113 7)
  have hE := lowF_r hw h0 h1
  have hF : σ 113 7 + 1 < σ 113 3 → wh (σ 116) (σ 113 3) (σ 113 7 + 1) = σ 116 (σ 113 7 + 1) := fun q => by unfold wh; rw [if_pos (by omega)]
  have hF2 : σ 113 3 ≤ σ 113 7 + 1 → wh (σ 116) (σ 113 3) (σ 113 7 + 1) = -4 := fun q => hw.2.2.2 _ (by omega)
  have hG : σ 113 7 + 1 < σ 113 3 → _ := fun q => moreF_r hw (i := σ 113 7 + 2) (by omega) (by omega)
  refine z_aload_n hO 0 dX9_small_0 rfl ?_
  refine z_cvE hO (t_X9_wordHere (by (try simp only [up_row_ne, up_ne, up_eq, up_nk, up_up, up_self, ne_eq, Nat.reduceEqDiff, Int.reduceEq, reduceCtorEq, not_false_eq_true, not_true_eq_false]); omega) (by (try simp only [up_row_ne, up_ne, up_eq, up_nk, up_up, up_self, ne_eq, Nat.reduceEqDiff, Int.reduceEq, reduceCtorEq, not_false_eq_true, not_true_eq_false]); omega)) cv_X9_95 rfl rfl rfl rfl (by decide) (Nat.le_of_ble_eq_true rfl) dX9_small_1 ?_
  refine z_i2l hO dX9_small_4 (by omega) ?_
  refine z_lconst hO 1 dX9_small_5 (by decide) ?_
  refine z_ldc2 hO k_X9_102 dX9_small_6 ?_
  refine z_csQ hO (t_X9_in (by omega) (by omega) (by omega)) cs_X9_75 rfl rfl (by decide) (Nat.le_of_ble_eq_true rfl) dX9_small_9 (fun c9 => ?_) (fun c9 => ?_)
  ·
    refine z_if_eq hO 48 dX9_small_12 (by decide) (by decide) (fun c12 => absurd c12 (by omega)) (fun c12 => ?_)
    refine z_aload_n hO 0 dX9_small_15 rfl ?_
    refine z_getI hO 7 fl_X9_83 rfl rfl rfl dX9_small_16 (fun r16 => ?_)
    refine z_iconst hO dX9_small_19 ?_
    refine z_iadd hO dX9_small_20 ?_
    refine z_aload_n hO 0 dX9_small_21 rfl ?_
    refine z_getI hO 3 fl_X9_86 rfl rfl rfl dX9_small_22 (fun r22 => ?_)
    refine z_icmp_ge hO 48 dX9_small_25 (by decide) (by omega) (by omega) (fun c25 => ?_) (fun c25 => ?_)
    ·
      refine z_iconst hO dX9_small_48 ?_
      refine z_istore_n hO (L' := [(1, _), (0, _)]) dX9_small_49 (by decide) rfl ?_
      refine z_iload_n hO 0 dX9_small_50 rfl ?_
      refine z_if_ne hO 59 dX9_small_51 (by decide) (by decide) (fun c51 => absurd c51 (by omega)) (fun c51 => ?_)
      refine z_aload_n hO 1 dX9_small_54 rfl ?_
      refine z_cvI hO (t_X9_low (by first | exact hw | (simp only [up_row_ne, up_ne, up_eq, up_nk, up_up, up_self, ne_eq, Nat.reduceEqDiff, Int.reduceEq, reduceCtorEq, not_false_eq_true, not_true_eq_false]; exact hw)) (by (try simp only [up_row_ne, up_ne, up_eq, up_nk, up_up, up_self, ne_eq, Nat.reduceEqDiff, Int.reduceEq, reduceCtorEq, not_false_eq_true, not_true_eq_false]); omega) (by (try simp only [up_row_ne, up_ne, up_eq, up_nk, up_up, up_self, ne_eq, Nat.reduceEqDiff, Int.reduceEq, reduceCtorEq, not_false_eq_true, not_true_eq_false]); omega)) cv_X9_104 rfl rfl rfl rfl (by decide) (Nat.le_of_ble_eq_true rfl) dX9_small_55 (fun v55 s55 p55 => ?_)
      try simp only [up_row_ne, up_ne, up_eq, up_nk, up_up, up_self, ne_eq, Nat.reduceEqDiff, Int.reduceEq, reduceCtorEq, not_false_eq_true, not_true_eq_false] at p55
      obtain ⟨rfl, rfl⟩ := p55
      try simp only [up_row_ne, up_ne, up_eq, up_nk, up_up, up_self, ne_eq, Nat.reduceEqDiff, Int.reduceEq, reduceCtorEq, not_false_eq_true, not_true_eq_false]
      exact z_retI hO hR dX9_small_58 (by unfold smallF; (repeat' split) <;> first | (exfalso; omega) | (constructor <;> first | rfl | omega | simp [up_row_ne, up_ne, up_eq, up_nk, up_up, up_self, ne_eq, Nat.reduceEqDiff, Int.reduceEq, reduceCtorEq, not_false_eq_true, not_true_eq_false]))
    ·
      refine z_aload_n hO 0 dX9_small_28 rfl ?_
      refine z_getR hO (116) fl_X9_16 rfl rfl dX9_small_29 ?_
      refine z_aload_n hO 0 dX9_small_32 rfl ?_
      refine z_getI hO 7 fl_X9_83 rfl rfl rfl dX9_small_33 (fun r33 => ?_)
      refine z_iconst hO dX9_small_36 ?_
      refine z_iadd hO dX9_small_37 ?_
      refine z_iald hO rfl (by omega) (by decide) dX9_small_38 (fun r38 => ?_)
      refine z_bipush hO dX9_small_39 (by decide) ?_
      refine z_icmp_ne hO 48 dX9_small_41 (by decide) (by omega) (by decide) (fun c41 => ?_) (fun c41 => ?_)
      ·
        refine z_iconst hO dX9_small_48 ?_
        refine z_istore_n hO (L' := [(1, _), (0, _)]) dX9_small_49 (by decide) rfl ?_
        refine z_iload_n hO 0 dX9_small_50 rfl ?_
        refine z_if_ne hO 59 dX9_small_51 (by decide) (by decide) (fun c51 => absurd c51 (by omega)) (fun c51 => ?_)
        refine z_aload_n hO 1 dX9_small_54 rfl ?_
        refine z_cvI hO (t_X9_low (by first | exact hw | (simp only [up_row_ne, up_ne, up_eq, up_nk, up_up, up_self, ne_eq, Nat.reduceEqDiff, Int.reduceEq, reduceCtorEq, not_false_eq_true, not_true_eq_false]; exact hw)) (by (try simp only [up_row_ne, up_ne, up_eq, up_nk, up_up, up_self, ne_eq, Nat.reduceEqDiff, Int.reduceEq, reduceCtorEq, not_false_eq_true, not_true_eq_false]); omega) (by (try simp only [up_row_ne, up_ne, up_eq, up_nk, up_up, up_self, ne_eq, Nat.reduceEqDiff, Int.reduceEq, reduceCtorEq, not_false_eq_true, not_true_eq_false]); omega)) cv_X9_104 rfl rfl rfl rfl (by decide) (Nat.le_of_ble_eq_true rfl) dX9_small_55 (fun v55 s55 p55 => ?_)
        try simp only [up_row_ne, up_ne, up_eq, up_nk, up_up, up_self, ne_eq, Nat.reduceEqDiff, Int.reduceEq, reduceCtorEq, not_false_eq_true, not_true_eq_false] at p55
        obtain ⟨rfl, rfl⟩ := p55
        try simp only [up_row_ne, up_ne, up_eq, up_nk, up_up, up_self, ne_eq, Nat.reduceEqDiff, Int.reduceEq, reduceCtorEq, not_false_eq_true, not_true_eq_false]
        exact z_retI hO hR dX9_small_58 (by unfold smallF; (repeat' split) <;> first | (exfalso; omega) | (constructor <;> first | rfl | omega | simp [up_row_ne, up_ne, up_eq, up_nk, up_up, up_self, ne_eq, Nat.reduceEqDiff, Int.reduceEq, reduceCtorEq, not_false_eq_true, not_true_eq_false]))
      ·
        refine z_iconst hO dX9_small_44 ?_
        refine z_goto hO 49 dX9_small_45 (by decide) ?_
        refine z_istore_n hO (L' := [(1, _), (0, _)]) dX9_small_49 (by decide) rfl ?_
        refine z_iload_n hO 0 dX9_small_50 rfl ?_
        refine z_if_ne hO 59 dX9_small_51 (by decide) (by decide) (fun c51 => ?_) (fun c51 => absurd c51 (by omega))
        refine z_bipush hO dX9_small_59 (by decide) ?_
        refine z_aload_n hO 1 dX9_small_61 rfl ?_
        refine z_cvE hO (t_X9_wordHere (by (try simp only [up_row_ne, up_ne, up_eq, up_nk, up_up, up_self, ne_eq, Nat.reduceEqDiff, Int.reduceEq, reduceCtorEq, not_false_eq_true, not_true_eq_false]); omega) (by (try simp only [up_row_ne, up_ne, up_eq, up_nk, up_up, up_self, ne_eq, Nat.reduceEqDiff, Int.reduceEq, reduceCtorEq, not_false_eq_true, not_true_eq_false]); omega)) cv_X9_95 rfl rfl rfl rfl (by decide) (Nat.le_of_ble_eq_true rfl) dX9_small_62 ?_
        refine z_imul hO dX9_small_65 ?_
        refine z_istore_n hO (L' := [(2, _), (1, _), (0, _)]) dX9_small_66 (by decide) rfl ?_
        refine z_aload_n hO 2 dX9_small_67 rfl ?_
        refine z_dup hO dX9_small_68 rfl ?_
        refine z_getI hO 7 fl_X9_83 rfl rfl rfl dX9_small_69 (fun r69 => ?_)
        refine z_iconst hO dX9_small_72 ?_
        refine z_iadd hO dX9_small_73 ?_
        refine z_putI hO 7 fp_X9_83 rfl rfl rfl (by omega) rfl rfl dX9_small_74 ?_
        refine z_aload_n hO 2 dX9_small_77 rfl ?_
        refine z_cvI hO (t_X9_more (by first | exact hw | (simp only [up_row_ne, up_ne, up_eq, up_nk, up_up, up_self, ne_eq, Nat.reduceEqDiff, Int.reduceEq, reduceCtorEq, not_false_eq_true, not_true_eq_false]; exact hw)) (by (try simp only [up_row_ne, up_ne, up_eq, up_nk, up_up, up_self, ne_eq, Nat.reduceEqDiff, Int.reduceEq, reduceCtorEq, not_false_eq_true, not_true_eq_false]); omega) (by (try simp only [up_row_ne, up_ne, up_eq, up_nk, up_up, up_self, ne_eq, Nat.reduceEqDiff, Int.reduceEq, reduceCtorEq, not_false_eq_true, not_true_eq_false]); omega)) cv_X9_107 rfl rfl rfl rfl (by decide) (Nat.le_of_ble_eq_true rfl) dX9_small_78 (fun v78 s78 p78 => ?_)
        try simp only [up_row_ne, up_ne, up_eq, up_nk, up_up, up_self, ne_eq, Nat.reduceEqDiff, Int.reduceEq, reduceCtorEq, not_false_eq_true, not_true_eq_false] at p78
        obtain ⟨rfl, rfl⟩ := p78
        try simp only [up_row_ne, up_ne, up_eq, up_nk, up_up, up_self, ne_eq, Nat.reduceEqDiff, Int.reduceEq, reduceCtorEq, not_false_eq_true, not_true_eq_false]
        refine z_istore_n hO (L' := [(3, _), (2, _), (1, _), (0, _)]) dX9_small_81 (by decide) rfl ?_
        refine z_iload_n hO 0 dX9_small_82 rfl ?_
        refine z_if_ge hO 91 dX9_small_83 (by decide) (by omega) (fun c83 => ?_) (fun c83 => ?_)
        ·
          refine z_iload_n hO 1 dX9_small_91 rfl ?_
          refine z_iload_n hO 0 dX9_small_92 rfl ?_
          refine z_iadd hO dX9_small_93 ?_
          exact z_retI hO hR dX9_small_94 (by unfold smallF; (repeat' split) <;> first | (exfalso; omega) | (constructor <;> first | rfl | omega | simp [up_row_ne, up_ne, up_eq, up_nk, up_up, up_self, ne_eq, Nat.reduceEqDiff, Int.reduceEq, reduceCtorEq, not_false_eq_true, not_true_eq_false]))
        ·
          refine z_bipush hO dX9_small_86 (by decide) ?_
          refine z_goto hO 94 dX9_small_88 (by decide) ?_
          exact z_retI hO hR dX9_small_94 (by unfold smallF; (repeat' split) <;> first | (exfalso; omega) | (constructor <;> first | rfl | omega | simp [up_row_ne, up_ne, up_eq, up_nk, up_up, up_self, ne_eq, Nat.reduceEqDiff, Int.reduceEq, reduceCtorEq, not_false_eq_true, not_true_eq_false]))
  ·
    refine z_if_eq hO 48 dX9_small_12 (by decide) (by decide) (fun c12 => ?_) (fun c12 => absurd c12 (by omega))
    refine z_iconst hO dX9_small_48 ?_
    refine z_istore_n hO (L' := [(1, _), (0, _)]) dX9_small_49 (by decide) rfl ?_
    refine z_iload_n hO 0 dX9_small_50 rfl ?_
    refine z_if_ne hO 59 dX9_small_51 (by decide) (by decide) (fun c51 => absurd c51 (by omega)) (fun c51 => ?_)
    refine z_aload_n hO 1 dX9_small_54 rfl ?_
    refine z_cvI hO (t_X9_low (by first | exact hw | (simp only [up_row_ne, up_ne, up_eq, up_nk, up_up, up_self, ne_eq, Nat.reduceEqDiff, Int.reduceEq, reduceCtorEq, not_false_eq_true, not_true_eq_false]; exact hw)) (by (try simp only [up_row_ne, up_ne, up_eq, up_nk, up_up, up_self, ne_eq, Nat.reduceEqDiff, Int.reduceEq, reduceCtorEq, not_false_eq_true, not_true_eq_false]); omega) (by (try simp only [up_row_ne, up_ne, up_eq, up_nk, up_up, up_self, ne_eq, Nat.reduceEqDiff, Int.reduceEq, reduceCtorEq, not_false_eq_true, not_true_eq_false]); omega)) cv_X9_104 rfl rfl rfl rfl (by decide) (Nat.le_of_ble_eq_true rfl) dX9_small_55 (fun v55 s55 p55 => ?_)
    try simp only [up_row_ne, up_ne, up_eq, up_nk, up_up, up_self, ne_eq, Nat.reduceEqDiff, Int.reduceEq, reduceCtorEq, not_false_eq_true, not_true_eq_false] at p55
    obtain ⟨rfl, rfl⟩ := p55
    try simp only [up_row_ne, up_ne, up_eq, up_nk, up_up, up_self, ne_eq, Nat.reduceEqDiff, Int.reduceEq, reduceCtorEq, not_false_eq_true, not_true_eq_false]
    exact z_retI hO hR dX9_small_58 (by unfold smallF; (repeat' split) <;> first | (exfalso; omega) | (constructor <;> first | rfl | omega | simp [up_row_ne, up_ne, up_eq, up_nk, up_up, up_self, ne_eq, Nat.reduceEqDiff, Int.reduceEq, reduceCtorEq, not_false_eq_true, not_true_eq_false]))

set_option maxHeartbeats 4000000 in
set_option maxRecDepth 100000 in
theorem t_X9_number {g : G} {σ : Sg} (hw : PF (wh (σ 116) (σ 113 3)) (σ 113 3)) (h0 : 0 ≤ σ 113 7) (h1 : σ 113 7 ≤ σ 113 3) : MM g mX9_number [.ref (g.2.2.1 113)] σ (pI (fun r σ' => r = (numF (wh (σ 116) (σ 113 3)) (σ 113 7)).1 ∧ σ' = up σ 113 7 (numF (wh (σ 116) (σ 113 3)) (σ 113 7)).2)) := by
  refine mm_of rfl (by decide) rfl rfl (Nat.le_of_ble_eq_true rfl) (fun x hO hR => ?_)
  have hA := hw.1
  have hB := hw.2.1
  have hC := hw.r (σ 113 7)
  have hE := smallF_r hw h0 h1
  have hD := hw.r (smallF (wh (σ 116) (σ 113 3)) (σ 113 7)).2
  have hD2 := hw.r ((smallF (wh (σ 116) (σ 113 3)) (σ 113 7)).2 + 1)
  have hF : wh (σ 116) (σ 113 3) (smallF (wh (σ 116) (σ 113 3)) (σ 113 7)).2 = 29 → (smallF (wh (σ 116) (σ 113 3)) (σ 113 7)).2 + 1 ≤ σ 113 3 := fun q => by have := hw.lt (i := (smallF (wh (σ 116) (σ 113 3)) (σ 113 7)).2) (by omega); omega
  have hG : wh (σ 116) (σ 113 3) (smallF (wh (σ 116) (σ 113 3)) (σ 113 7)).2 = 29 → _ := fun q => moreF_r hw (i := (smallF (wh (σ 116) (σ 113 3)) (σ 113 7)).2 + 1) (by omega) (hF q)
  have hH : wh (σ 116) (σ 113 3) (smallF (wh (σ 116) (σ 113 3)) (σ 113 7)).2 = 29 → _ := fun q => smallF_r hw (i := (smallF (wh (σ 116) (σ 113 3)) (σ 113 7)).2 + 1) (by omega) (hF q)
  refine z_aload_n hO 0 dX9_number_0 rfl ?_
  refine z_cvI hO (t_X9_small (by first | exact hw | (simp only [up_row_ne, up_ne, up_eq, up_nk, up_up, up_self, ne_eq, Nat.reduceEqDiff, Int.reduceEq, reduceCtorEq, not_false_eq_true, not_true_eq_false]; exact hw)) (by (try simp only [up_row_ne, up_ne, up_eq, up_nk, up_up, up_self, ne_eq, Nat.reduceEqDiff, Int.reduceEq, reduceCtorEq, not_false_eq_true, not_true_eq_false]); omega) (by (try simp only [up_row_ne, up_ne, up_eq, up_nk, up_up, up_self, ne_eq, Nat.reduceEqDiff, Int.reduceEq, reduceCtorEq, not_false_eq_true, not_true_eq_false]); omega)) cv_X9_110 rfl rfl rfl rfl (by decide) (Nat.le_of_ble_eq_true rfl) dX9_number_1 (fun v1 s1 p1 => ?_)
  try simp only [up_row_ne, up_ne, up_eq, up_nk, up_up, up_self, ne_eq, Nat.reduceEqDiff, Int.reduceEq, reduceCtorEq, not_false_eq_true, not_true_eq_false] at p1
  obtain ⟨rfl, rfl⟩ := p1
  try simp only [up_row_ne, up_ne, up_eq, up_nk, up_up, up_self, ne_eq, Nat.reduceEqDiff, Int.reduceEq, reduceCtorEq, not_false_eq_true, not_true_eq_false]
  refine z_istore_n hO (L' := [(1, _), (0, _)]) dX9_number_4 (by decide) rfl ?_
  refine z_iload_n hO 0 dX9_number_5 rfl ?_
  refine z_if_le hO 18 dX9_number_6 (by decide) (by omega) (fun c6 => ?_) (fun c6 => ?_)
  ·
    refine z_iload_n hO 0 dX9_number_18 rfl ?_
    exact z_retI hO hR dX9_number_19 (by unfold numF restF; (repeat' split) <;> first | (exfalso; omega) | (constructor <;> first | rfl | omega | simp [up_row_ne, up_ne, up_eq, up_nk, up_up, up_self, ne_eq, Nat.reduceEqDiff, Int.reduceEq, reduceCtorEq, not_false_eq_true, not_true_eq_false]))
  ·
    refine z_aload_n hO 1 dX9_number_9 rfl ?_
    refine z_cvE hO (t_X9_wordHere (by (try simp only [up_row_ne, up_ne, up_eq, up_nk, up_up, up_self, ne_eq, Nat.reduceEqDiff, Int.reduceEq, reduceCtorEq, not_false_eq_true, not_true_eq_false]); omega) (by (try simp only [up_row_ne, up_ne, up_eq, up_nk, up_up, up_self, ne_eq, Nat.reduceEqDiff, Int.reduceEq, reduceCtorEq, not_false_eq_true, not_true_eq_false]); omega)) cv_X9_95 rfl rfl rfl rfl (by decide) (Nat.le_of_ble_eq_true rfl) dX9_number_10 ?_
    try simp only [up_row_ne, up_ne, up_eq, up_nk, up_up, up_self, ne_eq, Nat.reduceEqDiff, Int.reduceEq, reduceCtorEq, not_false_eq_true, not_true_eq_false]
    refine z_bipush hO dX9_number_13 (by decide) ?_
    refine z_icmp_eq hO 20 dX9_number_15 (by decide) (by omega) (by decide) (fun c15 => ?_) (fun c15 => ?_)
    ·
      refine z_aload_n hO 1 dX9_number_20 rfl ?_
      refine z_dup hO dX9_number_21 rfl ?_
      refine z_getI hO 7 fl_X9_83 rfl rfl rfl dX9_number_22 (fun r22 => ?_)
      try simp only [up_row_ne, up_ne, up_eq, up_nk, up_up, up_self, ne_eq, Nat.reduceEqDiff, Int.reduceEq, reduceCtorEq, not_false_eq_true, not_true_eq_false] at r22 ⊢
      refine z_iconst hO dX9_number_25 ?_
      refine z_iadd hO dX9_number_26 ?_
      refine z_putI hO 7 fp_X9_83 rfl rfl rfl (by omega) rfl rfl dX9_number_27 ?_
      refine z_aload_n hO 1 dX9_number_30 rfl ?_
      refine z_cvE hO (t_X9_wordHere (by (try simp only [up_row_ne, up_ne, up_eq, up_nk, up_up, up_self, ne_eq, Nat.reduceEqDiff, Int.reduceEq, reduceCtorEq, not_false_eq_true, not_true_eq_false]); omega) (by (try simp only [up_row_ne, up_ne, up_eq, up_nk, up_up, up_self, ne_eq, Nat.reduceEqDiff, Int.reduceEq, reduceCtorEq, not_false_eq_true, not_true_eq_false]); omega)) cv_X9_95 rfl rfl rfl rfl (by decide) (Nat.le_of_ble_eq_true rfl) dX9_number_31 ?_
      try simp only [up_row_ne, up_ne, up_eq, up_nk, up_up, up_self, ne_eq, Nat.reduceEqDiff, Int.reduceEq, reduceCtorEq, not_false_eq_true, not_true_eq_false]
      refine z_bipush hO dX9_number_34 (by decide) ?_
      refine z_icmp_ne hO 46 dX9_number_36 (by decide) (by omega) (by decide) (fun c36 => ?_) (fun c36 => ?_)
      ·
        refine z_aload_n hO 1 dX9_number_46 rfl ?_
        refine z_cvI hO (t_X9_small (by first | exact hw | (simp only [up_row_ne, up_ne, up_eq, up_nk, up_up, up_self, ne_eq, Nat.reduceEqDiff, Int.reduceEq, reduceCtorEq, not_false_eq_true, not_true_eq_false]; exact hw)) (by (try simp only [up_row_ne, up_ne, up_eq, up_nk, up_up, up_self, ne_eq, Nat.reduceEqDiff, Int.reduceEq, reduceCtorEq, not_false_eq_true, not_true_eq_false]); omega) (by (try simp only [up_row_ne, up_ne, up_eq, up_nk, up_up, up_self, ne_eq, Nat.reduceEqDiff, Int.reduceEq, reduceCtorEq, not_false_eq_true, not_true_eq_false]); omega)) cv_X9_110 rfl rfl rfl rfl (by decide) (Nat.le_of_ble_eq_true rfl) dX9_number_47 (fun v47 s47 p47 => ?_)
        try simp only [up_row_ne, up_ne, up_eq, up_nk, up_up, up_self, ne_eq, Nat.reduceEqDiff, Int.reduceEq, reduceCtorEq, not_false_eq_true, not_true_eq_false] at p47
        obtain ⟨rfl, rfl⟩ := p47
        try simp only [up_row_ne, up_ne, up_eq, up_nk, up_up, up_self, ne_eq, Nat.reduceEqDiff, Int.reduceEq, reduceCtorEq, not_false_eq_true, not_true_eq_false]
        refine z_istore_n hO (L' := [(2, _), (1, _), (0, _)]) dX9_number_50 (by decide) rfl ?_
        refine z_iload_n hO 0 dX9_number_51 rfl ?_
        refine z_if_ge hO 60 dX9_number_52 (by decide) (by omega) (fun c52 => ?_) (fun c52 => ?_)
        ·
          refine z_sipush hO dX9_number_60 (by decide) ?_
          refine z_iload_n hO 1 dX9_number_63 rfl ?_
          refine z_imul hO dX9_number_64 ?_
          refine z_iload_n hO 0 dX9_number_65 rfl ?_
          refine z_iadd hO dX9_number_66 ?_
          exact z_retI hO hR dX9_number_67 (by unfold numF restF; (repeat' split) <;> first | (exfalso; omega) | (constructor <;> first | rfl | omega | simp [up_row_ne, up_ne, up_eq, up_nk, up_up, up_self, ne_eq, Nat.reduceEqDiff, Int.reduceEq, reduceCtorEq, not_false_eq_true, not_true_eq_false]))
        ·
          refine z_bipush hO dX9_number_55 (by decide) ?_
          refine z_goto hO 67 dX9_number_57 (by decide) ?_
          exact z_retI hO hR dX9_number_67 (by unfold numF restF; (repeat' split) <;> first | (exfalso; omega) | (constructor <;> first | rfl | omega | simp [up_row_ne, up_ne, up_eq, up_nk, up_up, up_self, ne_eq, Nat.reduceEqDiff, Int.reduceEq, reduceCtorEq, not_false_eq_true, not_true_eq_false]))
      ·
        refine z_aload_n hO 1 dX9_number_39 rfl ?_
        refine z_cvI hO (t_X9_more (by first | exact hw | (simp only [up_row_ne, up_ne, up_eq, up_nk, up_up, up_self, ne_eq, Nat.reduceEqDiff, Int.reduceEq, reduceCtorEq, not_false_eq_true, not_true_eq_false]; exact hw)) (by (try simp only [up_row_ne, up_ne, up_eq, up_nk, up_up, up_self, ne_eq, Nat.reduceEqDiff, Int.reduceEq, reduceCtorEq, not_false_eq_true, not_true_eq_false]); omega) (by (try simp only [up_row_ne, up_ne, up_eq, up_nk, up_up, up_self, ne_eq, Nat.reduceEqDiff, Int.reduceEq, reduceCtorEq, not_false_eq_true, not_true_eq_false]); omega)) cv_X9_107 rfl rfl rfl rfl (by decide) (Nat.le_of_ble_eq_true rfl) dX9_number_40 (fun v40 s40 p40 => ?_)
        try simp only [up_row_ne, up_ne, up_eq, up_nk, up_up, up_self, ne_eq, Nat.reduceEqDiff, Int.reduceEq, reduceCtorEq, not_false_eq_true, not_true_eq_false] at p40
        obtain ⟨rfl, rfl⟩ := p40
        try simp only [up_row_ne, up_ne, up_eq, up_nk, up_up, up_self, ne_eq, Nat.reduceEqDiff, Int.reduceEq, reduceCtorEq, not_false_eq_true, not_true_eq_false]
        refine z_goto hO 50 dX9_number_43 (by decide) ?_
        refine z_istore_n hO (L' := [(2, _), (1, _), (0, _)]) dX9_number_50 (by decide) rfl ?_
        refine z_iload_n hO 0 dX9_number_51 rfl ?_
        refine z_if_ge hO 60 dX9_number_52 (by decide) (by omega) (fun c52 => ?_) (fun c52 => ?_)
        ·
          refine z_sipush hO dX9_number_60 (by decide) ?_
          refine z_iload_n hO 1 dX9_number_63 rfl ?_
          refine z_imul hO dX9_number_64 ?_
          refine z_iload_n hO 0 dX9_number_65 rfl ?_
          refine z_iadd hO dX9_number_66 ?_
          exact z_retI hO hR dX9_number_67 (by unfold numF restF; (repeat' split) <;> first | (exfalso; omega) | (constructor <;> first | rfl | omega | simp [up_row_ne, up_ne, up_eq, up_nk, up_up, up_self, ne_eq, Nat.reduceEqDiff, Int.reduceEq, reduceCtorEq, not_false_eq_true, not_true_eq_false]))
        ·
          refine z_bipush hO dX9_number_55 (by decide) ?_
          refine z_goto hO 67 dX9_number_57 (by decide) ?_
          exact z_retI hO hR dX9_number_67 (by unfold numF restF; (repeat' split) <;> first | (exfalso; omega) | (constructor <;> first | rfl | omega | simp [up_row_ne, up_ne, up_eq, up_nk, up_up, up_self, ne_eq, Nat.reduceEqDiff, Int.reduceEq, reduceCtorEq, not_false_eq_true, not_true_eq_false]))
    ·
      refine z_iload_n hO 0 dX9_number_18 rfl ?_
      exact z_retI hO hR dX9_number_19 (by unfold numF restF; (repeat' split) <;> first | (exfalso; omega) | (constructor <;> first | rfl | omega | simp [up_row_ne, up_ne, up_eq, up_nk, up_up, up_self, ne_eq, Nat.reduceEqDiff, Int.reduceEq, reduceCtorEq, not_false_eq_true, not_true_eq_false]))
end
