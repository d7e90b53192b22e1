section
-- ===== PART A: goes FIRST, ahead of the names: the tables' words, and 'selects' of the private methods out of them =====
/-- a private method of a class that the tables say can be made, by its rows of tables_1 -/
def lw_okq (q : MethodName × Nat) : Prop := (q.1.cls ≠ "java/lang/invoke/MethodHandle" ∧ q.1.cls ≠ "java/lang/invoke/VarHandle") ∧ Cond.instantiable q.1.cls q.2 ∈ tables_1 ∧ Cond.privateMethod q.1 ∈ tables_1 ∧ Cond.instanceMethod q.1 ∈ tables_1
theorem lw_p0 : lw_okq (⟨"SleepingJudge", "found", "(I)I"⟩, 13) := ⟨⟨by decide +kernel, by decide +kernel⟩, List.mem_of_getElem? (i := 17) (by decide +kernel), List.mem_of_getElem? (i := 342) (by decide +kernel), List.mem_of_getElem? (i := 343) (by decide +kernel)⟩
theorem lw_p1 : lw_okq (⟨"SleepingJudge", "fine", "(I)I"⟩, 13) := ⟨⟨by decide +kernel, by decide +kernel⟩, List.mem_of_getElem? (i := 17) (by decide +kernel), List.mem_of_getElem? (i := 354) (by decide +kernel), List.mem_of_getElem? (i := 355) (by decide +kernel)⟩
theorem lw_p2 : lw_okq (⟨"SleepingJudge$Reader", "readLaw", "()V"⟩, 4) := ⟨⟨by decide +kernel, by decide +kernel⟩, List.mem_of_getElem? (i := 150) (by decide +kernel), List.mem_of_getElem? (i := 424) (by decide +kernel), List.mem_of_getElem? (i := 425) (by decide +kernel)⟩
theorem lw_p3 : lw_okq (⟨"SleepingJudge$Reader", "pass", "(I)V"⟩, 4) := ⟨⟨by decide +kernel, by decide +kernel⟩, List.mem_of_getElem? (i := 150) (by decide +kernel), List.mem_of_getElem? (i := 428) (by decide +kernel), List.mem_of_getElem? (i := 429) (by decide +kernel)⟩
theorem lw_p4 : lw_okq (⟨"SleepingJudge$Reader", "isNext", "(I)Z"⟩, 4) := ⟨⟨by decide +kernel, by decide +kernel⟩, List.mem_of_getElem? (i := 150) (by decide +kernel), List.mem_of_getElem? (i := 432) (by decide +kernel), List.mem_of_getElem? (i := 433) (by decide +kernel)⟩
theorem lw_p5 : lw_okq (⟨"SleepingJudge$Reader", "mark", "(I)V"⟩, 4) := ⟨⟨by decide +kernel, by decide +kernel⟩, List.mem_of_getElem? (i := 150) (by decide +kernel), List.mem_of_getElem? (i := 440) (by decide +kernel), List.mem_of_getElem? (i := 441) (by decide +kernel)⟩
theorem lw_p6 : lw_okq (⟨"SleepingJudge$Reader", "number", "(II)I"⟩, 4) := ⟨⟨by decide +kernel, by decide +kernel⟩, List.mem_of_getElem? (i := 150) (by decide +kernel), List.mem_of_getElem? (i := 444) (by decide +kernel), List.mem_of_getElem? (i := 445) (by decide +kernel)⟩
theorem lw_p7 : lw_okq (⟨"SleepingJudge$Reader", "readDream", "()V"⟩, 4) := ⟨⟨by decide +kernel, by decide +kernel⟩, List.mem_of_getElem? (i := 150) (by decide +kernel), List.mem_of_getElem? (i := 452) (by decide +kernel), List.mem_of_getElem? (i := 453) (by decide +kernel)⟩
theorem lw_p8 : lw_okq (⟨"SleepingJudge$Reader", "thing", "()I"⟩, 4) := ⟨⟨by decide +kernel, by decide +kernel⟩, List.mem_of_getElem? (i := 150) (by decide +kernel), List.mem_of_getElem? (i := 456) (by decide +kernel), List.mem_of_getElem? (i := 457) (by decide +kernel)⟩
theorem lw_p9 : lw_okq (⟨"SleepingJudge$Reader", "readHums", "()V"⟩, 4) := ⟨⟨by decide +kernel, by decide +kernel⟩, List.mem_of_getElem? (i := 150) (by decide +kernel), List.mem_of_getElem? (i := 460) (by decide +kernel), List.mem_of_getElem? (i := 461) (by decide +kernel)⟩
theorem lw_p10 : lw_okq (⟨"SleepingJudge$Reader", "kindNext", "()I"⟩, 4) := ⟨⟨by decide +kernel, by decide +kernel⟩, List.mem_of_getElem? (i := 150) (by decide +kernel), List.mem_of_getElem? (i := 464) (by decide +kernel), List.mem_of_getElem? (i := 465) (by decide +kernel)⟩
theorem lw_p11 : lw_okq (⟨"SleepingJudge$Reader", "readHum", "()V"⟩, 4) := ⟨⟨by decide +kernel, by decide +kernel⟩, List.mem_of_getElem? (i := 150) (by decide +kernel), List.mem_of_getElem? (i := 468) (by decide +kernel), List.mem_of_getElem? (i := 469) (by decide +kernel)⟩
theorem lw_p12 : lw_okq (⟨"SleepingJudge$Reader", "readCases", "()V"⟩, 4) := ⟨⟨by decide +kernel, by decide +kernel⟩, List.mem_of_getElem? (i := 150) (by decide +kernel), List.mem_of_getElem? (i := 472) (by decide +kernel), List.mem_of_getElem? (i := 473) (by decide +kernel)⟩
theorem lw_p13 : lw_okq (⟨"SleepingJudge$Reader", "readCase", "()V"⟩, 4) := ⟨⟨by decide +kernel, by decide +kernel⟩, List.mem_of_getElem? (i := 150) (by decide +kernel), List.mem_of_getElem? (i := 476) (by decide +kernel), List.mem_of_getElem? (i := 477) (by decide +kernel)⟩
theorem lw_p14 : lw_okq (⟨"SleepingJudge$Court", "thingBehind", "(I)I"⟩, 15) := ⟨⟨by decide +kernel, by decide +kernel⟩, List.mem_of_getElem? (i := 60) (by decide +kernel), List.mem_of_getElem? (i := 538) (by decide +kernel), List.mem_of_getElem? (i := 539) (by decide +kernel)⟩
theorem lw_p15 : lw_okq (⟨"SleepingJudge$Court", "worn", "(I)I"⟩, 15) := ⟨⟨by decide +kernel, by decide +kernel⟩, List.mem_of_getElem? (i := 60) (by decide +kernel), List.mem_of_getElem? (i := 563) (by decide +kernel), List.mem_of_getElem? (i := 564) (by decide +kernel)⟩
def lw_privs_1 : List (MethodName × Nat) := [(⟨"SleepingJudge", "found", "(I)I"⟩, 13), (⟨"SleepingJudge", "fine", "(I)I"⟩, 13), (⟨"SleepingJudge$Reader", "readLaw", "()V"⟩, 4), (⟨"SleepingJudge$Reader", "pass", "(I)V"⟩, 4), (⟨"SleepingJudge$Reader", "isNext", "(I)Z"⟩, 4), (⟨"SleepingJudge$Reader", "mark", "(I)V"⟩, 4), (⟨"SleepingJudge$Reader", "number", "(II)I"⟩, 4), (⟨"SleepingJudge$Reader", "readDream", "()V"⟩, 4), (⟨"SleepingJudge$Reader", "thing", "()I"⟩, 4), (⟨"SleepingJudge$Reader", "readHums", "()V"⟩, 4), (⟨"SleepingJudge$Reader", "kindNext", "()I"⟩, 4), (⟨"SleepingJudge$Reader", "readHum", "()V"⟩, 4), (⟨"SleepingJudge$Reader", "readCases", "()V"⟩, 4), (⟨"SleepingJudge$Reader", "readCase", "()V"⟩, 4), (⟨"SleepingJudge$Court", "thingBehind", "(I)I"⟩, 15), (⟨"SleepingJudge$Court", "worn", "(I)I"⟩, 15)]
theorem lw_r1 : ∀ q ∈ lw_privs_1, lw_okq q := List.forall_mem_cons.mpr ⟨lw_p0, List.forall_mem_cons.mpr ⟨lw_p1, List.forall_mem_cons.mpr ⟨lw_p2, List.forall_mem_cons.mpr ⟨lw_p3, List.forall_mem_cons.mpr ⟨lw_p4, List.forall_mem_cons.mpr ⟨lw_p5, List.forall_mem_cons.mpr ⟨lw_p6, List.forall_mem_cons.mpr ⟨lw_p7, List.forall_mem_cons.mpr ⟨lw_p8, List.forall_mem_cons.mpr ⟨lw_p9, List.forall_mem_cons.mpr ⟨lw_p10, List.forall_mem_cons.mpr ⟨lw_p11, List.forall_mem_cons.mpr ⟨lw_p12, List.forall_mem_cons.mpr ⟨lw_p13, List.forall_mem_cons.mpr ⟨lw_p14, List.forall_mem_cons.mpr ⟨lw_p15, fun _ h => absurd h List.not_mem_nil⟩⟩⟩⟩⟩⟩⟩⟩⟩⟩⟩⟩⟩⟩⟩⟩
theorem lw_p16 : lw_okq (⟨"SleepingJudge$Walks", "goBehind", "(I)V"⟩, 8) := ⟨⟨by decide +kernel, by decide +kernel⟩, List.mem_of_getElem? (i := 189) (by decide +kernel), List.mem_of_getElem? (i := 634) (by decide +kernel), List.mem_of_getElem? (i := 635) (by decide +kernel)⟩
theorem lw_p17 : lw_okq (⟨"SleepingJudge$Walks", "markBehind", "(I)V"⟩, 8) := ⟨⟨by decide +kernel, by decide +kernel⟩, List.mem_of_getElem? (i := 189) (by decide +kernel), List.mem_of_getElem? (i := 643) (by decide +kernel), List.mem_of_getElem? (i := 644) (by decide +kernel)⟩
theorem lw_p18 : lw_okq (⟨"SleepingJudge$Walks", "meet", "(IIII)V"⟩, 8) := ⟨⟨by decide +kernel, by decide +kernel⟩, List.mem_of_getElem? (i := 189) (by decide +kernel), List.mem_of_getElem? (i := 679) (by decide +kernel), List.mem_of_getElem? (i := 680) (by decide +kernel)⟩
theorem lw_p19 : lw_okq (⟨"SleepingJudge$Orders", "tryBehind", "(IIIII)V"⟩, 7) := ⟨⟨by decide +kernel, by decide +kernel⟩, List.mem_of_getElem? (i := 220) (by decide +kernel), List.mem_of_getElem? (i := 724) (by decide +kernel), List.mem_of_getElem? (i := 725) (by decide +kernel)⟩
theorem lw_p20 : lw_okq (⟨"SleepingJudge$Orders", "compare", "(II)V"⟩, 7) := ⟨⟨by decide +kernel, by decide +kernel⟩, List.mem_of_getElem? (i := 220) (by decide +kernel), List.mem_of_getElem? (i := 728) (by decide +kernel), List.mem_of_getElem? (i := 729) (by decide +kernel)⟩
theorem lw_p21 : lw_okq (⟨"SleepingJudge$Court", "doTheSame", "(II)Z"⟩, 15) := ⟨⟨by decide +kernel, by decide +kernel⟩, List.mem_of_getElem? (i := 60) (by decide +kernel), List.mem_of_getElem? (i := 759) (by decide +kernel), List.mem_of_getElem? (i := 760) (by decide +kernel)⟩
theorem lw_p22 : lw_okq (⟨"SleepingJudge$Court", "clash", "(II)Z"⟩, 15) := ⟨⟨by decide +kernel, by decide +kernel⟩, List.mem_of_getElem? (i := 60) (by decide +kernel), List.mem_of_getElem? (i := 763) (by decide +kernel), List.mem_of_getElem? (i := 764) (by decide +kernel)⟩
theorem lw_p23 : lw_okq (⟨"SleepingJudge", "takeBoth", "(IIIII)I"⟩, 13) := ⟨⟨by decide +kernel, by decide +kernel⟩, List.mem_of_getElem? (i := 17) (by decide +kernel), List.mem_of_getElem? (i := 784) (by decide +kernel), List.mem_of_getElem? (i := 785) (by decide +kernel)⟩
theorem lw_p24 : lw_okq (⟨"SleepingJudge$Told", "fits", "(IIIII)Z"⟩, 4) := ⟨⟨by decide +kernel, by decide +kernel⟩, List.mem_of_getElem? (i := 252) (by decide +kernel), List.mem_of_getElem? (i := 797) (by decide +kernel), List.mem_of_getElem? (i := 798) (by decide +kernel)⟩
theorem lw_p25 : lw_okq (⟨"SleepingJudge$Told", "fitsAsItIs", "(I)Z"⟩, 4) := ⟨⟨by decide +kernel, by decide +kernel⟩, List.mem_of_getElem? (i := 252) (by decide +kernel), List.mem_of_getElem? (i := 819) (by decide +kernel), List.mem_of_getElem? (i := 820) (by decide +kernel)⟩
theorem lw_p26 : lw_okq (⟨"SleepingJudge$Court", "hearIfOpen", "(I)V"⟩, 15) := ⟨⟨by decide +kernel, by decide +kernel⟩, List.mem_of_getElem? (i := 60) (by decide +kernel), List.mem_of_getElem? (i := 868) (by decide +kernel), List.mem_of_getElem? (i := 869) (by decide +kernel)⟩
theorem lw_p27 : lw_okq (⟨"SleepingJudge$Asking", "sizeBody", "(I)I"⟩, 3) := ⟨⟨by decide +kernel, by decide +kernel⟩, List.mem_of_getElem? (i := 271) (by decide +kernel), List.mem_of_getElem? (i := 906) (by decide +kernel), List.mem_of_getElem? (i := 907) (by decide +kernel)⟩
theorem lw_p28 : lw_okq (⟨"SleepingJudge$Asking", "markBody", "(I)I"⟩, 3) := ⟨⟨by decide +kernel, by decide +kernel⟩, List.mem_of_getElem? (i := 271) (by decide +kernel), List.mem_of_getElem? (i := 912) (by decide +kernel), List.mem_of_getElem? (i := 913) (by decide +kernel)⟩
theorem lw_p29 : lw_okq (⟨"SleepingJudge$Asking", "begin", "(III)I"⟩, 3) := ⟨⟨by decide +kernel, by decide +kernel⟩, List.mem_of_getElem? (i := 271) (by decide +kernel), List.mem_of_getElem? (i := 918) (by decide +kernel), List.mem_of_getElem? (i := 919) (by decide +kernel)⟩
theorem lw_p30 : lw_okq (⟨"SleepingJudge$Asking", "leave", "(I)V"⟩, 3) := ⟨⟨by decide +kernel, by decide +kernel⟩, List.mem_of_getElem? (i := 271) (by decide +kernel), List.mem_of_getElem? (i := 922) (by decide +kernel), List.mem_of_getElem? (i := 923) (by decide +kernel)⟩
theorem lw_p31 : lw_okq (⟨"SleepingJudgeModel", "finding", "(I)I"⟩, 31) := ⟨⟨by decide +kernel, by decide +kernel⟩, List.mem_of_getElem? (i := 943) (by decide +kernel), List.mem_of_getElem? (i := 1057) (by decide +kernel), List.mem_of_getElem? (i := 1058) (by decide +kernel)⟩
def lw_privs_2 : List (MethodName × Nat) := [(⟨"SleepingJudge$Walks", "goBehind", "(I)V"⟩, 8), (⟨"SleepingJudge$Walks", "markBehind", "(I)V"⟩, 8), (⟨"SleepingJudge$Walks", "meet", "(IIII)V"⟩, 8), (⟨"SleepingJudge$Orders", "tryBehind", "(IIIII)V"⟩, 7), (⟨"SleepingJudge$Orders", "compare", "(II)V"⟩, 7), (⟨"SleepingJudge$Court", "doTheSame", "(II)Z"⟩, 15), (⟨"SleepingJudge$Court", "clash", "(II)Z"⟩, 15), (⟨"SleepingJudge", "takeBoth", "(IIIII)I"⟩, 13), (⟨"SleepingJudge$Told", "fits", "(IIIII)Z"⟩, 4), (⟨"SleepingJudge$Told", "fitsAsItIs", "(I)Z"⟩, 4), (⟨"SleepingJudge$Court", "hearIfOpen", "(I)V"⟩, 15), (⟨"SleepingJudge$Asking", "sizeBody", "(I)I"⟩, 3), (⟨"SleepingJudge$Asking", "markBody", "(I)I"⟩, 3), (⟨"SleepingJudge$Asking", "begin", "(III)I"⟩, 3), (⟨"SleepingJudge$Asking", "leave", "(I)V"⟩, 3), (⟨"SleepingJudgeModel", "finding", "(I)I"⟩, 31)]
theorem lw_r2 : ∀ q ∈ lw_privs_2, lw_okq q := List.forall_mem_cons.mpr ⟨lw_p16, List.forall_mem_cons.mpr ⟨lw_p17, List.forall_mem_cons.mpr ⟨lw_p18, List.forall_mem_cons.mpr ⟨lw_p19, List.forall_mem_cons.mpr ⟨lw_p20, List.forall_mem_cons.mpr ⟨lw_p21, List.forall_mem_cons.mpr ⟨lw_p22, List.forall_mem_cons.mpr ⟨lw_p23, List.forall_mem_cons.mpr ⟨lw_p24, List.forall_mem_cons.mpr ⟨lw_p25, List.forall_mem_cons.mpr ⟨lw_p26, List.forall_mem_cons.mpr ⟨lw_p27, List.forall_mem_cons.mpr ⟨lw_p28, List.forall_mem_cons.mpr ⟨lw_p29, List.forall_mem_cons.mpr ⟨lw_p30, List.forall_mem_cons.mpr ⟨lw_p31, fun _ h => absurd h List.not_mem_nil⟩⟩⟩⟩⟩⟩⟩⟩⟩⟩⟩⟩⟩⟩⟩⟩
theorem lw_p32 : lw_okq (⟨"SleepingJudgeModel", "begin", "()V"⟩, 31) := ⟨⟨by decide +kernel, by decide +kernel⟩, List.mem_of_getElem? (i := 943) (by decide +kernel), List.mem_of_getElem? (i := 1088) (by decide +kernel), List.mem_of_getElem? (i := 1089) (by decide +kernel)⟩
theorem lw_p33 : lw_okq (⟨"SleepingJudgeModel", "nextToken", "()V"⟩, 31) := ⟨⟨by decide +kernel, by decide +kernel⟩, List.mem_of_getElem? (i := 943) (by decide +kernel), List.mem_of_getElem? (i := 1092) (by decide +kernel), List.mem_of_getElem? (i := 1093) (by decide +kernel)⟩
theorem lw_p34 : lw_okq (⟨"SleepingJudgeModel", "isLetter", "(I)Z"⟩, 31) := ⟨⟨by decide +kernel, by decide +kernel⟩, List.mem_of_getElem? (i := 943) (by decide +kernel), List.mem_of_getElem? (i := 1101) (by decide +kernel), List.mem_of_getElem? (i := 1102) (by decide +kernel)⟩
theorem lw_p35 : lw_okq (⟨"SleepingJudgeModel", "must", "(Z)V"⟩, 31) := ⟨⟨by decide +kernel, by decide +kernel⟩, List.mem_of_getElem? (i := 943) (by decide +kernel), List.mem_of_getElem? (i := 1105) (by decide +kernel), List.mem_of_getElem? (i := 1106) (by decide +kernel)⟩
theorem lw_p36 : lw_okq (⟨"SleepingJudgeModel", "bad", "(I)V"⟩, 31) := ⟨⟨by decide +kernel, by decide +kernel⟩, List.mem_of_getElem? (i := 943) (by decide +kernel), List.mem_of_getElem? (i := 1109) (by decide +kernel), List.mem_of_getElem? (i := 1110) (by decide +kernel)⟩
theorem lw_p37 : lw_okq (⟨"SleepingJudgeModel", "number", "(II)I"⟩, 31) := ⟨⟨by decide +kernel, by decide +kernel⟩, List.mem_of_getElem? (i := 943) (by decide +kernel), List.mem_of_getElem? (i := 1113) (by decide +kernel), List.mem_of_getElem? (i := 1114) (by decide +kernel)⟩
theorem lw_p38 : lw_okq (⟨"SleepingJudgeModel", "mustSign", "(I)V"⟩, 31) := ⟨⟨by decide +kernel, by decide +kernel⟩, List.mem_of_getElem? (i := 943) (by decide +kernel), List.mem_of_getElem? (i := 1117) (by decide +kernel), List.mem_of_getElem? (i := 1118) (by decide +kernel)⟩
theorem lw_p39 : lw_okq (⟨"SleepingJudgeModel", "readDream", "()V"⟩, 31) := ⟨⟨by decide +kernel, by decide +kernel⟩, List.mem_of_getElem? (i := 943) (by decide +kernel), List.mem_of_getElem? (i := 1121) (by decide +kernel), List.mem_of_getElem? (i := 1122) (by decide +kernel)⟩
theorem lw_p40 : lw_okq (⟨"SleepingJudgeModel", "isSign", "(I)Z"⟩, 31) := ⟨⟨by decide +kernel, by decide +kernel⟩, List.mem_of_getElem? (i := 943) (by decide +kernel), List.mem_of_getElem? (i := 1125) (by decide +kernel), List.mem_of_getElem? (i := 1126) (by decide +kernel)⟩
theorem lw_p41 : lw_okq (⟨"SleepingJudgeModel", "isSort", "()Z"⟩, 31) := ⟨⟨by decide +kernel, by decide +kernel⟩, List.mem_of_getElem? (i := 943) (by decide +kernel), List.mem_of_getElem? (i := 1129) (by decide +kernel), List.mem_of_getElem? (i := 1130) (by decide +kernel)⟩
theorem lw_p42 : lw_okq (⟨"SleepingJudgeModel", "readHum", "()V"⟩, 31) := ⟨⟨by decide +kernel, by decide +kernel⟩, List.mem_of_getElem? (i := 943) (by decide +kernel), List.mem_of_getElem? (i := 1136) (by decide +kernel), List.mem_of_getElem? (i := 1137) (by decide +kernel)⟩
theorem lw_p43 : lw_okq (⟨"SleepingJudgeModel", "readCase", "()V"⟩, 31) := ⟨⟨by decide +kernel, by decide +kernel⟩, List.mem_of_getElem? (i := 943) (by decide +kernel), List.mem_of_getElem? (i := 1140) (by decide +kernel), List.mem_of_getElem? (i := 1141) (by decide +kernel)⟩
theorem lw_p44 : lw_okq (⟨"SleepingJudgeModel", "failed", "()Z"⟩, 31) := ⟨⟨by decide +kernel, by decide +kernel⟩, List.mem_of_getElem? (i := 943) (by decide +kernel), List.mem_of_getElem? (i := 1144) (by decide +kernel), List.mem_of_getElem? (i := 1145) (by decide +kernel)⟩
theorem lw_p45 : lw_okq (⟨"SleepingJudgeModel", "isHum", "(I)Z"⟩, 31) := ⟨⟨by decide +kernel, by decide +kernel⟩, List.mem_of_getElem? (i := 943) (by decide +kernel), List.mem_of_getElem? (i := 1153) (by decide +kernel), List.mem_of_getElem? (i := 1154) (by decide +kernel)⟩
theorem lw_p46 : lw_okq (⟨"SleepingJudgeModel", "keep", "()V"⟩, 31) := ⟨⟨by decide +kernel, by decide +kernel⟩, List.mem_of_getElem? (i := 943) (by decide +kernel), List.mem_of_getElem? (i := 1157) (by decide +kernel), List.mem_of_getElem? (i := 1158) (by decide +kernel)⟩
theorem lw_p47 : lw_okq (⟨"SleepingJudgeModel", "isCase", "(I)Z"⟩, 31) := ⟨⟨by decide +kernel, by decide +kernel⟩, List.mem_of_getElem? (i := 943) (by decide +kernel), List.mem_of_getElem? (i := 1174) (by decide +kernel), List.mem_of_getElem? (i := 1175) (by decide +kernel)⟩
def lw_privs_3 : List (MethodName × Nat) := [(⟨"SleepingJudgeModel", "begin", "()V"⟩, 31), (⟨"SleepingJudgeModel", "nextToken", "()V"⟩, 31), (⟨"SleepingJudgeModel", "isLetter", "(I)Z"⟩, 31), (⟨"SleepingJudgeModel", "must", "(Z)V"⟩, 31), (⟨"SleepingJudgeModel", "bad", "(I)V"⟩, 31), (⟨"SleepingJudgeModel", "number", "(II)I"⟩, 31), (⟨"SleepingJudgeModel", "mustSign", "(I)V"⟩, 31), (⟨"SleepingJudgeModel", "readDream", "()V"⟩, 31), (⟨"SleepingJudgeModel", "isSign", "(I)Z"⟩, 31), (⟨"SleepingJudgeModel", "isSort", "()Z"⟩, 31), (⟨"SleepingJudgeModel", "readHum", "()V"⟩, 31), (⟨"SleepingJudgeModel", "readCase", "()V"⟩, 31), (⟨"SleepingJudgeModel", "failed", "()Z"⟩, 31), (⟨"SleepingJudgeModel", "isHum", "(I)Z"⟩, 31), (⟨"SleepingJudgeModel", "keep", "()V"⟩, 31), (⟨"SleepingJudgeModel", "isCase", "(I)Z"⟩, 31)]
theorem lw_r3 : ∀ q ∈ lw_privs_3, lw_okq q := List.forall_mem_cons.mpr ⟨lw_p32, List.forall_mem_cons.mpr ⟨lw_p33, List.forall_mem_cons.mpr ⟨lw_p34, List.forall_mem_cons.mpr ⟨lw_p35, List.forall_mem_cons.mpr ⟨lw_p36, List.forall_mem_cons.mpr ⟨lw_p37, List.forall_mem_cons.mpr ⟨lw_p38, List.forall_mem_cons.mpr ⟨lw_p39, List.forall_mem_cons.mpr ⟨lw_p40, List.forall_mem_cons.mpr ⟨lw_p41, List.forall_mem_cons.mpr ⟨lw_p42, List.forall_mem_cons.mpr ⟨lw_p43, List.forall_mem_cons.mpr ⟨lw_p44, List.forall_mem_cons.mpr ⟨lw_p45, List.forall_mem_cons.mpr ⟨lw_p46, List.forall_mem_cons.mpr ⟨lw_p47, fun _ h => absurd h List.not_mem_nil⟩⟩⟩⟩⟩⟩⟩⟩⟩⟩⟩⟩⟩⟩⟩⟩
theorem lw_p48 : lw_okq (⟨"SleepingJudgeModel", "isThing", "(I)Z"⟩, 31) := ⟨⟨by decide +kernel, by decide +kernel⟩, List.mem_of_getElem? (i := 943) (by decide +kernel), List.mem_of_getElem? (i := 1202) (by decide +kernel), List.mem_of_getElem? (i := 1203) (by decide +kernel)⟩
theorem lw_p49 : lw_okq (⟨"SleepingJudgeModel", "isThere", "()Z"⟩, 31) := ⟨⟨by decide +kernel, by decide +kernel⟩, List.mem_of_getElem? (i := 943) (by decide +kernel), List.mem_of_getElem? (i := 1227) (by decide +kernel), List.mem_of_getElem? (i := 1228) (by decide +kernel)⟩
theorem lw_p50 : lw_okq (⟨"SleepingJudgeModel", "humsFound", "(III)I"⟩, 31) := ⟨⟨by decide +kernel, by decide +kernel⟩, List.mem_of_getElem? (i := 943) (by decide +kernel), List.mem_of_getElem? (i := 1239) (by decide +kernel), List.mem_of_getElem? (i := 1240) (by decide +kernel)⟩
theorem lw_p51 : lw_okq (⟨"SleepingJudgeModel", "rowFound", "(III)I"⟩, 31) := ⟨⟨by decide +kernel, by decide +kernel⟩, List.mem_of_getElem? (i := 943) (by decide +kernel), List.mem_of_getElem? (i := 1243) (by decide +kernel), List.mem_of_getElem? (i := 1244) (by decide +kernel)⟩
theorem lw_p52 : lw_okq (⟨"SleepingJudgeModel", "spread", "(I)V"⟩, 31) := ⟨⟨by decide +kernel, by decide +kernel⟩, List.mem_of_getElem? (i := 943) (by decide +kernel), List.mem_of_getElem? (i := 1252) (by decide +kernel), List.mem_of_getElem? (i := 1253) (by decide +kernel)⟩
theorem lw_p53 : lw_okq (⟨"SleepingJudgeModel", "allDreams", "()I"⟩, 31) := ⟨⟨by decide +kernel, by decide +kernel⟩, List.mem_of_getElem? (i := 943) (by decide +kernel), List.mem_of_getElem? (i := 1256) (by decide +kernel), List.mem_of_getElem? (i := 1257) (by decide +kernel)⟩
theorem lw_p54 : lw_okq (⟨"SleepingJudgeModel", "areThings", "(I)Z"⟩, 31) := ⟨⟨by decide +kernel, by decide +kernel⟩, List.mem_of_getElem? (i := 943) (by decide +kernel), List.mem_of_getElem? (i := 1264) (by decide +kernel), List.mem_of_getElem? (i := 1265) (by decide +kernel)⟩
theorem lw_p55 : lw_okq (⟨"SleepingJudgeModel", "measure", "()V"⟩, 31) := ⟨⟨by decide +kernel, by decide +kernel⟩, List.mem_of_getElem? (i := 943) (by decide +kernel), List.mem_of_getElem? (i := 1268) (by decide +kernel), List.mem_of_getElem? (i := 1269) (by decide +kernel)⟩
theorem lw_p56 : lw_okq (⟨"SleepingJudgeModel", "wayOf", "(I)I"⟩, 31) := ⟨⟨by decide +kernel, by decide +kernel⟩, List.mem_of_getElem? (i := 943) (by decide +kernel), List.mem_of_getElem? (i := 1272) (by decide +kernel), List.mem_of_getElem? (i := 1273) (by decide +kernel)⟩
theorem lw_p57 : lw_okq (⟨"SleepingJudgeModel", "tryOrders", "()I"⟩, 31) := ⟨⟨by decide +kernel, by decide +kernel⟩, List.mem_of_getElem? (i := 943) (by decide +kernel), List.mem_of_getElem? (i := 1288) (by decide +kernel), List.mem_of_getElem? (i := 1289) (by decide +kernel)⟩
theorem lw_p58 : lw_okq (⟨"SleepingJudgeModel", "layThen", "()V"⟩, 31) := ⟨⟨by decide +kernel, by decide +kernel⟩, List.mem_of_getElem? (i := 943) (by decide +kernel), List.mem_of_getElem? (i := 1292) (by decide +kernel), List.mem_of_getElem? (i := 1293) (by decide +kernel)⟩
theorem lw_p59 : lw_okq (⟨"SleepingJudgeModel", "nextRow", "(I)Z"⟩, 31) := ⟨⟨by decide +kernel, by decide +kernel⟩, List.mem_of_getElem? (i := 943) (by decide +kernel), List.mem_of_getElem? (i := 1296) (by decide +kernel), List.mem_of_getElem? (i := 1297) (by decide +kernel)⟩
theorem lw_p60 : lw_okq (⟨"SleepingJudgeModel", "doClash", "(II)Z"⟩, 31) := ⟨⟨by decide +kernel, by decide +kernel⟩, List.mem_of_getElem? (i := 943) (by decide +kernel), List.mem_of_getElem? (i := 1308) (by decide +kernel), List.mem_of_getElem? (i := 1309) (by decide +kernel)⟩
theorem lw_p61 : lw_okq (⟨"SleepingJudgeModel", "areSame", "(II)Z"⟩, 31) := ⟨⟨by decide +kernel, by decide +kernel⟩, List.mem_of_getElem? (i := 943) (by decide +kernel), List.mem_of_getElem? (i := 1320) (by decide +kernel), List.mem_of_getElem? (i := 1321) (by decide +kernel)⟩
theorem lw_p62 : lw_okq (⟨"SleepingJudgeModel", "isSo", "(IIII)Z"⟩, 31) := ⟨⟨by decide +kernel, by decide +kernel⟩, List.mem_of_getElem? (i := 943) (by decide +kernel), List.mem_of_getElem? (i := 1328) (by decide +kernel), List.mem_of_getElem? (i := 1329) (by decide +kernel)⟩
theorem lw_p63 : lw_okq (⟨"SleepingJudgeModel", "sizeOf", "(I)I"⟩, 31) := ⟨⟨by decide +kernel, by decide +kernel⟩, List.mem_of_getElem? (i := 943) (by decide +kernel), List.mem_of_getElem? (i := 1378) (by decide +kernel), List.mem_of_getElem? (i := 1379) (by decide +kernel)⟩
def lw_privs_4 : List (MethodName × Nat) := [(⟨"SleepingJudgeModel", "isThing", "(I)Z"⟩, 31), (⟨"SleepingJudgeModel", "isThere", "()Z"⟩, 31), (⟨"SleepingJudgeModel", "humsFound", "(III)I"⟩, 31), (⟨"SleepingJudgeModel", "rowFound", "(III)I"⟩, 31), (⟨"SleepingJudgeModel", "spread", "(I)V"⟩, 31), (⟨"SleepingJudgeModel", "allDreams", "()I"⟩, 31), (⟨"SleepingJudgeModel", "areThings", "(I)Z"⟩, 31), (⟨"SleepingJudgeModel", "measure", "()V"⟩, 31), (⟨"SleepingJudgeModel", "wayOf", "(I)I"⟩, 31), (⟨"SleepingJudgeModel", "tryOrders", "()I"⟩, 31), (⟨"SleepingJudgeModel", "layThen", "()V"⟩, 31), (⟨"SleepingJudgeModel", "nextRow", "(I)Z"⟩, 31), (⟨"SleepingJudgeModel", "doClash", "(II)Z"⟩, 31), (⟨"SleepingJudgeModel", "areSame", "(II)Z"⟩, 31), (⟨"SleepingJudgeModel", "isSo", "(IIII)Z"⟩, 31), (⟨"SleepingJudgeModel", "sizeOf", "(I)I"⟩, 31)]
theorem lw_r4 : ∀ q ∈ lw_privs_4, lw_okq q := List.forall_mem_cons.mpr ⟨lw_p48, List.forall_mem_cons.mpr ⟨lw_p49, List.forall_mem_cons.mpr ⟨lw_p50, List.forall_mem_cons.mpr ⟨lw_p51, List.forall_mem_cons.mpr ⟨lw_p52, List.forall_mem_cons.mpr ⟨lw_p53, List.forall_mem_cons.mpr ⟨lw_p54, List.forall_mem_cons.mpr ⟨lw_p55, List.forall_mem_cons.mpr ⟨lw_p56, List.forall_mem_cons.mpr ⟨lw_p57, List.forall_mem_cons.mpr ⟨lw_p58, List.forall_mem_cons.mpr ⟨lw_p59, List.forall_mem_cons.mpr ⟨lw_p60, List.forall_mem_cons.mpr ⟨lw_p61, List.forall_mem_cons.mpr ⟨lw_p62, List.forall_mem_cons.mpr ⟨lw_p63, fun _ h => absurd h List.not_mem_nil⟩⟩⟩⟩⟩⟩⟩⟩⟩⟩⟩⟩⟩⟩⟩⟩
theorem lw_p64 : lw_okq (⟨"SleepingJudgeModel", "rainSize", "(I)I"⟩, 31) := ⟨⟨by decide +kernel, by decide +kernel⟩, List.mem_of_getElem? (i := 943) (by decide +kernel), List.mem_of_getElem? (i := 1382) (by decide +kernel), List.mem_of_getElem? (i := 1383) (by decide +kernel)⟩
theorem lw_p65 : lw_okq (⟨"SleepingJudgeModel", "began0", "(I)V"⟩, 31) := ⟨⟨by decide +kernel, by decide +kernel⟩, List.mem_of_getElem? (i := 943) (by decide +kernel), List.mem_of_getElem? (i := 1386) (by decide +kernel), List.mem_of_getElem? (i := 1387) (by decide +kernel)⟩
theorem lw_p66 : lw_okq (⟨"SleepingJudgeModel", "plainSize", "(I)I"⟩, 31) := ⟨⟨by decide +kernel, by decide +kernel⟩, List.mem_of_getElem? (i := 943) (by decide +kernel), List.mem_of_getElem? (i := 1390) (by decide +kernel), List.mem_of_getElem? (i := 1391) (by decide +kernel)⟩
theorem lw_p67 : lw_okq (⟨"SleepingJudgeModel", "markOf", "(I)I"⟩, 31) := ⟨⟨by decide +kernel, by decide +kernel⟩, List.mem_of_getElem? (i := 943) (by decide +kernel), List.mem_of_getElem? (i := 1394) (by decide +kernel), List.mem_of_getElem? (i := 1395) (by decide +kernel)⟩
def lw_privs_5 : List (MethodName × Nat) := [(⟨"SleepingJudgeModel", "rainSize", "(I)I"⟩, 31), (⟨"SleepingJudgeModel", "began0", "(I)V"⟩, 31), (⟨"SleepingJudgeModel", "plainSize", "(I)I"⟩, 31), (⟨"SleepingJudgeModel", "markOf", "(I)I"⟩, 31)]
theorem lw_r5 : ∀ q ∈ lw_privs_5, lw_okq q := List.forall_mem_cons.mpr ⟨lw_p64, List.forall_mem_cons.mpr ⟨lw_p65, List.forall_mem_cons.mpr ⟨lw_p66, List.forall_mem_cons.mpr ⟨lw_p67, fun _ h => absurd h List.not_mem_nil⟩⟩⟩⟩
def lw_privs : List (MethodName × Nat) := lw_privs_1 ++ (lw_privs_2 ++ (lw_privs_3 ++ (lw_privs_4 ++ (lw_privs_5))))
def lw_tbl : List Cond := k2_sels lw_privs ++ tables_1
theorem lw_privs_ok : ∀ q ∈ lw_privs, lw_okq q := by
  show ∀ q ∈ lw_privs_1 ++ (lw_privs_2 ++ (lw_privs_3 ++ (lw_privs_4 ++ (lw_privs_5)))), lw_okq q
  exact List.forall_mem_append.mpr ⟨lw_r1, List.forall_mem_append.mpr ⟨lw_r2, List.forall_mem_append.mpr ⟨lw_r3, List.forall_mem_append.mpr ⟨lw_r4, lw_r5⟩⟩⟩⟩

def gw_tbl : List Cond := lw_tbl.filter goodWord
theorem tb {w : Cond} (i : Nat) (h : tables_1[i]? = some w ∧ goodWord w = true) : w ∈ gw_tbl := List.mem_filter.mpr ⟨List.mem_append_right _ (List.mem_of_getElem? h.1), h.2⟩
theorem pv {w : Cond} (i : Nat) (h : (k2_sels lw_privs)[i]? = some w ∧ goodWord w = true) : w ∈ gw_tbl := List.mem_filter.mpr ⟨List.mem_append_left _ (List.mem_of_getElem? h.1), h.2⟩
theorem tn {w : Cond} (i : Nat) (h : tables_1[i]? = some w) : w ∈ lw_tbl := List.mem_append_right _ (List.mem_of_getElem? h)
theorem gw_in {w : Cond} (h : w ∈ gw_tbl) : w ∈ lw_tbl := (List.mem_filter.mp h).1
theorem gw_good {w : Cond} (h : w ∈ gw_tbl) : goodWord w = true := (List.mem_filter.mp h).2
end
section
def RX0 : String := "SleepingJudge$Acts"
def TX0 : u_T := fun k => match k with
  | 0 => ("SleepingJudge$Acts", "kept", "[I", true)
  | 1 => ("SleepingJudge$Acts", "next", "I", false)
  | _ => ("SleepingJudge$Acts", "length", "I", false)
def tyX0 : Nat → FieldType := fun k => match k with
  | 0 => .array .int
  | 1 => .int
  | _ => .int
theorem nmX0 : ∀ a, a < 3 → ∀ b, b < 3 → a ≠ b → (TX0 a).2.1 ≠ (TX0 b).2.1 := by decide +kernel
theorem tyX0_ok : ∀ k, k < 3 → parseFieldDescriptor (TX0 k).2.2.1 = some (tyX0 k) := by decide +kernel
abbrev cX0_init : ByteArray := prog_2_method_1_code
def yX0_init : MethodName := ⟨RX0, "<init>", "()V"⟩
abbrev cX0_keep : ByteArray := prog_2_method_2_code
def yX0_keep : MethodName := ⟨RX0, "keep", "(LSleepingJudge$Court;)V"⟩
abbrev cX0_takeBack : ByteArray := prog_2_method_3_code
def yX0_takeBack : MethodName := ⟨RX0, "takeBack", "(LSleepingJudge$Court;)I"⟩
abbrev cX0_clear : ByteArray := prog_2_method_4_code
def yX0_clear : MethodName := ⟨RX0, "clear", "()V"⟩
def RX1 : String := "SleepingJudge$Asking"
def TX1 : u_T := fun k => match k with
  | 0 => ("SleepingJudge$Asking", "court", "LSleepingJudge$Court;", true)
  | 1 => ("SleepingJudge$Asking", "begun", "[I", true)
  | _ => ("SleepingJudge$Asking", "length", "I", false)
def tyX1 : Nat → FieldType := fun k => match k with
  | 0 => .object "SleepingJudge$Court"
  | 1 => .array .int
  | _ => .int
theorem nmX1 : ∀ a, a < 3 → ∀ b, b < 3 → a ≠ b → (TX1 a).2.1 ≠ (TX1 b).2.1 := by decide +kernel
theorem tyX1_ok : ∀ k, k < 3 → parseFieldDescriptor (TX1 k).2.2.1 = some (tyX1 k) := by decide +kernel
abbrev cX1_init : ByteArray := prog_3_method_1_code
def yX1_init : MethodName := ⟨RX1, "<init>", "(LSleepingJudge$Court;)V"⟩
abbrev cX1_answer : ByteArray := prog_3_method_2_code
def yX1_answer : MethodName := ⟨RX1, "answer", "(II)I"⟩
abbrev cX1_sizeBody : ByteArray := prog_3_method_3_code
def yX1_sizeBody : MethodName := ⟨RX1, "sizeBody", "(I)I"⟩
abbrev cX1_markBody : ByteArray := prog_3_method_4_code
def yX1_markBody : MethodName := ⟨RX1, "markBody", "(I)I"⟩
abbrev cX1_begin : ByteArray := prog_3_method_5_code
def yX1_begin : MethodName := ⟨RX1, "begin", "(III)I"⟩
abbrev cX1_leave : ByteArray := prog_3_method_6_code
def yX1_leave : MethodName := ⟨RX1, "leave", "(I)V"⟩
def RX2 : String := "SleepingJudge$Court"
def TX2 : u_T := fun k => match k with
  | 0 => ("SleepingJudge$Court", "thingCount", "I", false)
  | 1 => ("SleepingJudge$Court", "wears", "I", false)
  | 2 => ("SleepingJudge$Court", "perNight", "I", false)
  | 3 => ("SleepingJudge$Court", "dream", "I", false)
  | 4 => ("SleepingJudge$Court", "hummed", "I", false)
  | 5 => ("SleepingJudge$Court", "night", "I", false)
  | 6 => ("SleepingJudge$Court", "hums", "I", false)
  | 7 => ("SleepingJudge$Court", "cases", "I", false)
  | 8 => ("SleepingJudge$Court", "kinds", "[I", true)
  | 9 => ("SleepingJudge$Court", "things", "[I", true)
  | 10 => ("SleepingJudge$Court", "others", "[I", true)
  | 11 => ("SleepingJudge$Court", "pleas", "[I", true)
  | 12 => ("SleepingJudge$Court", "loses", "[I", true)
  | 13 => ("SleepingJudge$Court", "wins", "[I", true)
  | _ => ("SleepingJudge$Court", "ways", "[I", true)
def tyX2 : Nat → FieldType := fun k => match k with
  | 0 => .int
  | 1 => .int
  | 2 => .int
  | 3 => .int
  | 4 => .int
  | 5 => .int
  | 6 => .int
  | 7 => .int
  | 8 => .array .int
  | 9 => .array .int
  | 10 => .array .int
  | 11 => .array .int
  | 12 => .array .int
  | 13 => .array .int
  | _ => .array .int
theorem nmX2 : ∀ a, a < 15 → ∀ b, b < 15 → a ≠ b → (TX2 a).2.1 ≠ (TX2 b).2.1 := by decide +kernel
theorem tyX2_ok : ∀ k, k < 15 → parseFieldDescriptor (TX2 k).2.2.1 = some (tyX2 k) := by decide +kernel
abbrev cX2_init : ByteArray := prog_4_method_1_code
def yX2_init : MethodName := ⟨RX2, "<init>", "()V"⟩
abbrev cX2_clear : ByteArray := prog_4_method_2_code
def yX2_clear : MethodName := ⟨RX2, "clear", "()V"⟩
abbrev cX2_become : ByteArray := prog_4_method_3_code
def yX2_become : MethodName := ⟨RX2, "become", "(LSleepingJudge$Court;)V"⟩
abbrev cX2_writeChanging : ByteArray := prog_4_method_4_code
def yX2_writeChanging : MethodName := ⟨RX2, "writeChanging", "([II)V"⟩
abbrev cX2_readChanging : ByteArray := prog_4_method_5_code
def yX2_readChanging : MethodName := ⟨RX2, "readChanging", "([II)V"⟩
abbrev cX2_isTold : ByteArray := prog_4_method_6_code
def yX2_isTold : MethodName := ⟨RX2, "isTold", "()Z"⟩
abbrev cX2_isHum : ByteArray := prog_4_method_7_code
def yX2_isHum : MethodName := ⟨RX2, "isHum", "(I)Z"⟩
abbrev cX2_isCase : ByteArray := prog_4_method_8_code
def yX2_isCase : MethodName := ⟨RX2, "isCase", "(I)Z"⟩
abbrev cX2_isThing : ByteArray := prog_4_method_9_code
def yX2_isThing : MethodName := ⟨RX2, "isThing", "(I)Z"⟩
abbrev cX2_isDream : ByteArray := prog_4_method_10_code
def yX2_isDream : MethodName := ⟨RX2, "isDream", "(I)Z"⟩
abbrev cX2_dreamCount : ByteArray := prog_4_method_11_code
def yX2_dreamCount : MethodName := ⟨RX2, "dreamCount", "()I"⟩
abbrev cX2_by : ByteArray := prog_4_method_12_code
def yX2_by : MethodName := ⟨RX2, "by", "(II)I"⟩
abbrev cX2_byKind : ByteArray := prog_4_method_13_code
def yX2_byKind : MethodName := ⟨RX2, "byKind", "(IIII)I"⟩
abbrev cX2_thingBehind : ByteArray := prog_4_method_14_code
def yX2_thingBehind : MethodName := ⟨RX2, "thingBehind", "(I)I"⟩
abbrev cX2_verdict : ByteArray := prog_4_method_15_code
def yX2_verdict : MethodName := ⟨RX2, "verdict", "(II)I"⟩
abbrev cX2_judged : ByteArray := prog_4_method_16_code
def yX2_judged : MethodName := ⟨RX2, "judged", "(II)I"⟩
abbrev cX2_dreamHeard : ByteArray := prog_4_method_17_code
def yX2_dreamHeard : MethodName := ⟨RX2, "dreamHeard", "(II)I"⟩
abbrev cX2_worn : ByteArray := prog_4_method_18_code
def yX2_worn : MethodName := ⟨RX2, "worn", "(I)I"⟩
abbrev cX2_casesThatAre : ByteArray := prog_4_method_19_code
def yX2_casesThatAre : MethodName := ⟨RX2, "casesThatAre", "(I)I"⟩
abbrev cX2_pairs : ByteArray := prog_4_method_20_code
def yX2_pairs : MethodName := ⟨RX2, "pairs", "(ZI)I"⟩
abbrev cX2_clash : ByteArray := prog_4_method_21_code
def yX2_clash : MethodName := ⟨RX2, "clash", "(II)Z"⟩
abbrev cX2_deafHums : ByteArray := prog_4_method_22_code
def yX2_deafHums : MethodName := ⟨RX2, "deafHums", "()I"⟩
abbrev cX2_doTheSame : ByteArray := prog_4_method_23_code
def yX2_doTheSame : MethodName := ⟨RX2, "doTheSame", "(II)Z"⟩
abbrev cX2_freeParts : ByteArray := prog_4_method_24_code
def yX2_freeParts : MethodName := ⟨RX2, "freeParts", "(II)J"⟩
abbrev cX2_drawTerms : ByteArray := prog_4_method_25_code
def yX2_drawTerms : MethodName := ⟨RX2, "drawTerms", "(II)V"⟩
abbrev cX2_hearIfOpen : ByteArray := prog_4_method_26_code
def yX2_hearIfOpen : MethodName := ⟨RX2, "hearIfOpen", "(I)V"⟩
def RX3 : String := "SleepingJudge$Orders"
def TX3 : u_T := fun k => match k with
  | 0 => ("SleepingJudge$Orders", "court", "LSleepingJudge$Court;", true)
  | 1 => ("SleepingJudge$Orders", "tried", "[I", true)
  | 2 => ("SleepingJudge$Orders", "best", "[I", true)
  | 3 => ("SleepingJudge$Orders", "freeBegunBy", "[I", true)
  | 4 => ("SleepingJudge$Orders", "length", "I", false)
  | 5 => ("SleepingJudge$Orders", "bestFree", "I", false)
  | _ => ("SleepingJudge$Orders", "bestGuilty", "I", false)
def tyX3 : Nat → FieldType := fun k => match k with
  | 0 => .object "SleepingJudge$Court"
  | 1 => .array .int
  | 2 => .array .int
  | 3 => .array .int
  | 4 => .int
  | 5 => .int
  | _ => .int
theorem nmX3 : ∀ a, a < 7 → ∀ b, b < 7 → a ≠ b → (TX3 a).2.1 ≠ (TX3 b).2.1 := by decide +kernel
theorem tyX3_ok : ∀ k, k < 7 → parseFieldDescriptor (TX3 k).2.2.1 = some (tyX3 k) := by decide +kernel
abbrev cX3_init : ByteArray := prog_5_method_1_code
def yX3_init : MethodName := ⟨RX3, "<init>", "(LSleepingJudge$Court;)V"⟩
abbrev cX3_tryAll : ByteArray := prog_5_method_2_code
def yX3_tryAll : MethodName := ⟨RX3, "tryAll", "()V"⟩
abbrev cX3_tryBehind : ByteArray := prog_5_method_3_code
def yX3_tryBehind : MethodName := ⟨RX3, "tryBehind", "(IIIII)V"⟩
abbrev cX3_compare : ByteArray := prog_5_method_4_code
def yX3_compare : MethodName := ⟨RX3, "compare", "(II)V"⟩
abbrev cX3_bestToBegin : ByteArray := prog_5_method_5_code
def yX3_bestToBegin : MethodName := ⟨RX3, "bestToBegin", "()I"⟩
def RX4 : String := "SleepingJudge$Reader"
def TX4 : u_T := fun k => match k with
  | 0 => ("SleepingJudge$Reader", "tape", "LSleepingJudge$Tape;", true)
  | 1 => ("SleepingJudge$Reader", "draft", "LSleepingJudge$Court;", true)
  | 2 => ("SleepingJudge$Reader", "place", "I", false)
  | _ => ("SleepingJudge$Reader", "faultNumber", "I", false)
def tyX4 : Nat → FieldType := fun k => match k with
  | 0 => .object "SleepingJudge$Tape"
  | 1 => .object "SleepingJudge$Court"
  | 2 => .int
  | _ => .int
theorem nmX4 : ∀ a, a < 4 → ∀ b, b < 4 → a ≠ b → (TX4 a).2.1 ≠ (TX4 b).2.1 := by decide +kernel
theorem tyX4_ok : ∀ k, k < 4 → parseFieldDescriptor (TX4 k).2.2.1 = some (tyX4 k) := by decide +kernel
abbrev cX4_init : ByteArray := prog_6_method_1_code
def yX4_init : MethodName := ⟨RX4, "<init>", "(LSleepingJudge$Tape;LSleepingJudge$Court;)V"⟩
abbrev cX4_readAll : ByteArray := prog_6_method_2_code
def yX4_readAll : MethodName := ⟨RX4, "readAll", "()V"⟩
abbrev cX4_readLaw : ByteArray := prog_6_method_3_code
def yX4_readLaw : MethodName := ⟨RX4, "readLaw", "()V"⟩
abbrev cX4_readDream : ByteArray := prog_6_method_4_code
def yX4_readDream : MethodName := ⟨RX4, "readDream", "()V"⟩
abbrev cX4_readHums : ByteArray := prog_6_method_5_code
def yX4_readHums : MethodName := ⟨RX4, "readHums", "()V"⟩
abbrev cX4_readHum : ByteArray := prog_6_method_6_code
def yX4_readHum : MethodName := ⟨RX4, "readHum", "()V"⟩
abbrev cX4_readCases : ByteArray := prog_6_method_7_code
def yX4_readCases : MethodName := ⟨RX4, "readCases", "()V"⟩
abbrev cX4_readCase : ByteArray := prog_6_method_8_code
def yX4_readCase : MethodName := ⟨RX4, "readCase", "()V"⟩
abbrev cX4_thing : ByteArray := prog_6_method_9_code
def yX4_thing : MethodName := ⟨RX4, "thing", "()I"⟩
abbrev cX4_isNext : ByteArray := prog_6_method_10_code
def yX4_isNext : MethodName := ⟨RX4, "isNext", "(I)Z"⟩
abbrev cX4_kindNext : ByteArray := prog_6_method_11_code
def yX4_kindNext : MethodName := ⟨RX4, "kindNext", "()I"⟩
abbrev cX4_mark : ByteArray := prog_6_method_12_code
def yX4_mark : MethodName := ⟨RX4, "mark", "(I)V"⟩
abbrev cX4_pass : ByteArray := prog_6_method_13_code
def yX4_pass : MethodName := ⟨RX4, "pass", "(I)V"⟩
abbrev cX4_number : ByteArray := prog_6_method_14_code
def yX4_number : MethodName := ⟨RX4, "number", "(II)I"⟩
def RX5 : String := "SleepingJudge$Rows"
def TX5 : u_T := fun k => match k with
  | 0 => ("SleepingJudge$Rows", "items", "[[I", true)
  | 1 => ("SleepingJudge$Rows", "lanes", "[I", true)
  | _ => ("SleepingJudge$Rows", "lengths", "[I", true)
def tyX5 : Nat → FieldType := fun k => match k with
  | 0 => .array (.array .int)
  | 1 => .array .int
  | _ => .array .int
theorem nmX5 : ∀ a, a < 3 → ∀ b, b < 3 → a ≠ b → (TX5 a).2.1 ≠ (TX5 b).2.1 := by decide +kernel
theorem tyX5_ok : ∀ k, k < 3 → parseFieldDescriptor (TX5 k).2.2.1 = some (tyX5 k) := by decide +kernel
abbrev cX5_init : ByteArray := prog_7_method_1_code
def yX5_init : MethodName := ⟨RX5, "<init>", "()V"⟩
abbrev cX5_isRow : ByteArray := prog_7_method_2_code
def yX5_isRow : MethodName := ⟨RX5, "isRow", "(I)Z"⟩
abbrev cX5_isLane : ByteArray := prog_7_method_3_code
def yX5_isLane : MethodName := ⟨RX5, "isLane", "(I)Z"⟩
abbrev cX5_isMissing : ByteArray := prog_7_method_4_code
def yX5_isMissing : MethodName := ⟨RX5, "isMissing", "(I)Z"⟩
abbrev cX5_areAlike : ByteArray := prog_7_method_5_code
def yX5_areAlike : MethodName := ⟨RX5, "areAlike", "(II)Z"⟩
abbrev cX5_lookedAt : ByteArray := prog_7_method_6_code
def yX5_lookedAt : MethodName := ⟨RX5, "lookedAt", "(III)I"⟩
abbrev cX5_make : ByteArray := prog_7_method_7_code
def yX5_make : MethodName := ⟨RX5, "make", "(III)V"⟩
abbrev cX5_put : ByteArray := prog_7_method_8_code
def yX5_put : MethodName := ⟨RX5, "put", "(III)I"⟩
abbrev cX5_move : ByteArray := prog_7_method_9_code
def yX5_move : MethodName := ⟨RX5, "move", "(IIIII)V"⟩
abbrev cX5_remove : ByteArray := prog_7_method_10_code
def yX5_remove : MethodName := ⟨RX5, "remove", "(I)I"⟩
abbrev cX5_howMany : ByteArray := prog_7_method_11_code
def yX5_howMany : MethodName := ⟨RX5, "howMany", "()I"⟩
def RX6 : String := "SleepingJudge$Tape"
def TX6 : u_T := fun k => match k with
  | 0 => ("SleepingJudge$Tape", "letters", "[I", true)
  | _ => ("SleepingJudge$Tape", "length", "I", false)
def tyX6 : Nat → FieldType := fun k => match k with
  | 0 => .array .int
  | _ => .int
theorem nmX6 : ∀ a, a < 2 → ∀ b, b < 2 → a ≠ b → (TX6 a).2.1 ≠ (TX6 b).2.1 := by decide +kernel
theorem tyX6_ok : ∀ k, k < 2 → parseFieldDescriptor (TX6 k).2.2.1 = some (tyX6 k) := by decide +kernel
abbrev cX6_init : ByteArray := prog_8_method_1_code
def yX6_init : MethodName := ⟨RX6, "<init>", "()V"⟩
abbrev cX6_isFull : ByteArray := prog_8_method_2_code
def yX6_isFull : MethodName := ⟨RX6, "isFull", "()Z"⟩
abbrev cX6_add : ByteArray := prog_8_method_3_code
def yX6_add : MethodName := ⟨RX6, "add", "(I)I"⟩
abbrev cX6_at : ByteArray := prog_8_method_4_code
def yX6_at : MethodName := ⟨RX6, "at", "(I)I"⟩
abbrev cX6_isFigure : ByteArray := prog_8_method_5_code
def yX6_isFigure : MethodName := ⟨RX6, "isFigure", "(I)Z"⟩
abbrev cX6_clear : ByteArray := prog_8_method_6_code
def yX6_clear : MethodName := ⟨RX6, "clear", "()V"⟩
def RX7 : String := "SleepingJudge$Told"
def TX7 : u_T := fun k => match k with
  | 0 => ("SleepingJudge$Told", "court", "LSleepingJudge$Court;", true)
  | 1 => ("SleepingJudge$Told", "hums", "[I", true)
  | 2 => ("SleepingJudge$Told", "dreams", "[I", true)
  | _ => ("SleepingJudge$Told", "length", "I", false)
def tyX7 : Nat → FieldType := fun k => match k with
  | 0 => .object "SleepingJudge$Court"
  | 1 => .array .int
  | 2 => .array .int
  | _ => .int
theorem nmX7 : ∀ a, a < 4 → ∀ b, b < 4 → a ≠ b → (TX7 a).2.1 ≠ (TX7 b).2.1 := by decide +kernel
theorem tyX7_ok : ∀ k, k < 4 → parseFieldDescriptor (TX7 k).2.2.1 = some (tyX7 k) := by decide +kernel
abbrev cX7_init : ByteArray := prog_9_method_1_code
def yX7_init : MethodName := ⟨RX7, "<init>", "(LSleepingJudge$Court;)V"⟩
abbrev cX7_takeHums : ByteArray := prog_9_method_2_code
def yX7_takeHums : MethodName := ⟨RX7, "takeHums", "(LSleepingJudge$Rows;III)I"⟩
abbrev cX7_takeDreams : ByteArray := prog_9_method_3_code
def yX7_takeDreams : MethodName := ⟨RX7, "takeDreams", "(LSleepingJudge$Rows;III)I"⟩
abbrev cX7_lastDream : ByteArray := prog_9_method_4_code
def yX7_lastDream : MethodName := ⟨RX7, "lastDream", "(I)I"⟩
abbrev cX7_placesNotHummed : ByteArray := prog_9_method_5_code
def yX7_placesNotHummed : MethodName := ⟨RX7, "placesNotHummed", "(I)I"⟩
abbrev cX7_kindsThatFit : ByteArray := prog_9_method_6_code
def yX7_kindsThatFit : MethodName := ⟨RX7, "kindsThatFit", "(I)I"⟩
abbrev cX7_thingsThatFit : ByteArray := prog_9_method_7_code
def yX7_thingsThatFit : MethodName := ⟨RX7, "thingsThatFit", "(I)I"⟩
abbrev cX7_othersThatFit : ByteArray := prog_9_method_8_code
def yX7_othersThatFit : MethodName := ⟨RX7, "othersThatFit", "(I)I"⟩
abbrev cX7_howManyBegan : ByteArray := prog_9_method_9_code
def yX7_howManyBegan : MethodName := ⟨RX7, "howManyBegan", "()I"⟩
abbrev cX7_leastBegan : ByteArray := prog_9_method_10_code
def yX7_leastBegan : MethodName := ⟨RX7, "leastBegan", "()I"⟩
abbrev cX7_fitsAsItIs : ByteArray := prog_9_method_11_code
def yX7_fitsAsItIs : MethodName := ⟨RX7, "fitsAsItIs", "(I)Z"⟩
abbrev cX7_fits : ByteArray := prog_9_method_12_code
def yX7_fits : MethodName := ⟨RX7, "fits", "(IIIII)Z"⟩
def RX8 : String := "SleepingJudge$Walks"
def TX8 : u_T := fun k => match k with
  | 0 => ("SleepingJudge$Walks", "court", "LSleepingJudge$Court;", true)
  | 1 => ("SleepingJudge$Walks", "here", "[I", true)
  | 2 => ("SleepingJudge$Walks", "behind", "[I", true)
  | 3 => ("SleepingJudge$Walks", "met", "[I", true)
  | 4 => ("SleepingJudge$Walks", "metFrom", "[I", true)
  | 5 => ("SleepingJudge$Walks", "metBy", "[I", true)
  | 6 => ("SleepingJudge$Walks", "metDepth", "[I", true)
  | _ => ("SleepingJudge$Walks", "length", "I", false)
def tyX8 : Nat → FieldType := fun k => match k with
  | 0 => .object "SleepingJudge$Court"
  | 1 => .array .int
  | 2 => .array .int
  | 3 => .array .int
  | 4 => .array .int
  | 5 => .array .int
  | 6 => .array .int
  | _ => .int
theorem nmX8 : ∀ a, a < 8 → ∀ b, b < 8 → a ≠ b → (TX8 a).2.1 ≠ (TX8 b).2.1 := by decide +kernel
theorem tyX8_ok : ∀ k, k < 8 → parseFieldDescriptor (TX8 k).2.2.1 = some (tyX8 k) := by decide +kernel
abbrev cX8_init : ByteArray := prog_10_method_1_code
def yX8_init : MethodName := ⟨RX8, "<init>", "(LSleepingJudge$Court;)V"⟩
abbrev cX8_howManyBehind : ByteArray := prog_10_method_2_code
def yX8_howManyBehind : MethodName := ⟨RX8, "howManyBehind", "(I)I"⟩
abbrev cX8_inAllBehind : ByteArray := prog_10_method_3_code
def yX8_inAllBehind : MethodName := ⟨RX8, "inAllBehind", "(I)I"⟩
abbrev cX8_inAnyBehind : ByteArray := prog_10_method_4_code
def yX8_inAnyBehind : MethodName := ⟨RX8, "inAnyBehind", "(I)I"⟩
abbrev cX8_leastBehind : ByteArray := prog_10_method_5_code
def yX8_leastBehind : MethodName := ⟨RX8, "leastBehind", "(I)I"⟩
abbrev cX8_greatestBehind : ByteArray := prog_10_method_6_code
def yX8_greatestBehind : MethodName := ⟨RX8, "greatestBehind", "(I)I"⟩
abbrev cX8_goBehind : ByteArray := prog_10_method_7_code
def yX8_goBehind : MethodName := ⟨RX8, "goBehind", "(I)V"⟩
abbrev cX8_markBehind : ByteArray := prog_10_method_8_code
def yX8_markBehind : MethodName := ⟨RX8, "markBehind", "(I)V"⟩
abbrev cX8_goWithin : ByteArray := prog_10_method_9_code
def yX8_goWithin : MethodName := ⟨RX8, "goWithin", "(I)V"⟩
abbrev cX8_meet : ByteArray := prog_10_method_10_code
def yX8_meet : MethodName := ⟨RX8, "meet", "(IIII)V"⟩
abbrev cX8_firstWith : ByteArray := prog_10_method_11_code
def yX8_firstWith : MethodName := ⟨RX8, "firstWith", "(II)I"⟩
abbrev cX8_firstFree : ByteArray := prog_10_method_12_code
def yX8_firstFree : MethodName := ⟨RX8, "firstFree", "(I)I"⟩
abbrev cX8_humOfRowTo : ByteArray := prog_10_method_13_code
def yX8_humOfRowTo : MethodName := ⟨RX8, "humOfRowTo", "(II)I"⟩
abbrev cX8_verdictsMet : ByteArray := prog_10_method_14_code
def yX8_verdictsMet : MethodName := ⟨RX8, "verdictsMet", "(I)I"⟩
def RX9 : String := "SleepingJudge"
def TX9 : u_T := fun k => match k with
  | 0 => ("SleepingJudge", "rows", "LSleepingJudge$Rows;", true)
  | 1 => ("SleepingJudge", "tape", "LSleepingJudge$Tape;", true)
  | 2 => ("SleepingJudge", "now", "LSleepingJudge$Court;", true)
  | 3 => ("SleepingJudge", "draft", "LSleepingJudge$Court;", true)
  | 4 => ("SleepingJudge", "reader", "LSleepingJudge$Reader;", true)
  | 5 => ("SleepingJudge", "acts", "LSleepingJudge$Acts;", true)
  | 6 => ("SleepingJudge", "images", "[LSleepingJudge$Court;", true)
  | 7 => ("SleepingJudge", "walks", "LSleepingJudge$Walks;", true)
  | 8 => ("SleepingJudge", "orders", "LSleepingJudge$Orders;", true)
  | 9 => ("SleepingJudge", "told", "LSleepingJudge$Told;", true)
  | 10 => ("SleepingJudge", "asking", "LSleepingJudge$Asking;", true)
  | 11 => ("SleepingJudge", "latestFault", "I", false)
  | _ => ("SleepingJudge", "latestFinding", "I", false)
def tyX9 : Nat → FieldType := fun k => match k with
  | 0 => .object "SleepingJudge$Rows"
  | 1 => .object "SleepingJudge$Tape"
  | 2 => .object "SleepingJudge$Court"
  | 3 => .object "SleepingJudge$Court"
  | 4 => .object "SleepingJudge$Reader"
  | 5 => .object "SleepingJudge$Acts"
  | 6 => .array (.object "SleepingJudge$Court")
  | 7 => .object "SleepingJudge$Walks"
  | 8 => .object "SleepingJudge$Orders"
  | 9 => .object "SleepingJudge$Told"
  | 10 => .object "SleepingJudge$Asking"
  | 11 => .int
  | _ => .int
theorem nmX9 : ∀ a, a < 13 → ∀ b, b < 13 → a ≠ b → (TX9 a).2.1 ≠ (TX9 b).2.1 := by decide +kernel
theorem tyX9_ok : ∀ k, k < 13 → parseFieldDescriptor (TX9 k).2.2.1 = some (tyX9 k) := by decide +kernel
abbrev cX9_init : ByteArray := prog_1_method_1_code
def yX9_init : MethodName := ⟨RX9, "<init>", "()V"⟩
abbrev cX9_row : ByteArray := prog_1_method_2_code
def yX9_row : MethodName := ⟨RX9, "row", "(III)I"⟩
abbrev cX9_set : ByteArray := prog_1_method_3_code
def yX9_set : MethodName := ⟨RX9, "set", "(III)I"⟩
abbrev cX9_copy : ByteArray := prog_1_method_4_code
def yX9_copy : MethodName := ⟨RX9, "copy", "(IIIII)I"⟩
abbrev cX9_drop : ByteArray := prog_1_method_5_code
def yX9_drop : MethodName := ⟨RX9, "drop", "(I)I"⟩
abbrev cX9_feed : ByteArray := prog_1_method_6_code
def yX9_feed : MethodName := ⟨RX9, "feed", "(I)I"⟩
abbrev cX9_court : ByteArray := prog_1_method_7_code
def yX9_court : MethodName := ⟨RX9, "court", "()I"⟩
abbrev cX9_fault : ByteArray := prog_1_method_8_code
def yX9_fault : MethodName := ⟨RX9, "fault", "()I"⟩
abbrev cX9_undo : ByteArray := prog_1_method_9_code
def yX9_undo : MethodName := ⟨RX9, "undo", "()I"⟩
abbrev cX9_hum : ByteArray := prog_1_method_10_code
def yX9_hum : MethodName := ⟨RX9, "hum", "(I)I"⟩
abbrev cX9_hear : ByteArray := prog_1_method_11_code
def yX9_hear : MethodName := ⟨RX9, "hear", "(I)I"⟩
abbrev cX9_appeal : ByteArray := prog_1_method_12_code
def yX9_appeal : MethodName := ⟨RX9, "appeal", "(I)I"⟩
abbrev cX9_forget : ByteArray := prog_1_method_13_code
def yX9_forget : MethodName := ⟨RX9, "forget", "(I)I"⟩
abbrev cX9_learn : ByteArray := prog_1_method_14_code
def yX9_learn : MethodName := ⟨RX9, "learn", "(II)I"⟩
abbrev cX9_ofHum : ByteArray := prog_1_method_15_code
def yX9_ofHum : MethodName := ⟨RX9, "ofHum", "(II)I"⟩
abbrev cX9_ofCase : ByteArray := prog_1_method_16_code
def yX9_ofCase : MethodName := ⟨RX9, "ofCase", "(II)I"⟩
abbrev cX9_stand : ByteArray := prog_1_method_17_code
def yX9_stand : MethodName := ⟨RX9, "stand", "(I)I"⟩
abbrev cX9_sleep : ByteArray := prog_1_method_18_code
def yX9_sleep : MethodName := ⟨RX9, "sleep", "(III)I"⟩
abbrev cX9_dreams : ByteArray := prog_1_method_19_code
def yX9_dreams : MethodName := ⟨RX9, "dreams", "(II)I"⟩
abbrev cX9_least : ByteArray := prog_1_method_20_code
def yX9_least : MethodName := ⟨RX9, "least", "(III)I"⟩
abbrev cX9_save : ByteArray := prog_1_method_21_code
def yX9_save : MethodName := ⟨RX9, "save", "(II)I"⟩
abbrev cX9_can : ByteArray := prog_1_method_22_code
def yX9_can : MethodName := ⟨RX9, "can", "(II)I"⟩
abbrev cX9_order : ByteArray := prog_1_method_23_code
def yX9_order : MethodName := ⟨RX9, "order", "(I)I"⟩
abbrev cX9_first : ByteArray := prog_1_method_24_code
def yX9_first : MethodName := ⟨RX9, "first", "()I"⟩
abbrev cX9_clashes : ByteArray := prog_1_method_25_code
def yX9_clashes : MethodName := ⟨RX9, "clashes", "(I)I"⟩
abbrev cX9_deaf : ByteArray := prog_1_method_26_code
def yX9_deaf : MethodName := ⟨RX9, "deaf", "()I"⟩
abbrev cX9_same : ByteArray := prog_1_method_27_code
def yX9_same : MethodName := ⟨RX9, "same", "(I)I"⟩
abbrev cX9_who : ByteArray := prog_1_method_28_code
def yX9_who : MethodName := ⟨RX9, "who", "(IIIIIII)I"⟩
abbrev cX9_began : ByteArray := prog_1_method_29_code
def yX9_began : MethodName := ⟨RX9, "began", "(IIIIII)I"⟩
abbrev cX9_snored : ByteArray := prog_1_method_30_code
def yX9_snored : MethodName := ⟨RX9, "snored", "(IIII)I"⟩
abbrev cX9_gone : ByteArray := prog_1_method_31_code
def yX9_gone : MethodName := ⟨RX9, "gone", "(III)J"⟩
abbrev cX9_drawn : ByteArray := prog_1_method_32_code
def yX9_drawn : MethodName := ⟨RX9, "drawn", "(III)I"⟩
abbrev cX9_image : ByteArray := prog_1_method_33_code
def yX9_image : MethodName := ⟨RX9, "image", "(I)I"⟩
abbrev cX9_restore : ByteArray := prog_1_method_34_code
def yX9_restore : MethodName := ⟨RX9, "restore", "(I)I"⟩
abbrev cX9_kind : ByteArray := prog_1_method_35_code
def yX9_kind : MethodName := ⟨RX9, "kind", "(I)I"⟩
abbrev cX9_as : ByteArray := prog_1_method_36_code
def yX9_as : MethodName := ⟨RX9, "as", "(II)I"⟩
abbrev cX9_ask : ByteArray := prog_1_method_37_code
def yX9_ask : MethodName := ⟨RX9, "ask", "(II)I"⟩
abbrev cX9_trace : ByteArray := prog_1_method_38_code
def yX9_trace : MethodName := ⟨RX9, "trace", "(I)I"⟩
abbrev cX9_count : ByteArray := prog_1_method_39_code
def yX9_count : MethodName := ⟨RX9, "count", "(I)I"⟩
abbrev cX9_status : ByteArray := prog_1_method_40_code
def yX9_status : MethodName := ⟨RX9, "status", "()I"⟩
abbrev cX9_found : ByteArray := prog_1_method_41_code
def yX9_found : MethodName := ⟨RX9, "found", "(I)I"⟩
abbrev cX9_fine : ByteArray := prog_1_method_42_code
def yX9_fine : MethodName := ⟨RX9, "fine", "(I)I"⟩
abbrev cX9_takeBoth : ByteArray := prog_1_method_43_code
def yX9_takeBoth : MethodName := ⟨RX9, "takeBoth", "(IIIII)I"⟩
abbrev cX9_isToldLength : ByteArray := prog_1_method_44_code
def yX9_isToldLength : MethodName := ⟨RX9, "isToldLength", "(I)Z"⟩
abbrev cX9_isBehind : ByteArray := prog_1_method_45_code
def yX9_isBehind : MethodName := ⟨RX9, "isBehind", "(I)Z"⟩
abbrev cX9_isOneOfTwo : ByteArray := prog_1_method_46_code
def yX9_isOneOfTwo : MethodName := ⟨RX9, "isOneOfTwo", "(I)Z"⟩
abbrev cX9_isImage : ByteArray := prog_1_method_47_code
def yX9_isImage : MethodName := ⟨RX9, "isImage", "(I)Z"⟩
abbrev cX9_isAlso : ByteArray := prog_1_method_48_code
def yX9_isAlso : MethodName := ⟨RX9, "isAlso", "(II)Z"⟩
abbrev cX9_kindAbove : ByteArray := prog_1_method_49_code
def yX9_kindAbove : MethodName := ⟨RX9, "kindAbove", "(I)I"⟩
abbrev cX9_power : ByteArray := prog_1_method_50_code
def yX9_power : MethodName := ⟨RX9, "power", "(II)J"⟩
abbrev cX9_commonDivisor : ByteArray := prog_1_method_51_code
def yX9_commonDivisor : MethodName := ⟨RX9, "commonDivisor", "(JJ)J"⟩
def RX10 : String := "SleepingJudgeModel"
def TX10 : u_T := fun k => match k with
  | 0 => ("SleepingJudgeModel", "thrown", "I", false)
  | 1 => ("SleepingJudgeModel", "status", "I", false)
  | 2 => ("SleepingJudgeModel", "lane", "[I", true)
  | 3 => ("SleepingJudgeModel", "many", "[I", true)
  | 4 => ("SleepingJudgeModel", "item", "[I", true)
  | 5 => ("SleepingJudgeModel", "court", "[I", true)
  | 6 => ("SleepingJudgeModel", "fresh", "[I", true)
  | 7 => ("SleepingJudgeModel", "then", "[I", true)
  | 8 => ("SleepingJudgeModel", "was", "[I", true)
  | 9 => ("SleepingJudgeModel", "acts", "I", false)
  | 10 => ("SleepingJudgeModel", "tape", "[I", true)
  | 11 => ("SleepingJudgeModel", "taped", "I", false)
  | 12 => ("SleepingJudgeModel", "cursor", "I", false)
  | 13 => ("SleepingJudgeModel", "start", "I", false)
  | 14 => ("SleepingJudgeModel", "token", "I", false)
  | 15 => ("SleepingJudgeModel", "value", "I", false)
  | 16 => ("SleepingJudgeModel", "fault", "I", false)
  | 17 => ("SleepingJudgeModel", "faultAt", "I", false)
  | 18 => ("SleepingJudgeModel", "latest", "I", false)
  | 19 => ("SleepingJudgeModel", "here", "[Z", true)
  | 20 => ("SleepingJudgeModel", "next", "[Z", true)
  | 21 => ("SleepingJudgeModel", "far", "[I", true)
  | 22 => ("SleepingJudgeModel", "tried", "[I", true)
  | 23 => ("SleepingJudgeModel", "best", "[I", true)
  | 24 => ("SleepingJudgeModel", "frees", "I", false)
  | 25 => ("SleepingJudgeModel", "guilts", "I", false)
  | 26 => ("SleepingJudgeModel", "byFirst", "[I", true)
  | 27 => ("SleepingJudgeModel", "isKept", "[Z", true)
  | 28 => ("SleepingJudgeModel", "kept", "[I", true)
  | 29 => ("SleepingJudgeModel", "trace", "[I", true)
  | _ => ("SleepingJudgeModel", "traced", "I", false)
def tyX10 : Nat → FieldType := fun k => match k with
  | 0 => .int
  | 1 => .int
  | 2 => .array .int
  | 3 => .array .int
  | 4 => .array .int
  | 5 => .array .int
  | 6 => .array .int
  | 7 => .array .int
  | 8 => .array .int
  | 9 => .int
  | 10 => .array .int
  | 11 => .int
  | 12 => .int
  | 13 => .int
  | 14 => .int
  | 15 => .int
  | 16 => .int
  | 17 => .int
  | 18 => .int
  | 19 => .array .boolean
  | 20 => .array .boolean
  | 21 => .array .int
  | 22 => .array .int
  | 23 => .array .int
  | 24 => .int
  | 25 => .int
  | 26 => .array .int
  | 27 => .array .boolean
  | 28 => .array .int
  | 29 => .array .int
  | _ => .int
theorem nmX10 : ∀ a, a < 31 → ∀ b, b < 31 → a ≠ b → (TX10 a).2.1 ≠ (TX10 b).2.1 := by decide +kernel
theorem tyX10_ok : ∀ k, k < 31 → parseFieldDescriptor (TX10 k).2.2.1 = some (tyX10 k) := by decide +kernel
abbrev cX10_init : ByteArray := prog_12_method_1_code
def yX10_init : MethodName := ⟨RX10, "<init>", "()V"⟩
abbrev cX10_in : ByteArray := prog_12_method_3_code
def yX10_in : MethodName := ⟨RX10, "in", "(JJJ)Z"⟩
abbrev cX10_finding : ByteArray := prog_12_method_4_code
def yX10_finding : MethodName := ⟨RX10, "finding", "(I)I"⟩
abbrev cX10_isRow : ByteArray := prog_12_method_5_code
def yX10_isRow : MethodName := ⟨RX10, "isRow", "(I)Z"⟩
abbrev cX10_row : ByteArray := prog_12_method_6_code
def yX10_row : MethodName := ⟨RX10, "row", "(III)I"⟩
abbrev cX10_set : ByteArray := prog_12_method_7_code
def yX10_set : MethodName := ⟨RX10, "set", "(III)I"⟩
abbrev cX10_copy : ByteArray := prog_12_method_8_code
def yX10_copy : MethodName := ⟨RX10, "copy", "(IIIII)I"⟩
abbrev cX10_drop : ByteArray := prog_12_method_9_code
def yX10_drop : MethodName := ⟨RX10, "drop", "(I)I"⟩
abbrev cX10_feed : ByteArray := prog_12_method_10_code
def yX10_feed : MethodName := ⟨RX10, "feed", "(I)I"⟩
abbrev cX10_bad : ByteArray := prog_12_method_11_code
def yX10_bad : MethodName := ⟨RX10, "bad", "(I)V"⟩
abbrev cX10_nextToken : ByteArray := prog_12_method_12_code
def yX10_nextToken : MethodName := ⟨RX10, "nextToken", "()V"⟩
abbrev cX10_must : ByteArray := prog_12_method_13_code
def yX10_must : MethodName := ⟨RX10, "must", "(Z)V"⟩
abbrev cX10_isLetter : ByteArray := prog_12_method_14_code
def yX10_isLetter : MethodName := ⟨RX10, "isLetter", "(I)Z"⟩
abbrev cX10_number : ByteArray := prog_12_method_15_code
def yX10_number : MethodName := ⟨RX10, "number", "(II)I"⟩
abbrev cX10_mustSign : ByteArray := prog_12_method_16_code
def yX10_mustSign : MethodName := ⟨RX10, "mustSign", "(I)V"⟩
abbrev cX10_begin : ByteArray := prog_12_method_17_code
def yX10_begin : MethodName := ⟨RX10, "begin", "()V"⟩
abbrev cX10_failed : ByteArray := prog_12_method_18_code
def yX10_failed : MethodName := ⟨RX10, "failed", "()Z"⟩
abbrev cX10_fault : ByteArray := prog_12_method_19_code
def yX10_fault : MethodName := ⟨RX10, "fault", "()I"⟩
abbrev cX10_kindBy : ByteArray := prog_12_method_20_code
def yX10_kindBy : MethodName := ⟨RX10, "kindBy", "(I)I"⟩
abbrev cX10_isSort : ByteArray := prog_12_method_21_code
def yX10_isSort : MethodName := ⟨RX10, "isSort", "()Z"⟩
abbrev cX10_isSign : ByteArray := prog_12_method_22_code
def yX10_isSign : MethodName := ⟨RX10, "isSign", "(I)Z"⟩
abbrev cX10_readDream : ByteArray := prog_12_method_23_code
def yX10_readDream : MethodName := ⟨RX10, "readDream", "()V"⟩
abbrev cX10_readHum : ByteArray := prog_12_method_24_code
def yX10_readHum : MethodName := ⟨RX10, "readHum", "()V"⟩
abbrev cX10_readCase : ByteArray := prog_12_method_25_code
def yX10_readCase : MethodName := ⟨RX10, "readCase", "()V"⟩
abbrev cX10_court : ByteArray := prog_12_method_26_code
def yX10_court : MethodName := ⟨RX10, "court", "()I"⟩
abbrev cX10_isThere : ByteArray := prog_12_method_27_code
def yX10_isThere : MethodName := ⟨RX10, "isThere", "()Z"⟩
abbrev cX10_isHum : ByteArray := prog_12_method_28_code
def yX10_isHum : MethodName := ⟨RX10, "isHum", "(I)Z"⟩
abbrev cX10_isCase : ByteArray := prog_12_method_29_code
def yX10_isCase : MethodName := ⟨RX10, "isCase", "(I)Z"⟩
abbrev cX10_isThing : ByteArray := prog_12_method_30_code
def yX10_isThing : MethodName := ⟨RX10, "isThing", "(I)Z"⟩
abbrev cX10_allDreams : ByteArray := prog_12_method_31_code
def yX10_allDreams : MethodName := ⟨RX10, "allDreams", "()I"⟩
abbrev cX10_areThings : ByteArray := prog_12_method_32_code
def yX10_areThings : MethodName := ⟨RX10, "areThings", "(I)Z"⟩
abbrev cX10_bits : ByteArray := prog_12_method_33_code
def yX10_bits : MethodName := ⟨RX10, "bits", "(I)I"⟩
abbrev cX10_has : ByteArray := prog_12_method_34_code
def yX10_has : MethodName := ⟨RX10, "has", "(II)Z"⟩
abbrev cX10_of : ByteArray := prog_12_method_35_code
def yX10_of : MethodName := ⟨RX10, "of", "([III)I"⟩
abbrev cX10_its : ByteArray := prog_12_method_36_code
def yX10_its : MethodName := ⟨RX10, "its", "([III)I"⟩
abbrev cX10_hummed : ByteArray := prog_12_method_37_code
def yX10_hummed : MethodName := ⟨RX10, "hummed", "([III)I"⟩
abbrev cX10_worn : ByteArray := prog_12_method_38_code
def yX10_worn : MethodName := ⟨RX10, "worn", "([II)I"⟩
abbrev cX10_verdict : ByteArray := prog_12_method_39_code
def yX10_verdict : MethodName := ⟨RX10, "verdict", "([III)I"⟩
abbrev cX10_heard : ByteArray := prog_12_method_40_code
def yX10_heard : MethodName := ⟨RX10, "heard", "([II)I"⟩
abbrev cX10_those : ByteArray := prog_12_method_41_code
def yX10_those : MethodName := ⟨RX10, "those", "([II)I"⟩
abbrev cX10_layThen : ByteArray := prog_12_method_42_code
def yX10_layThen : MethodName := ⟨RX10, "layThen", "()V"⟩
abbrev cX10_keep : ByteArray := prog_12_method_43_code
def yX10_keep : MethodName := ⟨RX10, "keep", "()V"⟩
abbrev cX10_hum : ByteArray := prog_12_method_44_code
def yX10_hum : MethodName := ⟨RX10, "hum", "(I)I"⟩
abbrev cX10_hear : ByteArray := prog_12_method_45_code
def yX10_hear : MethodName := ⟨RX10, "hear", "(I)I"⟩
abbrev cX10_appeal : ByteArray := prog_12_method_46_code
def yX10_appeal : MethodName := ⟨RX10, "appeal", "(I)I"⟩
abbrev cX10_forget : ByteArray := prog_12_method_47_code
def yX10_forget : MethodName := ⟨RX10, "forget", "(I)I"⟩
abbrev cX10_learn : ByteArray := prog_12_method_48_code
def yX10_learn : MethodName := ⟨RX10, "learn", "(II)I"⟩
abbrev cX10_undo : ByteArray := prog_12_method_49_code
def yX10_undo : MethodName := ⟨RX10, "undo", "()I"⟩
abbrev cX10_ofHum : ByteArray := prog_12_method_50_code
def yX10_ofHum : MethodName := ⟨RX10, "ofHum", "(II)I"⟩
abbrev cX10_ofCase : ByteArray := prog_12_method_51_code
def yX10_ofCase : MethodName := ⟨RX10, "ofCase", "(II)I"⟩
abbrev cX10_stand : ByteArray := prog_12_method_52_code
def yX10_stand : MethodName := ⟨RX10, "stand", "(I)I"⟩
abbrev cX10_rowFound : ByteArray := prog_12_method_53_code
def yX10_rowFound : MethodName := ⟨RX10, "rowFound", "(III)I"⟩
abbrev cX10_humsFound : ByteArray := prog_12_method_54_code
def yX10_humsFound : MethodName := ⟨RX10, "humsFound", "(III)I"⟩
abbrev cX10_sleep : ByteArray := prog_12_method_55_code
def yX10_sleep : MethodName := ⟨RX10, "sleep", "(III)I"⟩
abbrev cX10_spread : ByteArray := prog_12_method_56_code
def yX10_spread : MethodName := ⟨RX10, "spread", "(I)V"⟩
abbrev cX10_dreams : ByteArray := prog_12_method_57_code
def yX10_dreams : MethodName := ⟨RX10, "dreams", "(II)I"⟩
abbrev cX10_measure : ByteArray := prog_12_method_58_code
def yX10_measure : MethodName := ⟨RX10, "measure", "()V"⟩
abbrev cX10_wayOf : ByteArray := prog_12_method_59_code
def yX10_wayOf : MethodName := ⟨RX10, "wayOf", "(I)I"⟩
abbrev cX10_least : ByteArray := prog_12_method_60_code
def yX10_least : MethodName := ⟨RX10, "least", "(III)I"⟩
abbrev cX10_save : ByteArray := prog_12_method_61_code
def yX10_save : MethodName := ⟨RX10, "save", "(II)I"⟩
abbrev cX10_can : ByteArray := prog_12_method_62_code
def yX10_can : MethodName := ⟨RX10, "can", "(II)I"⟩
abbrev cX10_nextRow : ByteArray := prog_12_method_63_code
def yX10_nextRow : MethodName := ⟨RX10, "nextRow", "(I)Z"⟩
abbrev cX10_tryOrders : ByteArray := prog_12_method_64_code
def yX10_tryOrders : MethodName := ⟨RX10, "tryOrders", "()I"⟩
abbrev cX10_order : ByteArray := prog_12_method_65_code
def yX10_order : MethodName := ⟨RX10, "order", "(I)I"⟩
abbrev cX10_first : ByteArray := prog_12_method_66_code
def yX10_first : MethodName := ⟨RX10, "first", "()I"⟩
abbrev cX10_doClash : ByteArray := prog_12_method_67_code
def yX10_doClash : MethodName := ⟨RX10, "doClash", "(II)Z"⟩
abbrev cX10_clashes : ByteArray := prog_12_method_68_code
def yX10_clashes : MethodName := ⟨RX10, "clashes", "(I)I"⟩
abbrev cX10_deaf : ByteArray := prog_12_method_69_code
def yX10_deaf : MethodName := ⟨RX10, "deaf", "()I"⟩
abbrev cX10_areSame : ByteArray := prog_12_method_70_code
def yX10_areSame : MethodName := ⟨RX10, "areSame", "(II)Z"⟩
abbrev cX10_same : ByteArray := prog_12_method_71_code
def yX10_same : MethodName := ⟨RX10, "same", "(I)I"⟩
abbrev cX10_isSo : ByteArray := prog_12_method_72_code
def yX10_isSo : MethodName := ⟨RX10, "isSo", "(IIII)Z"⟩
abbrev cX10_who : ByteArray := prog_12_method_73_code
def yX10_who : MethodName := ⟨RX10, "who", "(IIIIIII)I"⟩
abbrev cX10_began : ByteArray := prog_12_method_74_code
def yX10_began : MethodName := ⟨RX10, "began", "(IIIIII)I"⟩
abbrev cX10_snored : ByteArray := prog_12_method_75_code
def yX10_snored : MethodName := ⟨RX10, "snored", "(IIII)I"⟩
abbrev cX10_gone : ByteArray := prog_12_method_76_code
def yX10_gone : MethodName := ⟨RX10, "gone", "(III)J"⟩
abbrev cX10_drawn : ByteArray := prog_12_method_77_code
def yX10_drawn : MethodName := ⟨RX10, "drawn", "(III)I"⟩
abbrev cX10_image : ByteArray := prog_12_method_78_code
def yX10_image : MethodName := ⟨RX10, "image", "(I)I"⟩
abbrev cX10_restore : ByteArray := prog_12_method_79_code
def yX10_restore : MethodName := ⟨RX10, "restore", "(I)I"⟩
abbrev cX10_isOf : ByteArray := prog_12_method_80_code
def yX10_isOf : MethodName := ⟨RX10, "isOf", "(II)Z"⟩
abbrev cX10_kind : ByteArray := prog_12_method_81_code
def yX10_kind : MethodName := ⟨RX10, "kind", "(I)I"⟩
abbrev cX10_as : ByteArray := prog_12_method_82_code
def yX10_as : MethodName := ⟨RX10, "as", "(II)I"⟩
abbrev cX10_began0 : ByteArray := prog_12_method_83_code
def yX10_began0 : MethodName := ⟨RX10, "began0", "(I)V"⟩
abbrev cX10_plainSize : ByteArray := prog_12_method_84_code
def yX10_plainSize : MethodName := ⟨RX10, "plainSize", "(I)I"⟩
abbrev cX10_rainSize : ByteArray := prog_12_method_85_code
def yX10_rainSize : MethodName := ⟨RX10, "rainSize", "(I)I"⟩
abbrev cX10_markOf : ByteArray := prog_12_method_86_code
def yX10_markOf : MethodName := ⟨RX10, "markOf", "(I)I"⟩
abbrev cX10_sizeOf : ByteArray := prog_12_method_87_code
def yX10_sizeOf : MethodName := ⟨RX10, "sizeOf", "(I)I"⟩
abbrev cX10_ask : ByteArray := prog_12_method_88_code
def yX10_ask : MethodName := ⟨RX10, "ask", "(II)I"⟩
abbrev cX10_trace : ByteArray := prog_12_method_89_code
def yX10_trace : MethodName := ⟨RX10, "trace", "(I)I"⟩
abbrev cX10_count : ByteArray := prog_12_method_90_code
def yX10_count : MethodName := ⟨RX10, "count", "(I)I"⟩
abbrev cX10_status : ByteArray := prog_12_method_91_code
def yX10_status : MethodName := ⟨RX10, "status", "()I"⟩
def RJ6 : String := "java/lang/Integer"
def TJ6 : u_T := fun k => match k with
  | _ => ("", "", "", false)
def tyJ6 : Nat → FieldType := fun k => match k with
  | _ => .int
abbrev cJ6_bitCount_0f7a4 : ByteArray := prog_13_method_49_code
def yJ6_bitCount_0f7a4 : MethodName := ⟨RJ6, "bitCount", "(I)I"⟩
def RJ9 : String := "java/lang/Math"
def TJ9 : u_T := fun k => match k with
  | _ => ("", "", "", false)
def tyJ9 : Nat → FieldType := fun k => match k with
  | _ => .int
abbrev cJ9_max_7cf53 : ByteArray := prog_14_method_65_code
def yJ9_max_7cf53 : MethodName := ⟨RJ9, "max", "(II)I"⟩
abbrev cJ9_min_7cf53 : ByteArray := prog_14_method_69_code
def yJ9_min_7cf53 : MethodName := ⟨RJ9, "min", "(II)I"⟩
def RJ10 : String := "java/lang/System"
def TJ10 : u_T := fun k => match k with
  | _ => ("", "", "", false)
def tyJ10 : Nat → FieldType := fun k => match k with
  | _ => .int
def RJ7 : String := "java/util/Arrays"
def TJ7 : u_T := fun k => match k with
  | _ => ("", "", "", false)
def tyJ7 : Nat → FieldType := fun k => match k with
  | _ => .int
abbrev cJ7_fill_53178 : ByteArray := prog_16_method_103_code
def yJ7_fill_53178 : MethodName := ⟨RJ7, "fill", "([II)V"⟩
def RL : String := "SleepingJudgeLaw"
abbrev cL_law : ByteArray := code
def yL_law : MethodName := ⟨RL, "law", "([I)Z"⟩
abbrev classes : List vw_C := [(RX0, TX0, 3), (RX1, TX1, 3), (RX2, TX2, 15), (RX3, TX3, 7), (RX4, TX4, 4), (RX5, TX5, 3), (RX6, TX6, 2), (RX7, TX7, 4), (RX8, TX8, 8), (RX9, TX9, 13), (RX10, TX10, 31)]
theorem inX0 : ∀ w ∈ u_ws RX0 TX0 3, w ∈ gw_tbl := by decide +kernel
theorem inX1 : ∀ w ∈ u_ws RX1 TX1 3, w ∈ gw_tbl := by decide +kernel
theorem inX2 : ∀ w ∈ u_ws RX2 TX2 15, w ∈ gw_tbl := by decide +kernel
theorem inX3 : ∀ w ∈ u_ws RX3 TX3 7, w ∈ gw_tbl := by decide +kernel
theorem inX4 : ∀ w ∈ u_ws RX4 TX4 4, w ∈ gw_tbl := by decide +kernel
theorem inX5 : ∀ w ∈ u_ws RX5 TX5 3, w ∈ gw_tbl := by decide +kernel
theorem inX6 : ∀ w ∈ u_ws RX6 TX6 2, w ∈ gw_tbl := by decide +kernel
theorem inX7 : ∀ w ∈ u_ws RX7 TX7 4, w ∈ gw_tbl := by decide +kernel
theorem inX8 : ∀ w ∈ u_ws RX8 TX8 8, w ∈ gw_tbl := by decide +kernel
theorem inX9 : ∀ w ∈ u_ws RX9 TX9 13, w ∈ gw_tbl := by decide +kernel
theorem inX10 : ∀ w ∈ u_ws RX10 TX10 31, w ∈ gw_tbl := by decide +kernel
theorem ini_X0 : Cond.initialized RX0 ∈ gw_tbl := tb 6 (by decide +kernel)
theorem ini_X1 : Cond.initialized RX1 ∈ gw_tbl := tb 10 (by decide +kernel)
theorem ini_X2 : Cond.initialized RX2 ∈ gw_tbl := tb 4 (by decide +kernel)
theorem ini_X3 : Cond.initialized RX3 ∈ gw_tbl := tb 8 (by decide +kernel)
theorem ini_X4 : Cond.initialized RX4 ∈ gw_tbl := tb 5 (by decide +kernel)
theorem ini_X5 : Cond.initialized RX5 ∈ gw_tbl := tb 2 (by decide +kernel)
theorem ini_X6 : Cond.initialized RX6 ∈ gw_tbl := tb 3 (by decide +kernel)
theorem ini_X7 : Cond.initialized RX7 ∈ gw_tbl := tb 9 (by decide +kernel)
theorem ini_X8 : Cond.initialized RX8 ∈ gw_tbl := tb 7 (by decide +kernel)
theorem ini_X9 : Cond.initialized RX9 ∈ gw_tbl := tb 1 (by decide +kernel)
theorem ini_X10 : Cond.initialized RX10 ∈ gw_tbl := tb 11 (by decide +kernel)
theorem ini_J6 : Cond.initialized RJ6 ∈ gw_tbl := tb 15 (by decide +kernel)
theorem ini_J9 : Cond.initialized RJ9 ∈ gw_tbl := tb 14 (by decide +kernel)
theorem ini_J10 : Cond.initialized RJ10 ∈ gw_tbl := tb 13 (by decide +kernel)
theorem ini_J7 : Cond.initialized RJ7 ∈ gw_tbl := tb 12 (by decide +kernel)
def Mb (y : MethodName) (b : ByteArray) (n : Nat) (ret : Option FieldType) (np : Nat) : Prop := Cond.code y b n ret ∈ gw_tbl ∧ Cond.initialized y.cls ∈ gw_tbl ∧ (y.cls ≠ "java/lang/invoke/MethodHandle" ∧ y.cls ≠ "java/lang/invoke/VarHandle" ∧ (parseMethodDescriptor y.desc).map (fun d => d.parameters.length) = some np)
def Mi (y : MethodName) (b : ByteArray) (n : Nat) (ret : Option FieldType) (np : Nat) : Prop := Mb y b n ret np ∧ Cond.instanceMethod y ∈ gw_tbl ∧ Cond.selects y.cls y y ∈ gw_tbl
def Ms (y : MethodName) (b : ByteArray) (n : Nat) (ret : Option FieldType) (np : Nat) : Prop := Mb y b n ret np ∧ Cond.static y ∈ gw_tbl
def Mc (y : MethodName) (b : ByteArray) (n : Nat) (ret : Option FieldType) (np : Nat) : Prop := Mb y b n ret np ∧ Cond.instanceMethod y ∈ gw_tbl
theorem mo_X0_init : Mc yX0_init cX0_init 1 none 0 := ⟨⟨tb 174 (by decide +kernel), ini_X0, by decide +kernel⟩, tb 173 (by decide +kernel)⟩
theorem mo_X0_keep : Mi yX0_keep cX0_keep 2 none 1 := ⟨⟨tb 521 (by decide +kernel), ini_X0, by decide +kernel⟩, tb 519 (by decide +kernel), tb 520 (by decide +kernel)⟩
theorem mo_X0_takeBack : Mi yX0_takeBack cX0_takeBack 2 (some .int) 1 := ⟨⟨tb 505 (by decide +kernel), ini_X0, by decide +kernel⟩, tb 503 (by decide +kernel), tb 504 (by decide +kernel)⟩
theorem mo_X0_clear : Mi yX0_clear cX0_clear 1 none 0 := ⟨⟨tb 492 (by decide +kernel), ini_X0, by decide +kernel⟩, tb 490 (by decide +kernel), tb 491 (by decide +kernel)⟩
theorem mo_X1_init : Mc yX1_init cX1_init 2 none 1 := ⟨⟨tb 274 (by decide +kernel), ini_X1, by decide +kernel⟩, tb 273 (by decide +kernel)⟩
theorem mo_X1_answer : Mi yX1_answer cX1_answer 3 (some .int) 2 := ⟨⟨tb 904 (by decide +kernel), ini_X1, by decide +kernel⟩, tb 902 (by decide +kernel), tb 903 (by decide +kernel)⟩
theorem mo_X1_sizeBody : Mi yX1_sizeBody cX1_sizeBody 2 (some .int) 1 := ⟨⟨tb 908 (by decide +kernel), ini_X1, by decide +kernel⟩, tb 907 (by decide +kernel), pv 27 (by decide +kernel)⟩
theorem mo_X1_markBody : Mi yX1_markBody cX1_markBody 2 (some .int) 1 := ⟨⟨tb 914 (by decide +kernel), ini_X1, by decide +kernel⟩, tb 913 (by decide +kernel), pv 28 (by decide +kernel)⟩
theorem mo_X1_begin : Mi yX1_begin cX1_begin 5 (some .int) 3 := ⟨⟨tb 920 (by decide +kernel), ini_X1, by decide +kernel⟩, tb 919 (by decide +kernel), pv 29 (by decide +kernel)⟩
theorem mo_X1_leave : Mi yX1_leave cX1_leave 2 none 1 := ⟨⟨tb 924 (by decide +kernel), ini_X1, by decide +kernel⟩, tb 923 (by decide +kernel), pv 30 (by decide +kernel)⟩
theorem mo_X2_init : Mc yX2_init cX2_init 1 none 0 := ⟨⟨tb 63 (by decide +kernel), ini_X2, by decide +kernel⟩, tb 62 (by decide +kernel)⟩
theorem mo_X2_clear : Mi yX2_clear cX2_clear 1 none 0 := ⟨⟨tb 421 (by decide +kernel), ini_X2, by decide +kernel⟩, tb 419 (by decide +kernel), tb 420 (by decide +kernel)⟩
theorem mo_X2_become : Mi yX2_become cX2_become 2 none 1 := ⟨⟨tb 487 (by decide +kernel), ini_X2, by decide +kernel⟩, tb 485 (by decide +kernel), tb 486 (by decide +kernel)⟩
theorem mo_X2_writeChanging : Mi yX2_writeChanging cX2_writeChanging 3 none 2 := ⟨⟨tb 525 (by decide +kernel), ini_X2, by decide +kernel⟩, tb 523 (by decide +kernel), tb 524 (by decide +kernel)⟩
theorem mo_X2_readChanging : Mi yX2_readChanging cX2_readChanging 3 none 2 := ⟨⟨tb 509 (by decide +kernel), ini_X2, by decide +kernel⟩, tb 507 (by decide +kernel), tb 508 (by decide +kernel)⟩
theorem mo_X2_isTold : Mi yX2_isTold cX2_isTold 1 (some .boolean) 0 := ⟨⟨tb 598 (by decide +kernel), ini_X2, by decide +kernel⟩, tb 596 (by decide +kernel), tb 597 (by decide +kernel)⟩
theorem mo_X2_isHum : Mi yX2_isHum cX2_isHum 2 (some .boolean) 1 := ⟨⟨tb 517 (by decide +kernel), ini_X2, by decide +kernel⟩, tb 515 (by decide +kernel), tb 516 (by decide +kernel)⟩
theorem mo_X2_isCase : Mi yX2_isCase cX2_isCase 2 (some .boolean) 1 := ⟨⟨tb 548 (by decide +kernel), ini_X2, by decide +kernel⟩, tb 546 (by decide +kernel), tb 547 (by decide +kernel)⟩
theorem mo_X2_isThing : Mi yX2_isThing cX2_isThing 2 (some .boolean) 1 := ⟨⟨tb 578 (by decide +kernel), ini_X2, by decide +kernel⟩, tb 576 (by decide +kernel), tb 577 (by decide +kernel)⟩
theorem mo_X2_isDream : Mi yX2_isDream cX2_isDream 2 (some .boolean) 1 := ⟨⟨tb 672 (by decide +kernel), ini_X2, by decide +kernel⟩, tb 670 (by decide +kernel), tb 671 (by decide +kernel)⟩
theorem mo_X2_dreamCount : Mi yX2_dreamCount cX2_dreamCount 1 (some .int) 0 := ⟨⟨tb 641 (by decide +kernel), ini_X2, by decide +kernel⟩, tb 639 (by decide +kernel), tb 640 (by decide +kernel)⟩
theorem mo_X2_by : Mi yX2_by cX2_by 3 (some .int) 2 := ⟨⟨tb 532 (by decide +kernel), ini_X2, by decide +kernel⟩, tb 530 (by decide +kernel), tb 531 (by decide +kernel)⟩
theorem mo_X2_byKind : Mi yX2_byKind cX2_byKind 8 (some .int) 4 := ⟨⟨tb 536 (by decide +kernel), ini_X2, by decide +kernel⟩, tb 534 (by decide +kernel), tb 535 (by decide +kernel)⟩
theorem mo_X2_thingBehind : Mi yX2_thingBehind cX2_thingBehind 2 (some .int) 1 := ⟨⟨tb 540 (by decide +kernel), ini_X2, by decide +kernel⟩, tb 539 (by decide +kernel), pv 14 (by decide +kernel)⟩
theorem mo_X2_verdict : Mi yX2_verdict cX2_verdict 3 (some .int) 2 := ⟨⟨tb 552 (by decide +kernel), ini_X2, by decide +kernel⟩, tb 550 (by decide +kernel), tb 551 (by decide +kernel)⟩
theorem mo_X2_judged : Mi yX2_judged cX2_judged 3 (some .int) 2 := ⟨⟨tb 557 (by decide +kernel), ini_X2, by decide +kernel⟩, tb 555 (by decide +kernel), tb 556 (by decide +kernel)⟩
theorem mo_X2_dreamHeard : Mi yX2_dreamHeard cX2_dreamHeard 3 (some .int) 2 := ⟨⟨tb 561 (by decide +kernel), ini_X2, by decide +kernel⟩, tb 559 (by decide +kernel), tb 560 (by decide +kernel)⟩
theorem mo_X2_worn : Mi yX2_worn cX2_worn 5 (some .int) 1 := ⟨⟨tb 565 (by decide +kernel), ini_X2, by decide +kernel⟩, tb 564 (by decide +kernel), pv 15 (by decide +kernel)⟩
theorem mo_X2_casesThatAre : Mi yX2_casesThatAre cX2_casesThatAre 4 (some .int) 1 := ⟨⟨tb 602 (by decide +kernel), ini_X2, by decide +kernel⟩, tb 600 (by decide +kernel), tb 601 (by decide +kernel)⟩
theorem mo_X2_pairs : Mi yX2_pairs cX2_pairs 7 (some .int) 2 := ⟨⟨tb 757 (by decide +kernel), ini_X2, by decide +kernel⟩, tb 755 (by decide +kernel), tb 756 (by decide +kernel)⟩
theorem mo_X2_clash : Mi yX2_clash cX2_clash 3 (some .boolean) 2 := ⟨⟨tb 765 (by decide +kernel), ini_X2, by decide +kernel⟩, tb 764 (by decide +kernel), pv 22 (by decide +kernel)⟩
theorem mo_X2_deafHums : Mi yX2_deafHums cX2_deafHums 3 (some .int) 0 := ⟨⟨tb 774 (by decide +kernel), ini_X2, by decide +kernel⟩, tb 772 (by decide +kernel), tb 773 (by decide +kernel)⟩
theorem mo_X2_doTheSame : Mi yX2_doTheSame cX2_doTheSame 4 (some .boolean) 2 := ⟨⟨tb 761 (by decide +kernel), ini_X2, by decide +kernel⟩, tb 760 (by decide +kernel), pv 21 (by decide +kernel)⟩
theorem mo_X2_freeParts : Mi yX2_freeParts cX2_freeParts 7 (some .long) 2 := ⟨⟨tb 848 (by decide +kernel), ini_X2, by decide +kernel⟩, tb 846 (by decide +kernel), tb 847 (by decide +kernel)⟩
theorem mo_X2_drawTerms : Mi yX2_drawTerms cX2_drawTerms 6 none 2 := ⟨⟨tb 863 (by decide +kernel), ini_X2, by decide +kernel⟩, tb 861 (by decide +kernel), tb 862 (by decide +kernel)⟩
theorem mo_X2_hearIfOpen : Mi yX2_hearIfOpen cX2_hearIfOpen 2 none 1 := ⟨⟨tb 870 (by decide +kernel), ini_X2, by decide +kernel⟩, tb 869 (by decide +kernel), pv 26 (by decide +kernel)⟩
theorem mo_X3_init : Mc yX3_init cX3_init 2 none 1 := ⟨⟨tb 223 (by decide +kernel), ini_X3, by decide +kernel⟩, tb 222 (by decide +kernel)⟩
theorem mo_X3_tryAll : Mi yX3_tryAll cX3_tryAll 2 none 0 := ⟨⟨tb 714 (by decide +kernel), ini_X3, by decide +kernel⟩, tb 712 (by decide +kernel), tb 713 (by decide +kernel)⟩
theorem mo_X3_tryBehind : Mi yX3_tryBehind cX3_tryBehind 8 none 5 := ⟨⟨tb 726 (by decide +kernel), ini_X3, by decide +kernel⟩, tb 725 (by decide +kernel), pv 19 (by decide +kernel)⟩
theorem mo_X3_compare : Mi yX3_compare cX3_compare 3 none 2 := ⟨⟨tb 730 (by decide +kernel), ini_X3, by decide +kernel⟩, tb 729 (by decide +kernel), pv 20 (by decide +kernel)⟩
theorem mo_X3_bestToBegin : Mi yX3_bestToBegin cX3_bestToBegin 4 (some .int) 0 := ⟨⟨tb 745 (by decide +kernel), ini_X3, by decide +kernel⟩, tb 743 (by decide +kernel), tb 744 (by decide +kernel)⟩
theorem mo_X4_init : Mc yX4_init cX4_init 3 none 2 := ⟨⟨tb 153 (by decide +kernel), ini_X4, by decide +kernel⟩, tb 152 (by decide +kernel)⟩
theorem mo_X4_readAll : Mi yX4_readAll cX4_readAll 1 none 0 := ⟨⟨tb 417 (by decide +kernel), ini_X4, by decide +kernel⟩, tb 415 (by decide +kernel), tb 416 (by decide +kernel)⟩
theorem mo_X4_readLaw : Mi yX4_readLaw cX4_readLaw 1 none 0 := ⟨⟨tb 426 (by decide +kernel), ini_X4, by decide +kernel⟩, tb 425 (by decide +kernel), pv 2 (by decide +kernel)⟩
theorem mo_X4_readDream : Mi yX4_readDream cX4_readDream 2 none 0 := ⟨⟨tb 454 (by decide +kernel), ini_X4, by decide +kernel⟩, tb 453 (by decide +kernel), pv 7 (by decide +kernel)⟩
theorem mo_X4_readHums : Mi yX4_readHums cX4_readHums 2 none 0 := ⟨⟨tb 462 (by decide +kernel), ini_X4, by decide +kernel⟩, tb 461 (by decide +kernel), pv 9 (by decide +kernel)⟩
theorem mo_X4_readHum : Mi yX4_readHum cX4_readHum 2 none 0 := ⟨⟨tb 470 (by decide +kernel), ini_X4, by decide +kernel⟩, tb 469 (by decide +kernel), pv 11 (by decide +kernel)⟩
theorem mo_X4_readCases : Mi yX4_readCases cX4_readCases 2 none 0 := ⟨⟨tb 474 (by decide +kernel), ini_X4, by decide +kernel⟩, tb 473 (by decide +kernel), pv 12 (by decide +kernel)⟩
theorem mo_X4_readCase : Mi yX4_readCase cX4_readCase 3 none 0 := ⟨⟨tb 478 (by decide +kernel), ini_X4, by decide +kernel⟩, tb 477 (by decide +kernel), pv 13 (by decide +kernel)⟩
theorem mo_X4_thing : Mi yX4_thing cX4_thing 1 (some .int) 0 := ⟨⟨tb 458 (by decide +kernel), ini_X4, by decide +kernel⟩, tb 457 (by decide +kernel), pv 8 (by decide +kernel)⟩
theorem mo_X4_isNext : Mi yX4_isNext cX4_isNext 2 (some .boolean) 1 := ⟨⟨tb 434 (by decide +kernel), ini_X4, by decide +kernel⟩, tb 433 (by decide +kernel), pv 4 (by decide +kernel)⟩
theorem mo_X4_kindNext : Mi yX4_kindNext cX4_kindNext 1 (some .int) 0 := ⟨⟨tb 466 (by decide +kernel), ini_X4, by decide +kernel⟩, tb 465 (by decide +kernel), pv 10 (by decide +kernel)⟩
theorem mo_X4_mark : Mi yX4_mark cX4_mark 2 none 1 := ⟨⟨tb 442 (by decide +kernel), ini_X4, by decide +kernel⟩, tb 441 (by decide +kernel), pv 5 (by decide +kernel)⟩
theorem mo_X4_pass : Mi yX4_pass cX4_pass 2 none 1 := ⟨⟨tb 430 (by decide +kernel), ini_X4, by decide +kernel⟩, tb 429 (by decide +kernel), pv 3 (by decide +kernel)⟩
theorem mo_X4_number : Mi yX4_number cX4_number 5 (some .int) 2 := ⟨⟨tb 446 (by decide +kernel), ini_X4, by decide +kernel⟩, tb 445 (by decide +kernel), pv 6 (by decide +kernel)⟩
theorem mo_X5_init : Mc yX5_init cX5_init 1 none 0 := ⟨⟨tb 28 (by decide +kernel), ini_X5, by decide +kernel⟩, tb 27 (by decide +kernel)⟩
theorem mo_X5_isRow : Mi yX5_isRow cX5_isRow 2 (some .boolean) 1 := ⟨⟨tb 335 (by decide +kernel), ini_X5, by decide +kernel⟩, tb 333 (by decide +kernel), tb 334 (by decide +kernel)⟩
theorem mo_X5_isLane : Mi yX5_isLane cX5_isLane 2 (some .boolean) 1 := ⟨⟨tb 339 (by decide +kernel), ini_X5, by decide +kernel⟩, tb 337 (by decide +kernel), tb 338 (by decide +kernel)⟩
theorem mo_X5_isMissing : Mi yX5_isMissing cX5_isMissing 2 (some .boolean) 1 := ⟨⟨tb 368 (by decide +kernel), ini_X5, by decide +kernel⟩, tb 366 (by decide +kernel), tb 367 (by decide +kernel)⟩
theorem mo_X5_areAlike : Mi yX5_areAlike cX5_areAlike 3 (some .boolean) 2 := ⟨⟨tb 381 (by decide +kernel), ini_X5, by decide +kernel⟩, tb 379 (by decide +kernel), tb 380 (by decide +kernel)⟩
theorem mo_X5_lookedAt : Mi yX5_lookedAt cX5_lookedAt 4 (some .int) 3 := ⟨⟨tb 364 (by decide +kernel), ini_X5, by decide +kernel⟩, tb 362 (by decide +kernel), tb 363 (by decide +kernel)⟩
theorem mo_X5_make : Mi yX5_make cX5_make 4 none 3 := ⟨⟨tb 349 (by decide +kernel), ini_X5, by decide +kernel⟩, tb 347 (by decide +kernel), tb 348 (by decide +kernel)⟩
theorem mo_X5_put : Mi yX5_put cX5_put 4 (some .int) 3 := ⟨⟨tb 372 (by decide +kernel), ini_X5, by decide +kernel⟩, tb 370 (by decide +kernel), tb 371 (by decide +kernel)⟩
theorem mo_X5_move : Mi yX5_move cX5_move 6 none 5 := ⟨⟨tb 385 (by decide +kernel), ini_X5, by decide +kernel⟩, tb 383 (by decide +kernel), tb 384 (by decide +kernel)⟩
theorem mo_X5_remove : Mi yX5_remove cX5_remove 2 (some .int) 1 := ⟨⟨tb 396 (by decide +kernel), ini_X5, by decide +kernel⟩, tb 394 (by decide +kernel), tb 395 (by decide +kernel)⟩
theorem mo_X5_howMany : Mi yX5_howMany cX5_howMany 3 (some .int) 0 := ⟨⟨tb 937 (by decide +kernel), ini_X5, by decide +kernel⟩, tb 935 (by decide +kernel), tb 936 (by decide +kernel)⟩
theorem mo_X6_init : Mc yX6_init cX6_init 1 none 0 := ⟨⟨tb 48 (by decide +kernel), ini_X6, by decide +kernel⟩, tb 47 (by decide +kernel)⟩
theorem mo_X6_isFull : Mi yX6_isFull cX6_isFull 1 (some .boolean) 0 := ⟨⟨tb 404 (by decide +kernel), ini_X6, by decide +kernel⟩, tb 402 (by decide +kernel), tb 403 (by decide +kernel)⟩
theorem mo_X6_add : Mi yX6_add cX6_add 2 (some .int) 1 := ⟨⟨tb 409 (by decide +kernel), ini_X6, by decide +kernel⟩, tb 407 (by decide +kernel), tb 408 (by decide +kernel)⟩
theorem mo_X6_at : Mi yX6_at cX6_at 2 (some .int) 1 := ⟨⟨tb 438 (by decide +kernel), ini_X6, by decide +kernel⟩, tb 436 (by decide +kernel), tb 437 (by decide +kernel)⟩
theorem mo_X6_isFigure : Mi yX6_isFigure cX6_isFigure 2 (some .boolean) 1 := ⟨⟨tb 450 (by decide +kernel), ini_X6, by decide +kernel⟩, tb 448 (by decide +kernel), tb 449 (by decide +kernel)⟩
theorem mo_X6_clear : Mi yX6_clear cX6_clear 1 none 0 := ⟨⟨tb 482 (by decide +kernel), ini_X6, by decide +kernel⟩, tb 480 (by decide +kernel), tb 481 (by decide +kernel)⟩
theorem mo_X7_init : Mc yX7_init cX7_init 2 none 1 := ⟨⟨tb 255 (by decide +kernel), ini_X7, by decide +kernel⟩, tb 254 (by decide +kernel)⟩
theorem mo_X7_takeHums : Mi yX7_takeHums cX7_takeHums 7 (some .int) 4 := ⟨⟨tb 613 (by decide +kernel), ini_X7, by decide +kernel⟩, tb 611 (by decide +kernel), tb 612 (by decide +kernel)⟩
theorem mo_X7_takeDreams : Mi yX7_takeDreams cX7_takeDreams 6 (some .int) 4 := ⟨⟨tb 790 (by decide +kernel), ini_X7, by decide +kernel⟩, tb 788 (by decide +kernel), tb 789 (by decide +kernel)⟩
theorem mo_X7_lastDream : Mi yX7_lastDream cX7_lastDream 4 (some .int) 1 := ⟨⟨tb 620 (by decide +kernel), ini_X7, by decide +kernel⟩, tb 618 (by decide +kernel), tb 619 (by decide +kernel)⟩
theorem mo_X7_placesNotHummed : Mi yX7_placesNotHummed cX7_placesNotHummed 4 (some .int) 1 := ⟨⟨tb 834 (by decide +kernel), ini_X7, by decide +kernel⟩, tb 832 (by decide +kernel), tb 833 (by decide +kernel)⟩
theorem mo_X7_kindsThatFit : Mi yX7_kindsThatFit cX7_kindsThatFit 4 (some .int) 1 := ⟨⟨tb 795 (by decide +kernel), ini_X7, by decide +kernel⟩, tb 793 (by decide +kernel), tb 794 (by decide +kernel)⟩
theorem mo_X7_thingsThatFit : Mi yX7_thingsThatFit cX7_thingsThatFit 4 (some .int) 1 := ⟨⟨tb 804 (by decide +kernel), ini_X7, by decide +kernel⟩, tb 802 (by decide +kernel), tb 803 (by decide +kernel)⟩
theorem mo_X7_othersThatFit : Mi yX7_othersThatFit cX7_othersThatFit 4 (some .int) 1 := ⟨⟨tb 808 (by decide +kernel), ini_X7, by decide +kernel⟩, tb 806 (by decide +kernel), tb 807 (by decide +kernel)⟩
theorem mo_X7_howManyBegan : Mi yX7_howManyBegan cX7_howManyBegan 3 (some .int) 0 := ⟨⟨tb 816 (by decide +kernel), ini_X7, by decide +kernel⟩, tb 814 (by decide +kernel), tb 815 (by decide +kernel)⟩
theorem mo_X7_leastBegan : Mi yX7_leastBegan cX7_leastBegan 2 (some .int) 0 := ⟨⟨tb 825 (by decide +kernel), ini_X7, by decide +kernel⟩, tb 823 (by decide +kernel), tb 824 (by decide +kernel)⟩
theorem mo_X7_fitsAsItIs : Mi yX7_fitsAsItIs cX7_fitsAsItIs 2 (some .boolean) 1 := ⟨⟨tb 821 (by decide +kernel), ini_X7, by decide +kernel⟩, tb 820 (by decide +kernel), pv 25 (by decide +kernel)⟩
theorem mo_X7_fits : Mi yX7_fits cX7_fits 8 (some .boolean) 5 := ⟨⟨tb 799 (by decide +kernel), ini_X7, by decide +kernel⟩, tb 798 (by decide +kernel), pv 24 (by decide +kernel)⟩
theorem mo_X8_init : Mc yX8_init cX8_init 2 none 1 := ⟨⟨tb 192 (by decide +kernel), ini_X8, by decide +kernel⟩, tb 191 (by decide +kernel)⟩
theorem mo_X8_howManyBehind : Mi yX8_howManyBehind cX8_howManyBehind 4 (some .int) 1 := ⟨⟨tb 632 (by decide +kernel), ini_X8, by decide +kernel⟩, tb 630 (by decide +kernel), tb 631 (by decide +kernel)⟩
theorem mo_X8_inAllBehind : Mi yX8_inAllBehind cX8_inAllBehind 4 (some .int) 1 := ⟨⟨tb 651 (by decide +kernel), ini_X8, by decide +kernel⟩, tb 649 (by decide +kernel), tb 650 (by decide +kernel)⟩
theorem mo_X8_inAnyBehind : Mi yX8_inAnyBehind cX8_inAnyBehind 4 (some .int) 1 := ⟨⟨tb 655 (by decide +kernel), ini_X8, by decide +kernel⟩, tb 653 (by decide +kernel), tb 654 (by decide +kernel)⟩
theorem mo_X8_leastBehind : Mi yX8_leastBehind cX8_leastBehind 3 (some .int) 1 := ⟨⟨tb 659 (by decide +kernel), ini_X8, by decide +kernel⟩, tb 657 (by decide +kernel), tb 658 (by decide +kernel)⟩
theorem mo_X8_greatestBehind : Mi yX8_greatestBehind cX8_greatestBehind 3 (some .int) 1 := ⟨⟨tb 664 (by decide +kernel), ini_X8, by decide +kernel⟩, tb 662 (by decide +kernel), tb 663 (by decide +kernel)⟩
theorem mo_X8_goBehind : Mi yX8_goBehind cX8_goBehind 4 none 1 := ⟨⟨tb 636 (by decide +kernel), ini_X8, by decide +kernel⟩, tb 635 (by decide +kernel), pv 16 (by decide +kernel)⟩
theorem mo_X8_markBehind : Mi yX8_markBehind cX8_markBehind 3 none 1 := ⟨⟨tb 645 (by decide +kernel), ini_X8, by decide +kernel⟩, tb 644 (by decide +kernel), pv 17 (by decide +kernel)⟩
theorem mo_X8_goWithin : Mi yX8_goWithin cX8_goWithin 4 none 1 := ⟨⟨tb 677 (by decide +kernel), ini_X8, by decide +kernel⟩, tb 675 (by decide +kernel), tb 676 (by decide +kernel)⟩
theorem mo_X8_meet : Mi yX8_meet cX8_meet 5 none 4 := ⟨⟨tb 681 (by decide +kernel), ini_X8, by decide +kernel⟩, tb 680 (by decide +kernel), pv 18 (by decide +kernel)⟩
theorem mo_X8_firstWith : Mi yX8_firstWith cX8_firstWith 4 (some .int) 2 := ⟨⟨tb 685 (by decide +kernel), ini_X8, by decide +kernel⟩, tb 683 (by decide +kernel), tb 684 (by decide +kernel)⟩
theorem mo_X8_firstFree : Mi yX8_firstFree cX8_firstFree 3 (some .int) 1 := ⟨⟨tb 697 (by decide +kernel), ini_X8, by decide +kernel⟩, tb 695 (by decide +kernel), tb 696 (by decide +kernel)⟩
theorem mo_X8_humOfRowTo : Mi yX8_humOfRowTo cX8_humOfRowTo 5 (some .int) 2 := ⟨⟨tb 689 (by decide +kernel), ini_X8, by decide +kernel⟩, tb 687 (by decide +kernel), tb 688 (by decide +kernel)⟩
theorem mo_X8_verdictsMet : Mi yX8_verdictsMet cX8_verdictsMet 4 (some .int) 1 := ⟨⟨tb 706 (by decide +kernel), ini_X8, by decide +kernel⟩, tb 704 (by decide +kernel), tb 705 (by decide +kernel)⟩
theorem mo_X9_init : Mc yX9_init cX9_init 1 none 0 := ⟨⟨tb 20 (by decide +kernel), ini_X9, by decide +kernel⟩, tb 19 (by decide +kernel)⟩
theorem mo_X9_row : Mi yX9_row cX9_row 4 (some .int) 3 := ⟨⟨tb 331 (by decide +kernel), ini_X9, by decide +kernel⟩, tb 329 (by decide +kernel), tb 330 (by decide +kernel)⟩
theorem mo_X9_set : Mi yX9_set cX9_set 5 (some .int) 3 := ⟨⟨tb 360 (by decide +kernel), ini_X9, by decide +kernel⟩, tb 358 (by decide +kernel), tb 359 (by decide +kernel)⟩
theorem mo_X9_copy : Mi yX9_copy cX9_copy 6 (some .int) 5 := ⟨⟨tb 376 (by decide +kernel), ini_X9, by decide +kernel⟩, tb 374 (by decide +kernel), tb 375 (by decide +kernel)⟩
theorem mo_X9_drop : Mi yX9_drop cX9_drop 2 (some .int) 1 := ⟨⟨tb 392 (by decide +kernel), ini_X9, by decide +kernel⟩, tb 390 (by decide +kernel), tb 391 (by decide +kernel)⟩
theorem mo_X9_feed : Mi yX9_feed cX9_feed 2 (some .int) 1 := ⟨⟨tb 400 (by decide +kernel), ini_X9, by decide +kernel⟩, tb 398 (by decide +kernel), tb 399 (by decide +kernel)⟩
theorem mo_X9_court : Mi yX9_court cX9_court 1 (some .int) 0 := ⟨⟨tb 413 (by decide +kernel), ini_X9, by decide +kernel⟩, tb 411 (by decide +kernel), tb 412 (by decide +kernel)⟩
theorem mo_X9_fault : Mi yX9_fault cX9_fault 1 (some .int) 0 := ⟨⟨tb 496 (by decide +kernel), ini_X9, by decide +kernel⟩, tb 494 (by decide +kernel), tb 495 (by decide +kernel)⟩
theorem mo_X9_undo : Mi yX9_undo cX9_undo 1 (some .int) 0 := ⟨⟨tb 500 (by decide +kernel), ini_X9, by decide +kernel⟩, tb 498 (by decide +kernel), tb 499 (by decide +kernel)⟩
theorem mo_X9_hum : Mi yX9_hum cX9_hum 2 (some .int) 1 := ⟨⟨tb 513 (by decide +kernel), ini_X9, by decide +kernel⟩, tb 511 (by decide +kernel), tb 512 (by decide +kernel)⟩
theorem mo_X9_hear : Mi yX9_hear cX9_hear 3 (some .int) 1 := ⟨⟨tb 544 (by decide +kernel), ini_X9, by decide +kernel⟩, tb 542 (by decide +kernel), tb 543 (by decide +kernel)⟩
theorem mo_X9_appeal : Mi yX9_appeal cX9_appeal 3 (some .int) 1 := ⟨⟨tb 569 (by decide +kernel), ini_X9, by decide +kernel⟩, tb 567 (by decide +kernel), tb 568 (by decide +kernel)⟩
theorem mo_X9_forget : Mi yX9_forget cX9_forget 2 (some .int) 1 := ⟨⟨tb 574 (by decide +kernel), ini_X9, by decide +kernel⟩, tb 572 (by decide +kernel), tb 573 (by decide +kernel)⟩
theorem mo_X9_learn : Mi yX9_learn cX9_learn 4 (some .int) 2 := ⟨⟨tb 582 (by decide +kernel), ini_X9, by decide +kernel⟩, tb 580 (by decide +kernel), tb 581 (by decide +kernel)⟩
theorem mo_X9_ofHum : Mi yX9_ofHum cX9_ofHum 3 (some .int) 2 := ⟨⟨tb 586 (by decide +kernel), ini_X9, by decide +kernel⟩, tb 584 (by decide +kernel), tb 585 (by decide +kernel)⟩
theorem mo_X9_ofCase : Mi yX9_ofCase cX9_ofCase 3 (some .int) 2 := ⟨⟨tb 590 (by decide +kernel), ini_X9, by decide +kernel⟩, tb 588 (by decide +kernel), tb 589 (by decide +kernel)⟩
theorem mo_X9_stand : Mi yX9_stand cX9_stand 2 (some .int) 1 := ⟨⟨tb 594 (by decide +kernel), ini_X9, by decide +kernel⟩, tb 592 (by decide +kernel), tb 593 (by decide +kernel)⟩
theorem mo_X9_sleep : Mi yX9_sleep cX9_sleep 5 (some .int) 3 := ⟨⟨tb 606 (by decide +kernel), ini_X9, by decide +kernel⟩, tb 604 (by decide +kernel), tb 605 (by decide +kernel)⟩
theorem mo_X9_dreams : Mi yX9_dreams cX9_dreams 3 (some .int) 2 := ⟨⟨tb 625 (by decide +kernel), ini_X9, by decide +kernel⟩, tb 623 (by decide +kernel), tb 624 (by decide +kernel)⟩
theorem mo_X9_least : Mi yX9_least cX9_least 4 (some .int) 3 := ⟨⟨tb 668 (by decide +kernel), ini_X9, by decide +kernel⟩, tb 666 (by decide +kernel), tb 667 (by decide +kernel)⟩
theorem mo_X9_save : Mi yX9_save cX9_save 3 (some .int) 2 := ⟨⟨tb 693 (by decide +kernel), ini_X9, by decide +kernel⟩, tb 691 (by decide +kernel), tb 692 (by decide +kernel)⟩
theorem mo_X9_can : Mi yX9_can cX9_can 3 (some .int) 2 := ⟨⟨tb 702 (by decide +kernel), ini_X9, by decide +kernel⟩, tb 700 (by decide +kernel), tb 701 (by decide +kernel)⟩
theorem mo_X9_order : Mi yX9_order cX9_order 2 (some .int) 1 := ⟨⟨tb 710 (by decide +kernel), ini_X9, by decide +kernel⟩, tb 708 (by decide +kernel), tb 709 (by decide +kernel)⟩
theorem mo_X9_first : Mi yX9_first cX9_first 1 (some .int) 0 := ⟨⟨tb 741 (by decide +kernel), ini_X9, by decide +kernel⟩, tb 739 (by decide +kernel), tb 740 (by decide +kernel)⟩
theorem mo_X9_clashes : Mi yX9_clashes cX9_clashes 2 (some .int) 1 := ⟨⟨tb 750 (by decide +kernel), ini_X9, by decide +kernel⟩, tb 748 (by decide +kernel), tb 749 (by decide +kernel)⟩
theorem mo_X9_deaf : Mi yX9_deaf cX9_deaf 1 (some .int) 0 := ⟨⟨tb 770 (by decide +kernel), ini_X9, by decide +kernel⟩, tb 768 (by decide +kernel), tb 769 (by decide +kernel)⟩
theorem mo_X9_same : Mi yX9_same cX9_same 2 (some .int) 1 := ⟨⟨tb 778 (by decide +kernel), ini_X9, by decide +kernel⟩, tb 776 (by decide +kernel), tb 777 (by decide +kernel)⟩
theorem mo_X9_who : Mi yX9_who cX9_who 9 (some .int) 7 := ⟨⟨tb 782 (by decide +kernel), ini_X9, by decide +kernel⟩, tb 780 (by decide +kernel), tb 781 (by decide +kernel)⟩
theorem mo_X9_began : Mi yX9_began cX9_began 8 (some .int) 6 := ⟨⟨tb 812 (by decide +kernel), ini_X9, by decide +kernel⟩, tb 810 (by decide +kernel), tb 811 (by decide +kernel)⟩
theorem mo_X9_snored : Mi yX9_snored cX9_snored 6 (some .int) 4 := ⟨⟨tb 830 (by decide +kernel), ini_X9, by decide +kernel⟩, tb 828 (by decide +kernel), tb 829 (by decide +kernel)⟩
theorem mo_X9_gone : Mi yX9_gone cX9_gone 10 (some .long) 3 := ⟨⟨tb 839 (by decide +kernel), ini_X9, by decide +kernel⟩, tb 837 (by decide +kernel), tb 838 (by decide +kernel)⟩
theorem mo_X9_drawn : Mi yX9_drawn cX9_drawn 4 (some .int) 3 := ⟨⟨tb 858 (by decide +kernel), ini_X9, by decide +kernel⟩, tb 856 (by decide +kernel), tb 857 (by decide +kernel)⟩
theorem mo_X9_image : Mi yX9_image cX9_image 2 (some .int) 1 := ⟨⟨tb 875 (by decide +kernel), ini_X9, by decide +kernel⟩, tb 873 (by decide +kernel), tb 874 (by decide +kernel)⟩
theorem mo_X9_restore : Mi yX9_restore cX9_restore 2 (some .int) 1 := ⟨⟨tb 882 (by decide +kernel), ini_X9, by decide +kernel⟩, tb 880 (by decide +kernel), tb 881 (by decide +kernel)⟩
theorem mo_X9_kind : Mi yX9_kind cX9_kind 2 (some .int) 1 := ⟨⟨tb 886 (by decide +kernel), ini_X9, by decide +kernel⟩, tb 884 (by decide +kernel), tb 885 (by decide +kernel)⟩
theorem mo_X9_as : Mi yX9_as cX9_as 3 (some .int) 2 := ⟨⟨tb 890 (by decide +kernel), ini_X9, by decide +kernel⟩, tb 888 (by decide +kernel), tb 889 (by decide +kernel)⟩
theorem mo_X9_ask : Mi yX9_ask cX9_ask 3 (some .int) 2 := ⟨⟨tb 900 (by decide +kernel), ini_X9, by decide +kernel⟩, tb 898 (by decide +kernel), tb 899 (by decide +kernel)⟩
theorem mo_X9_trace : Mi yX9_trace cX9_trace 2 (some .int) 1 := ⟨⟨tb 929 (by decide +kernel), ini_X9, by decide +kernel⟩, tb 927 (by decide +kernel), tb 928 (by decide +kernel)⟩
theorem mo_X9_count : Mi yX9_count cX9_count 2 (some .int) 1 := ⟨⟨tb 933 (by decide +kernel), ini_X9, by decide +kernel⟩, tb 931 (by decide +kernel), tb 932 (by decide +kernel)⟩
theorem mo_X9_status : Mi yX9_status cX9_status 1 (some .int) 0 := ⟨⟨tb 941 (by decide +kernel), ini_X9, by decide +kernel⟩, tb 939 (by decide +kernel), tb 940 (by decide +kernel)⟩
theorem mo_X9_found : Mi yX9_found cX9_found 2 (some .int) 1 := ⟨⟨tb 344 (by decide +kernel), ini_X9, by decide +kernel⟩, tb 343 (by decide +kernel), pv 0 (by decide +kernel)⟩
theorem mo_X9_fine : Mi yX9_fine cX9_fine 2 (some .int) 1 := ⟨⟨tb 356 (by decide +kernel), ini_X9, by decide +kernel⟩, tb 355 (by decide +kernel), pv 1 (by decide +kernel)⟩
theorem mo_X9_takeBoth : Mi yX9_takeBoth cX9_takeBoth 7 (some .int) 5 := ⟨⟨tb 786 (by decide +kernel), ini_X9, by decide +kernel⟩, tb 785 (by decide +kernel), pv 23 (by decide +kernel)⟩
theorem mo_X9_isToldLength : Ms yX9_isToldLength cX9_isToldLength 1 (some .boolean) 1 := ⟨⟨tb 609 (by decide +kernel), ini_X9, by decide +kernel⟩, tb 608 (by decide +kernel)⟩
theorem mo_X9_isBehind : Ms yX9_isBehind cX9_isBehind 1 (some .boolean) 1 := ⟨⟨tb 628 (by decide +kernel), ini_X9, by decide +kernel⟩, tb 627 (by decide +kernel)⟩
theorem mo_X9_isOneOfTwo : Ms yX9_isOneOfTwo cX9_isOneOfTwo 1 (some .boolean) 1 := ⟨⟨tb 753 (by decide +kernel), ini_X9, by decide +kernel⟩, tb 752 (by decide +kernel)⟩
theorem mo_X9_isImage : Ms yX9_isImage cX9_isImage 1 (some .boolean) 1 := ⟨⟨tb 878 (by decide +kernel), ini_X9, by decide +kernel⟩, tb 877 (by decide +kernel)⟩
theorem mo_X9_isAlso : Ms yX9_isAlso cX9_isAlso 2 (some .boolean) 2 := ⟨⟨tb 893 (by decide +kernel), ini_X9, by decide +kernel⟩, tb 892 (by decide +kernel)⟩
theorem mo_X9_kindAbove : Ms yX9_kindAbove cX9_kindAbove 1 (some .int) 1 := ⟨⟨tb 896 (by decide +kernel), ini_X9, by decide +kernel⟩, tb 895 (by decide +kernel)⟩
theorem mo_X9_power : Ms yX9_power cX9_power 5 (some .long) 2 := ⟨⟨tb 844 (by decide +kernel), ini_X9, by decide +kernel⟩, tb 843 (by decide +kernel)⟩
theorem mo_X9_commonDivisor : Ms yX9_commonDivisor cX9_commonDivisor 11 (some .long) 2 := ⟨⟨tb 854 (by decide +kernel), ini_X9, by decide +kernel⟩, tb 853 (by decide +kernel)⟩
theorem mo_X10_init : Mc yX10_init cX10_init 1 none 0 := ⟨⟨tb 946 (by decide +kernel), ini_X10, by decide +kernel⟩, tb 945 (by decide +kernel)⟩
theorem mo_X10_in : Ms yX10_in cX10_in 6 (some .boolean) 3 := ⟨⟨tb 1053 (by decide +kernel), ini_X10, by decide +kernel⟩, tb 1052 (by decide +kernel)⟩
theorem mo_X10_finding : Mi yX10_finding cX10_finding 2 (some .int) 1 := ⟨⟨tb 1059 (by decide +kernel), ini_X10, by decide +kernel⟩, tb 1058 (by decide +kernel), pv 31 (by decide +kernel)⟩
theorem mo_X10_isRow : Ms yX10_isRow cX10_isRow 1 (some .boolean) 1 := ⟨⟨tb 1049 (by decide +kernel), ini_X10, by decide +kernel⟩, tb 1048 (by decide +kernel)⟩
theorem mo_X10_row : Mi yX10_row cX10_row 5 (some .int) 3 := ⟨⟨tb 1046 (by decide +kernel), ini_X10, by decide +kernel⟩, tb 1044 (by decide +kernel), tb 1045 (by decide +kernel)⟩
theorem mo_X10_set : Mi yX10_set cX10_set 4 (some .int) 3 := ⟨⟨tb 1064 (by decide +kernel), ini_X10, by decide +kernel⟩, tb 1062 (by decide +kernel), tb 1063 (by decide +kernel)⟩
theorem mo_X10_copy : Mi yX10_copy cX10_copy 9 (some .int) 5 := ⟨⟨tb 1068 (by decide +kernel), ini_X10, by decide +kernel⟩, tb 1066 (by decide +kernel), tb 1067 (by decide +kernel)⟩
theorem mo_X10_drop : Mi yX10_drop cX10_drop 2 (some .int) 1 := ⟨⟨tb 1072 (by decide +kernel), ini_X10, by decide +kernel⟩, tb 1070 (by decide +kernel), tb 1071 (by decide +kernel)⟩
theorem mo_X10_feed : Mi yX10_feed cX10_feed 2 (some .int) 1 := ⟨⟨tb 1076 (by decide +kernel), ini_X10, by decide +kernel⟩, tb 1074 (by decide +kernel), tb 1075 (by decide +kernel)⟩
theorem mo_X10_bad : Mi yX10_bad cX10_bad 2 none 1 := ⟨⟨tb 1111 (by decide +kernel), ini_X10, by decide +kernel⟩, tb 1110 (by decide +kernel), pv 36 (by decide +kernel)⟩
theorem mo_X10_nextToken : Mi yX10_nextToken cX10_nextToken 1 none 0 := ⟨⟨tb 1094 (by decide +kernel), ini_X10, by decide +kernel⟩, tb 1093 (by decide +kernel), pv 33 (by decide +kernel)⟩
theorem mo_X10_must : Mi yX10_must cX10_must 2 none 1 := ⟨⟨tb 1107 (by decide +kernel), ini_X10, by decide +kernel⟩, tb 1106 (by decide +kernel), pv 35 (by decide +kernel)⟩
theorem mo_X10_isLetter : Mi yX10_isLetter cX10_isLetter 2 (some .boolean) 1 := ⟨⟨tb 1103 (by decide +kernel), ini_X10, by decide +kernel⟩, tb 1102 (by decide +kernel), pv 34 (by decide +kernel)⟩
theorem mo_X10_number : Mi yX10_number cX10_number 4 (some .int) 2 := ⟨⟨tb 1115 (by decide +kernel), ini_X10, by decide +kernel⟩, tb 1114 (by decide +kernel), pv 37 (by decide +kernel)⟩
theorem mo_X10_mustSign : Mi yX10_mustSign cX10_mustSign 2 none 1 := ⟨⟨tb 1119 (by decide +kernel), ini_X10, by decide +kernel⟩, tb 1118 (by decide +kernel), pv 38 (by decide +kernel)⟩
theorem mo_X10_begin : Mi yX10_begin cX10_begin 1 none 0 := ⟨⟨tb 1090 (by decide +kernel), ini_X10, by decide +kernel⟩, tb 1089 (by decide +kernel), pv 32 (by decide +kernel)⟩
theorem mo_X10_failed : Mi yX10_failed cX10_failed 1 (some .boolean) 0 := ⟨⟨tb 1146 (by decide +kernel), ini_X10, by decide +kernel⟩, tb 1145 (by decide +kernel), pv 44 (by decide +kernel)⟩
theorem mo_X10_fault : Mi yX10_fault cX10_fault 1 (some .int) 0 := ⟨⟨tb 1082 (by decide +kernel), ini_X10, by decide +kernel⟩, tb 1080 (by decide +kernel), tb 1081 (by decide +kernel)⟩
theorem mo_X10_kindBy : Ms yX10_kindBy cX10_kindBy 1 (some .int) 1 := ⟨⟨tb 1134 (by decide +kernel), ini_X10, by decide +kernel⟩, tb 1133 (by decide +kernel)⟩
theorem mo_X10_isSort : Mi yX10_isSort cX10_isSort 1 (some .boolean) 0 := ⟨⟨tb 1131 (by decide +kernel), ini_X10, by decide +kernel⟩, tb 1130 (by decide +kernel), pv 41 (by decide +kernel)⟩
theorem mo_X10_isSign : Mi yX10_isSign cX10_isSign 2 (some .boolean) 1 := ⟨⟨tb 1127 (by decide +kernel), ini_X10, by decide +kernel⟩, tb 1126 (by decide +kernel), pv 40 (by decide +kernel)⟩
theorem mo_X10_readDream : Mi yX10_readDream cX10_readDream 3 none 0 := ⟨⟨tb 1123 (by decide +kernel), ini_X10, by decide +kernel⟩, tb 1122 (by decide +kernel), pv 39 (by decide +kernel)⟩
theorem mo_X10_readHum : Mi yX10_readHum cX10_readHum 5 none 0 := ⟨⟨tb 1138 (by decide +kernel), ini_X10, by decide +kernel⟩, tb 1137 (by decide +kernel), pv 42 (by decide +kernel)⟩
theorem mo_X10_readCase : Mi yX10_readCase cX10_readCase 5 none 0 := ⟨⟨tb 1142 (by decide +kernel), ini_X10, by decide +kernel⟩, tb 1141 (by decide +kernel), pv 43 (by decide +kernel)⟩
theorem mo_X10_court : Mi yX10_court cX10_court 2 (some .int) 0 := ⟨⟨tb 1086 (by decide +kernel), ini_X10, by decide +kernel⟩, tb 1084 (by decide +kernel), tb 1085 (by decide +kernel)⟩
theorem mo_X10_isThere : Mi yX10_isThere cX10_isThere 1 (some .boolean) 0 := ⟨⟨tb 1229 (by decide +kernel), ini_X10, by decide +kernel⟩, tb 1228 (by decide +kernel), pv 49 (by decide +kernel)⟩
theorem mo_X10_isHum : Mi yX10_isHum cX10_isHum 2 (some .boolean) 1 := ⟨⟨tb 1155 (by decide +kernel), ini_X10, by decide +kernel⟩, tb 1154 (by decide +kernel), pv 45 (by decide +kernel)⟩
theorem mo_X10_isCase : Mi yX10_isCase cX10_isCase 2 (some .boolean) 1 := ⟨⟨tb 1176 (by decide +kernel), ini_X10, by decide +kernel⟩, tb 1175 (by decide +kernel), pv 47 (by decide +kernel)⟩
theorem mo_X10_isThing : Mi yX10_isThing cX10_isThing 2 (some .boolean) 1 := ⟨⟨tb 1204 (by decide +kernel), ini_X10, by decide +kernel⟩, tb 1203 (by decide +kernel), pv 48 (by decide +kernel)⟩
theorem mo_X10_allDreams : Mi yX10_allDreams cX10_allDreams 1 (some .int) 0 := ⟨⟨tb 1258 (by decide +kernel), ini_X10, by decide +kernel⟩, tb 1257 (by decide +kernel), pv 53 (by decide +kernel)⟩
theorem mo_X10_areThings : Mi yX10_areThings cX10_areThings 2 (some .boolean) 1 := ⟨⟨tb 1266 (by decide +kernel), ini_X10, by decide +kernel⟩, tb 1265 (by decide +kernel), pv 54 (by decide +kernel)⟩
theorem mo_X10_bits : Ms yX10_bits cX10_bits 3 (some .int) 1 := ⟨⟨tb 1192 (by decide +kernel), ini_X10, by decide +kernel⟩, tb 1191 (by decide +kernel)⟩
theorem mo_X10_has : Ms yX10_has cX10_has 2 (some .boolean) 2 := ⟨⟨tb 1168 (by decide +kernel), ini_X10, by decide +kernel⟩, tb 1167 (by decide +kernel)⟩
theorem mo_X10_of : Ms yX10_of cX10_of 3 (some .int) 3 := ⟨⟨tb 1165 (by decide +kernel), ini_X10, by decide +kernel⟩, tb 1164 (by decide +kernel)⟩
theorem mo_X10_its : Ms yX10_its cX10_its 3 (some .int) 3 := ⟨⟨tb 1179 (by decide +kernel), ini_X10, by decide +kernel⟩, tb 1178 (by decide +kernel)⟩
theorem mo_X10_hummed : Ms yX10_hummed cX10_hummed 5 (some .int) 3 := ⟨⟨tb 1162 (by decide +kernel), ini_X10, by decide +kernel⟩, tb 1161 (by decide +kernel)⟩
theorem mo_X10_worn : Ms yX10_worn cX10_worn 4 (some .int) 2 := ⟨⟨tb 1189 (by decide +kernel), ini_X10, by decide +kernel⟩, tb 1188 (by decide +kernel)⟩
theorem mo_X10_verdict : Ms yX10_verdict cX10_verdict 4 (some .int) 3 := ⟨⟨tb 1186 (by decide +kernel), ini_X10, by decide +kernel⟩, tb 1185 (by decide +kernel)⟩
theorem mo_X10_heard : Ms yX10_heard cX10_heard 3 (some .int) 2 := ⟨⟨tb 1183 (by decide +kernel), ini_X10, by decide +kernel⟩, tb 1182 (by decide +kernel)⟩
theorem mo_X10_those : Ms yX10_those cX10_those 4 (some .int) 2 := ⟨⟨tb 1232 (by decide +kernel), ini_X10, by decide +kernel⟩, tb 1231 (by decide +kernel)⟩
theorem mo_X10_layThen : Mi yX10_layThen cX10_layThen 2 none 0 := ⟨⟨tb 1294 (by decide +kernel), ini_X10, by decide +kernel⟩, tb 1293 (by decide +kernel), pv 58 (by decide +kernel)⟩
theorem mo_X10_keep : Mi yX10_keep cX10_keep 2 none 0 := ⟨⟨tb 1159 (by decide +kernel), ini_X10, by decide +kernel⟩, tb 1158 (by decide +kernel), pv 46 (by decide +kernel)⟩
theorem mo_X10_hum : Mi yX10_hum cX10_hum 2 (some .int) 1 := ⟨⟨tb 1151 (by decide +kernel), ini_X10, by decide +kernel⟩, tb 1149 (by decide +kernel), tb 1150 (by decide +kernel)⟩
theorem mo_X10_hear : Mi yX10_hear cX10_hear 2 (some .int) 1 := ⟨⟨tb 1172 (by decide +kernel), ini_X10, by decide +kernel⟩, tb 1170 (by decide +kernel), tb 1171 (by decide +kernel)⟩
theorem mo_X10_appeal : Mi yX10_appeal cX10_appeal 3 (some .int) 1 := ⟨⟨tb 1196 (by decide +kernel), ini_X10, by decide +kernel⟩, tb 1194 (by decide +kernel), tb 1195 (by decide +kernel)⟩
theorem mo_X10_forget : Mi yX10_forget cX10_forget 2 (some .int) 1 := ⟨⟨tb 1200 (by decide +kernel), ini_X10, by decide +kernel⟩, tb 1198 (by decide +kernel), tb 1199 (by decide +kernel)⟩
theorem mo_X10_learn : Mi yX10_learn cX10_learn 4 (some .int) 2 := ⟨⟨tb 1208 (by decide +kernel), ini_X10, by decide +kernel⟩, tb 1206 (by decide +kernel), tb 1207 (by decide +kernel)⟩
theorem mo_X10_undo : Mi yX10_undo cX10_undo 2 (some .int) 0 := ⟨⟨tb 1212 (by decide +kernel), ini_X10, by decide +kernel⟩, tb 1210 (by decide +kernel), tb 1211 (by decide +kernel)⟩
theorem mo_X10_ofHum : Mi yX10_ofHum cX10_ofHum 3 (some .int) 2 := ⟨⟨tb 1216 (by decide +kernel), ini_X10, by decide +kernel⟩, tb 1214 (by decide +kernel), tb 1215 (by decide +kernel)⟩
theorem mo_X10_ofCase : Mi yX10_ofCase cX10_ofCase 3 (some .int) 2 := ⟨⟨tb 1220 (by decide +kernel), ini_X10, by decide +kernel⟩, tb 1218 (by decide +kernel), tb 1219 (by decide +kernel)⟩
theorem mo_X10_stand : Mi yX10_stand cX10_stand 2 (some .int) 1 := ⟨⟨tb 1225 (by decide +kernel), ini_X10, by decide +kernel⟩, tb 1223 (by decide +kernel), tb 1224 (by decide +kernel)⟩
theorem mo_X10_rowFound : Mi yX10_rowFound cX10_rowFound 4 (some .int) 3 := ⟨⟨tb 1245 (by decide +kernel), ini_X10, by decide +kernel⟩, tb 1244 (by decide +kernel), pv 51 (by decide +kernel)⟩
theorem mo_X10_humsFound : Mi yX10_humsFound cX10_humsFound 6 (some .int) 3 := ⟨⟨tb 1241 (by decide +kernel), ini_X10, by decide +kernel⟩, tb 1240 (by decide +kernel), pv 50 (by decide +kernel)⟩
theorem mo_X10_sleep : Mi yX10_sleep cX10_sleep 7 (some .int) 3 := ⟨⟨tb 1236 (by decide +kernel), ini_X10, by decide +kernel⟩, tb 1234 (by decide +kernel), tb 1235 (by decide +kernel)⟩
theorem mo_X10_spread : Mi yX10_spread cX10_spread 5 none 1 := ⟨⟨tb 1254 (by decide +kernel), ini_X10, by decide +kernel⟩, tb 1253 (by decide +kernel), pv 52 (by decide +kernel)⟩
theorem mo_X10_dreams : Mi yX10_dreams cX10_dreams 9 (some .int) 2 := ⟨⟨tb 1249 (by decide +kernel), ini_X10, by decide +kernel⟩, tb 1247 (by decide +kernel), tb 1248 (by decide +kernel)⟩
theorem mo_X10_measure : Mi yX10_measure cX10_measure 4 none 0 := ⟨⟨tb 1270 (by decide +kernel), ini_X10, by decide +kernel⟩, tb 1269 (by decide +kernel), pv 55 (by decide +kernel)⟩
theorem mo_X10_wayOf : Mi yX10_wayOf cX10_wayOf 7 (some .int) 1 := ⟨⟨tb 1274 (by decide +kernel), ini_X10, by decide +kernel⟩, tb 1273 (by decide +kernel), pv 56 (by decide +kernel)⟩
theorem mo_X10_least : Mi yX10_least cX10_least 5 (some .int) 3 := ⟨⟨tb 1262 (by decide +kernel), ini_X10, by decide +kernel⟩, tb 1260 (by decide +kernel), tb 1261 (by decide +kernel)⟩
theorem mo_X10_save : Mi yX10_save cX10_save 4 (some .int) 2 := ⟨⟨tb 1278 (by decide +kernel), ini_X10, by decide +kernel⟩, tb 1276 (by decide +kernel), tb 1277 (by decide +kernel)⟩
theorem mo_X10_can : Mi yX10_can cX10_can 6 (some .int) 2 := ⟨⟨tb 1282 (by decide +kernel), ini_X10, by decide +kernel⟩, tb 1280 (by decide +kernel), tb 1281 (by decide +kernel)⟩
theorem mo_X10_nextRow : Mi yX10_nextRow cX10_nextRow 7 (some .boolean) 1 := ⟨⟨tb 1298 (by decide +kernel), ini_X10, by decide +kernel⟩, tb 1297 (by decide +kernel), pv 59 (by decide +kernel)⟩
theorem mo_X10_tryOrders : Mi yX10_tryOrders cX10_tryOrders 8 (some .int) 0 := ⟨⟨tb 1290 (by decide +kernel), ini_X10, by decide +kernel⟩, tb 1289 (by decide +kernel), pv 57 (by decide +kernel)⟩
theorem mo_X10_order : Mi yX10_order cX10_order 3 (some .int) 1 := ⟨⟨tb 1286 (by decide +kernel), ini_X10, by decide +kernel⟩, tb 1284 (by decide +kernel), tb 1285 (by decide +kernel)⟩
theorem mo_X10_first : Mi yX10_first cX10_first 4 (some .int) 0 := ⟨⟨tb 1302 (by decide +kernel), ini_X10, by decide +kernel⟩, tb 1300 (by decide +kernel), tb 1301 (by decide +kernel)⟩
theorem mo_X10_doClash : Mi yX10_doClash cX10_doClash 3 (some .boolean) 2 := ⟨⟨tb 1310 (by decide +kernel), ini_X10, by decide +kernel⟩, tb 1309 (by decide +kernel), pv 60 (by decide +kernel)⟩
theorem mo_X10_clashes : Mi yX10_clashes cX10_clashes 6 (some .int) 1 := ⟨⟨tb 1306 (by decide +kernel), ini_X10, by decide +kernel⟩, tb 1304 (by decide +kernel), tb 1305 (by decide +kernel)⟩
theorem mo_X10_deaf : Mi yX10_deaf cX10_deaf 3 (some .int) 0 := ⟨⟨tb 1314 (by decide +kernel), ini_X10, by decide +kernel⟩, tb 1312 (by decide +kernel), tb 1313 (by decide +kernel)⟩
theorem mo_X10_areSame : Mi yX10_areSame cX10_areSame 5 (some .boolean) 2 := ⟨⟨tb 1322 (by decide +kernel), ini_X10, by decide +kernel⟩, tb 1321 (by decide +kernel), pv 61 (by decide +kernel)⟩
theorem mo_X10_same : Mi yX10_same cX10_same 7 (some .int) 1 := ⟨⟨tb 1318 (by decide +kernel), ini_X10, by decide +kernel⟩, tb 1316 (by decide +kernel), tb 1317 (by decide +kernel)⟩
theorem mo_X10_isSo : Mi yX10_isSo cX10_isSo 8 (some .boolean) 4 := ⟨⟨tb 1330 (by decide +kernel), ini_X10, by decide +kernel⟩, tb 1329 (by decide +kernel), pv 62 (by decide +kernel)⟩
theorem mo_X10_who : Mi yX10_who cX10_who 11 (some .int) 7 := ⟨⟨tb 1326 (by decide +kernel), ini_X10, by decide +kernel⟩, tb 1324 (by decide +kernel), tb 1325 (by decide +kernel)⟩
theorem mo_X10_began : Mi yX10_began cX10_began 12 (some .int) 6 := ⟨⟨tb 1334 (by decide +kernel), ini_X10, by decide +kernel⟩, tb 1332 (by decide +kernel), tb 1333 (by decide +kernel)⟩
theorem mo_X10_snored : Mi yX10_snored cX10_snored 10 (some .int) 4 := ⟨⟨tb 1338 (by decide +kernel), ini_X10, by decide +kernel⟩, tb 1336 (by decide +kernel), tb 1337 (by decide +kernel)⟩
theorem mo_X10_gone : Mi yX10_gone cX10_gone 15 (some .long) 3 := ⟨⟨tb 1342 (by decide +kernel), ini_X10, by decide +kernel⟩, tb 1340 (by decide +kernel), tb 1341 (by decide +kernel)⟩
theorem mo_X10_drawn : Mi yX10_drawn cX10_drawn 9 (some .int) 3 := ⟨⟨tb 1348 (by decide +kernel), ini_X10, by decide +kernel⟩, tb 1346 (by decide +kernel), tb 1347 (by decide +kernel)⟩
theorem mo_X10_image : Mi yX10_image cX10_image 3 (some .int) 1 := ⟨⟨tb 1356 (by decide +kernel), ini_X10, by decide +kernel⟩, tb 1354 (by decide +kernel), tb 1355 (by decide +kernel)⟩
theorem mo_X10_restore : Mi yX10_restore cX10_restore 3 (some .int) 1 := ⟨⟨tb 1360 (by decide +kernel), ini_X10, by decide +kernel⟩, tb 1358 (by decide +kernel), tb 1359 (by decide +kernel)⟩
theorem mo_X10_isOf : Ms yX10_isOf cX10_isOf 2 (some .boolean) 2 := ⟨⟨tb 1372 (by decide +kernel), ini_X10, by decide +kernel⟩, tb 1371 (by decide +kernel)⟩
theorem mo_X10_kind : Mi yX10_kind cX10_kind 2 (some .int) 1 := ⟨⟨tb 1364 (by decide +kernel), ini_X10, by decide +kernel⟩, tb 1362 (by decide +kernel), tb 1363 (by decide +kernel)⟩
theorem mo_X10_as : Mi yX10_as cX10_as 3 (some .int) 2 := ⟨⟨tb 1368 (by decide +kernel), ini_X10, by decide +kernel⟩, tb 1366 (by decide +kernel), tb 1367 (by decide +kernel)⟩
theorem mo_X10_began0 : Mi yX10_began0 cX10_began0 2 none 1 := ⟨⟨tb 1388 (by decide +kernel), ini_X10, by decide +kernel⟩, tb 1387 (by decide +kernel), pv 65 (by decide +kernel)⟩
theorem mo_X10_plainSize : Mi yX10_plainSize cX10_plainSize 2 (some .int) 1 := ⟨⟨tb 1392 (by decide +kernel), ini_X10, by decide +kernel⟩, tb 1391 (by decide +kernel), pv 66 (by decide +kernel)⟩
theorem mo_X10_rainSize : Mi yX10_rainSize cX10_rainSize 4 (some .int) 1 := ⟨⟨tb 1384 (by decide +kernel), ini_X10, by decide +kernel⟩, tb 1383 (by decide +kernel), pv 64 (by decide +kernel)⟩
theorem mo_X10_markOf : Mi yX10_markOf cX10_markOf 4 (some .int) 1 := ⟨⟨tb 1396 (by decide +kernel), ini_X10, by decide +kernel⟩, tb 1395 (by decide +kernel), pv 67 (by decide +kernel)⟩
theorem mo_X10_sizeOf : Mi yX10_sizeOf cX10_sizeOf 4 (some .int) 1 := ⟨⟨tb 1380 (by decide +kernel), ini_X10, by decide +kernel⟩, tb 1379 (by decide +kernel), pv 63 (by decide +kernel)⟩
theorem mo_X10_ask : Mi yX10_ask cX10_ask 3 (some .int) 2 := ⟨⟨tb 1376 (by decide +kernel), ini_X10, by decide +kernel⟩, tb 1374 (by decide +kernel), tb 1375 (by decide +kernel)⟩
theorem mo_X10_trace : Mi yX10_trace cX10_trace 2 (some .int) 1 := ⟨⟨tb 1400 (by decide +kernel), ini_X10, by decide +kernel⟩, tb 1398 (by decide +kernel), tb 1399 (by decide +kernel)⟩
theorem mo_X10_count : Mi yX10_count cX10_count 4 (some .int) 1 := ⟨⟨tb 1404 (by decide +kernel), ini_X10, by decide +kernel⟩, tb 1402 (by decide +kernel), tb 1403 (by decide +kernel)⟩
theorem mo_X10_status : Mi yX10_status cX10_status 1 (some .int) 0 := ⟨⟨tb 1408 (by decide +kernel), ini_X10, by decide +kernel⟩, tb 1406 (by decide +kernel), tb 1407 (by decide +kernel)⟩
theorem mo_J6_bitCount_0f7a4 : Ms yJ6_bitCount_0f7a4 cJ6_bitCount_0f7a4 1 (some .int) 1 := ⟨⟨tb 718 (by decide +kernel), ini_J6, by decide +kernel⟩, tb 717 (by decide +kernel)⟩
theorem mo_J9_max_7cf53 : Ms yJ9_max_7cf53 cJ9_max_7cf53 2 (some .int) 2 := ⟨⟨tb 733 (by decide +kernel), ini_J9, by decide +kernel⟩, tb 732 (by decide +kernel)⟩
theorem mo_J9_min_7cf53 : Ms yJ9_min_7cf53 cJ9_min_7cf53 2 (some .int) 2 := ⟨⟨tb 528 (by decide +kernel), ini_J9, by decide +kernel⟩, tb 527 (by decide +kernel)⟩
theorem mo_J7_fill_53178 : Ms yJ7_fill_53178 cJ7_fill_53178 4 none 2 := ⟨⟨tb 352 (by decide +kernel), ini_J7, by decide +kernel⟩, tb 351 (by decide +kernel)⟩
/-- a field link: class number ci, slot k -/
def FLk (own : String) (idx ci k : Nat) : Prop := ∃ (q : vw_C), classes[ci]? = some q ∧ k < q.2.2 ∧ Cond.fieldLink own idx (q.2.1 k).1 (q.2.1 k).2.1 (q.2.1 k).2.2.1 ∈ gw_tbl
theorem fl_X5_13 : FLk RX5 13 5 0 := ⟨_, rfl, by decide +kernel, tb 32 (by decide +kernel)⟩
theorem fl_X7_38 : FLk RX7 38 5 0 := ⟨_, rfl, by decide +kernel, tb 33 (by decide +kernel)⟩
theorem fl_X5_16 : FLk RX5 16 5 1 := ⟨_, rfl, by decide +kernel, tb 34 (by decide +kernel)⟩
theorem fl_X5_20 : FLk RX5 20 5 2 := ⟨_, rfl, by decide +kernel, tb 35 (by decide +kernel)⟩
theorem fl_X6_9 : FLk RX6 9 6 0 := ⟨_, rfl, by decide +kernel, tb 50 (by decide +kernel)⟩
theorem fl_X6_13 : FLk RX6 13 6 1 := ⟨_, rfl, by decide +kernel, tb 51 (by decide +kernel)⟩
theorem fl_X4_43 : FLk RX4 43 6 1 := ⟨_, rfl, by decide +kernel, tb 52 (by decide +kernel)⟩
theorem fl_X9_370 : FLk RX9 370 6 1 := ⟨_, rfl, by decide +kernel, tb 53 (by decide +kernel)⟩
theorem fl_X2_33 : FLk RX2 33 2 0 := ⟨_, rfl, by decide +kernel, tb 65 (by decide +kernel)⟩
theorem fl_X4_56 : FLk RX4 56 2 0 := ⟨_, rfl, by decide +kernel, tb 66 (by decide +kernel)⟩
theorem fl_X7_74 : FLk RX7 74 2 0 := ⟨_, rfl, by decide +kernel, tb 67 (by decide +kernel)⟩
theorem fl_X9_364 : FLk RX9 364 2 0 := ⟨_, rfl, by decide +kernel, tb 68 (by decide +kernel)⟩
theorem fl_X2_37 : FLk RX2 37 2 1 := ⟨_, rfl, by decide +kernel, tb 69 (by decide +kernel)⟩
theorem fl_X4_59 : FLk RX4 59 2 1 := ⟨_, rfl, by decide +kernel, tb 70 (by decide +kernel)⟩
theorem fl_X2_40 : FLk RX2 40 2 2 := ⟨_, rfl, by decide +kernel, tb 71 (by decide +kernel)⟩
theorem fl_X4_62 : FLk RX4 62 2 2 := ⟨_, rfl, by decide +kernel, tb 72 (by decide +kernel)⟩
theorem fl_X9_169 : FLk RX9 169 2 2 := ⟨_, rfl, by decide +kernel, tb 73 (by decide +kernel)⟩
theorem fl_X2_43 : FLk RX2 43 2 3 := ⟨_, rfl, by decide +kernel, tb 74 (by decide +kernel)⟩
theorem fl_X3_52 : FLk RX3 52 2 3 := ⟨_, rfl, by decide +kernel, tb 75 (by decide +kernel)⟩
theorem fl_X7_54 : FLk RX7 54 2 3 := ⟨_, rfl, by decide +kernel, tb 76 (by decide +kernel)⟩
theorem fl_X4_69 : FLk RX4 69 2 3 := ⟨_, rfl, by decide +kernel, tb 77 (by decide +kernel)⟩
theorem fl_X1_50 : FLk RX1 50 2 3 := ⟨_, rfl, by decide +kernel, tb 78 (by decide +kernel)⟩
theorem fl_X8_51 : FLk RX8 51 2 3 := ⟨_, rfl, by decide +kernel, tb 79 (by decide +kernel)⟩
theorem fl_X9_175 : FLk RX9 175 2 3 := ⟨_, rfl, by decide +kernel, tb 80 (by decide +kernel)⟩
theorem fl_X2_46 : FLk RX2 46 2 4 := ⟨_, rfl, by decide +kernel, tb 81 (by decide +kernel)⟩
theorem fl_X9_166 : FLk RX9 166 2 4 := ⟨_, rfl, by decide +kernel, tb 82 (by decide +kernel)⟩
theorem fl_X2_49 : FLk RX2 49 2 5 := ⟨_, rfl, by decide +kernel, tb 83 (by decide +kernel)⟩
theorem fl_X9_195 : FLk RX9 195 2 5 := ⟨_, rfl, by decide +kernel, tb 84 (by decide +kernel)⟩
theorem fl_X2_52 : FLk RX2 52 2 6 := ⟨_, rfl, by decide +kernel, tb 85 (by decide +kernel)⟩
theorem fl_X4_82 : FLk RX4 82 2 6 := ⟨_, rfl, by decide +kernel, tb 86 (by decide +kernel)⟩
theorem fl_X9_152 : FLk RX9 152 2 6 := ⟨_, rfl, by decide +kernel, tb 87 (by decide +kernel)⟩
theorem fl_X8_64 : FLk RX8 64 2 6 := ⟨_, rfl, by decide +kernel, tb 88 (by decide +kernel)⟩
theorem fl_X2_55 : FLk RX2 55 2 7 := ⟨_, rfl, by decide +kernel, tb 89 (by decide +kernel)⟩
theorem fl_X3_63 : FLk RX3 63 2 7 := ⟨_, rfl, by decide +kernel, tb 90 (by decide +kernel)⟩
theorem fl_X4_98 : FLk RX4 98 2 7 := ⟨_, rfl, by decide +kernel, tb 91 (by decide +kernel)⟩
theorem fl_X9_367 : FLk RX9 367 2 7 := ⟨_, rfl, by decide +kernel, tb 92 (by decide +kernel)⟩
theorem fl_X2_9 : FLk RX2 9 2 8 := ⟨_, rfl, by decide +kernel, tb 93 (by decide +kernel)⟩
theorem fl_X1_35 : FLk RX1 35 2 8 := ⟨_, rfl, by decide +kernel, tb 94 (by decide +kernel)⟩
theorem fl_X4_88 : FLk RX4 88 2 8 := ⟨_, rfl, by decide +kernel, tb 95 (by decide +kernel)⟩
theorem fl_X7_77 : FLk RX7 77 2 8 := ⟨_, rfl, by decide +kernel, tb 96 (by decide +kernel)⟩
theorem fl_X9_348 : FLk RX9 348 2 8 := ⟨_, rfl, by decide +kernel, tb 97 (by decide +kernel)⟩
theorem fl_X2_15 : FLk RX2 15 2 9 := ⟨_, rfl, by decide +kernel, tb 98 (by decide +kernel)⟩
theorem fl_X1_47 : FLk RX1 47 2 9 := ⟨_, rfl, by decide +kernel, tb 99 (by decide +kernel)⟩
theorem fl_X7_64 : FLk RX7 64 2 9 := ⟨_, rfl, by decide +kernel, tb 100 (by decide +kernel)⟩
theorem fl_X4_92 : FLk RX4 92 2 9 := ⟨_, rfl, by decide +kernel, tb 101 (by decide +kernel)⟩
theorem fl_X9_204 : FLk RX9 204 2 9 := ⟨_, rfl, by decide +kernel, tb 102 (by decide +kernel)⟩
theorem fl_X2_18 : FLk RX2 18 2 10 := ⟨_, rfl, by decide +kernel, tb 103 (by decide +kernel)⟩
theorem fl_X7_67 : FLk RX7 67 2 10 := ⟨_, rfl, by decide +kernel, tb 104 (by decide +kernel)⟩
theorem fl_X4_95 : FLk RX4 95 2 10 := ⟨_, rfl, by decide +kernel, tb 105 (by decide +kernel)⟩
theorem fl_X9_207 : FLk RX9 207 2 10 := ⟨_, rfl, by decide +kernel, tb 106 (by decide +kernel)⟩
theorem fl_X2_21 : FLk RX2 21 2 11 := ⟨_, rfl, by decide +kernel, tb 107 (by decide +kernel)⟩
theorem fl_X4_104 : FLk RX4 104 2 11 := ⟨_, rfl, by decide +kernel, tb 108 (by decide +kernel)⟩
theorem fl_X9_210 : FLk RX9 210 2 11 := ⟨_, rfl, by decide +kernel, tb 109 (by decide +kernel)⟩
theorem fl_X2_24 : FLk RX2 24 2 12 := ⟨_, rfl, by decide +kernel, tb 110 (by decide +kernel)⟩
theorem fl_X4_107 : FLk RX4 107 2 12 := ⟨_, rfl, by decide +kernel, tb 111 (by decide +kernel)⟩
theorem fl_X9_213 : FLk RX9 213 2 12 := ⟨_, rfl, by decide +kernel, tb 112 (by decide +kernel)⟩
theorem fl_X2_27 : FLk RX2 27 2 13 := ⟨_, rfl, by decide +kernel, tb 113 (by decide +kernel)⟩
theorem fl_X4_110 : FLk RX4 110 2 13 := ⟨_, rfl, by decide +kernel, tb 114 (by decide +kernel)⟩
theorem fl_X9_216 : FLk RX9 216 2 13 := ⟨_, rfl, by decide +kernel, tb 115 (by decide +kernel)⟩
theorem fl_X2_30 : FLk RX2 30 2 14 := ⟨_, rfl, by decide +kernel, tb 116 (by decide +kernel)⟩
theorem fl_X9_185 : FLk RX9 185 2 14 := ⟨_, rfl, by decide +kernel, tb 117 (by decide +kernel)⟩
theorem fl_X4_9 : FLk RX4 9 4 0 := ⟨_, rfl, by decide +kernel, tb 155 (by decide +kernel)⟩
theorem fl_X4_15 : FLk RX4 15 4 1 := ⟨_, rfl, by decide +kernel, tb 156 (by decide +kernel)⟩
theorem fl_X4_19 : FLk RX4 19 4 2 := ⟨_, rfl, by decide +kernel, tb 157 (by decide +kernel)⟩
theorem fl_X9_145 : FLk RX9 145 4 2 := ⟨_, rfl, by decide +kernel, tb 158 (by decide +kernel)⟩
theorem fl_X4_23 : FLk RX4 23 4 3 := ⟨_, rfl, by decide +kernel, tb 159 (by decide +kernel)⟩
theorem fl_X9_137 : FLk RX9 137 4 3 := ⟨_, rfl, by decide +kernel, tb 160 (by decide +kernel)⟩
theorem fl_X0_11 : FLk RX0 11 0 0 := ⟨_, rfl, by decide +kernel, tb 176 (by decide +kernel)⟩
theorem fl_X0_15 : FLk RX0 15 0 1 := ⟨_, rfl, by decide +kernel, tb 177 (by decide +kernel)⟩
theorem fl_X0_23 : FLk RX0 23 0 2 := ⟨_, rfl, by decide +kernel, tb 178 (by decide +kernel)⟩
theorem fl_X9_155 : FLk RX9 155 0 2 := ⟨_, rfl, by decide +kernel, tb 179 (by decide +kernel)⟩
theorem fl_X8_30 : FLk RX8 30 8 0 := ⟨_, rfl, by decide +kernel, tb 194 (by decide +kernel)⟩
theorem fl_X8_9 : FLk RX8 9 8 1 := ⟨_, rfl, by decide +kernel, tb 195 (by decide +kernel)⟩
theorem fl_X8_15 : FLk RX8 15 8 2 := ⟨_, rfl, by decide +kernel, tb 196 (by decide +kernel)⟩
theorem fl_X8_18 : FLk RX8 18 8 3 := ⟨_, rfl, by decide +kernel, tb 197 (by decide +kernel)⟩
theorem fl_X8_21 : FLk RX8 21 8 4 := ⟨_, rfl, by decide +kernel, tb 198 (by decide +kernel)⟩
theorem fl_X8_24 : FLk RX8 24 8 5 := ⟨_, rfl, by decide +kernel, tb 199 (by decide +kernel)⟩
theorem fl_X8_27 : FLk RX8 27 8 6 := ⟨_, rfl, by decide +kernel, tb 200 (by decide +kernel)⟩
theorem fl_X8_71 : FLk RX8 71 8 7 := ⟨_, rfl, by decide +kernel, tb 201 (by decide +kernel)⟩
theorem fl_X3_21 : FLk RX3 21 3 0 := ⟨_, rfl, by decide +kernel, tb 225 (by decide +kernel)⟩
theorem fl_X3_9 : FLk RX3 9 3 1 := ⟨_, rfl, by decide +kernel, tb 226 (by decide +kernel)⟩
theorem fl_X3_15 : FLk RX3 15 3 2 := ⟨_, rfl, by decide +kernel, tb 227 (by decide +kernel)⟩
theorem fl_X9_282 : FLk RX9 282 3 2 := ⟨_, rfl, by decide +kernel, tb 228 (by decide +kernel)⟩
theorem fl_X3_18 : FLk RX3 18 3 3 := ⟨_, rfl, by decide +kernel, tb 229 (by decide +kernel)⟩
theorem fl_X3_36 : FLk RX3 36 3 4 := ⟨_, rfl, by decide +kernel, tb 230 (by decide +kernel)⟩
theorem fl_X9_281 : FLk RX9 281 3 4 := ⟨_, rfl, by decide +kernel, tb 231 (by decide +kernel)⟩
theorem fl_X3_40 : FLk RX3 40 3 5 := ⟨_, rfl, by decide +kernel, tb 232 (by decide +kernel)⟩
theorem fl_X9_278 : FLk RX9 278 3 5 := ⟨_, rfl, by decide +kernel, tb 233 (by decide +kernel)⟩
theorem fl_X3_43 : FLk RX3 43 3 6 := ⟨_, rfl, by decide +kernel, tb 234 (by decide +kernel)⟩
theorem fl_X9_275 : FLk RX9 275 3 6 := ⟨_, rfl, by decide +kernel, tb 235 (by decide +kernel)⟩
theorem fl_X7_18 : FLk RX7 18 7 0 := ⟨_, rfl, by decide +kernel, tb 257 (by decide +kernel)⟩
theorem fl_X7_9 : FLk RX7 9 7 1 := ⟨_, rfl, by decide +kernel, tb 258 (by decide +kernel)⟩
theorem fl_X7_15 : FLk RX7 15 7 2 := ⟨_, rfl, by decide +kernel, tb 259 (by decide +kernel)⟩
theorem fl_X7_34 : FLk RX7 34 7 3 := ⟨_, rfl, by decide +kernel, tb 260 (by decide +kernel)⟩
theorem fl_X1_13 : FLk RX1 13 1 0 := ⟨_, rfl, by decide +kernel, tb 276 (by decide +kernel)⟩
theorem fl_X1_9 : FLk RX1 9 1 1 := ⟨_, rfl, by decide +kernel, tb 277 (by decide +kernel)⟩
theorem fl_X9_358 : FLk RX9 358 1 1 := ⟨_, rfl, by decide +kernel, tb 278 (by decide +kernel)⟩
theorem fl_X1_17 : FLk RX1 17 1 2 := ⟨_, rfl, by decide +kernel, tb 279 (by decide +kernel)⟩
theorem fl_X9_357 : FLk RX9 357 1 2 := ⟨_, rfl, by decide +kernel, tb 280 (by decide +kernel)⟩
theorem fl_X9_10 : FLk RX9 10 9 0 := ⟨_, rfl, by decide +kernel, tb 288 (by decide +kernel)⟩
theorem fl_X9_19 : FLk RX9 19 9 1 := ⟨_, rfl, by decide +kernel, tb 289 (by decide +kernel)⟩
theorem fl_X9_26 : FLk RX9 26 9 2 := ⟨_, rfl, by decide +kernel, tb 290 (by decide +kernel)⟩
theorem fl_X9_30 : FLk RX9 30 9 3 := ⟨_, rfl, by decide +kernel, tb 291 (by decide +kernel)⟩
theorem fl_X9_38 : FLk RX9 38 9 4 := ⟨_, rfl, by decide +kernel, tb 292 (by decide +kernel)⟩
theorem fl_X9_45 : FLk RX9 45 9 5 := ⟨_, rfl, by decide +kernel, tb 293 (by decide +kernel)⟩
theorem fl_X9_49 : FLk RX9 49 9 6 := ⟨_, rfl, by decide +kernel, tb 294 (by decide +kernel)⟩
theorem fl_X9_58 : FLk RX9 58 9 7 := ⟨_, rfl, by decide +kernel, tb 295 (by decide +kernel)⟩
theorem fl_X9_65 : FLk RX9 65 9 8 := ⟨_, rfl, by decide +kernel, tb 296 (by decide +kernel)⟩
theorem fl_X9_72 : FLk RX9 72 9 9 := ⟨_, rfl, by decide +kernel, tb 297 (by decide +kernel)⟩
theorem fl_X9_79 : FLk RX9 79 9 10 := ⟨_, rfl, by decide +kernel, tb 298 (by decide +kernel)⟩
theorem fl_X9_141 : FLk RX9 141 9 11 := ⟨_, rfl, by decide +kernel, tb 299 (by decide +kernel)⟩
theorem fl_X9_371 : FLk RX9 371 9 12 := ⟨_, rfl, by decide +kernel, tb 300 (by decide +kernel)⟩
theorem fs_X1_32 : Cond.fieldLink RX1 32 "SleepingJudge$Asking" "SIZE_BODIES" "[I" ∈ gw_tbl := tb 909 (by decide +kernel)
theorem fs_X1_40 : Cond.fieldLink RX1 40 "SleepingJudge$Asking" "MARK_BODIES" "[I" ∈ gw_tbl := tb 915 (by decide +kernel)
theorem fl_X10_62 : FLk RX10 62 10 0 := ⟨_, rfl, by decide +kernel, tb 948 (by decide +kernel)⟩
theorem fl_X10_66 : FLk RX10 66 10 1 := ⟨_, rfl, by decide +kernel, tb 949 (by decide +kernel)⟩
theorem fl_X10_7 : FLk RX10 7 10 2 := ⟨_, rfl, by decide +kernel, tb 950 (by decide +kernel)⟩
theorem fl_X10_13 : FLk RX10 13 10 3 := ⟨_, rfl, by decide +kernel, tb 951 (by decide +kernel)⟩
theorem fl_X10_16 : FLk RX10 16 10 4 := ⟨_, rfl, by decide +kernel, tb 952 (by decide +kernel)⟩
theorem fl_X10_19 : FLk RX10 19 10 5 := ⟨_, rfl, by decide +kernel, tb 953 (by decide +kernel)⟩
theorem fl_X10_22 : FLk RX10 22 10 6 := ⟨_, rfl, by decide +kernel, tb 954 (by decide +kernel)⟩
theorem fl_X10_25 : FLk RX10 25 10 7 := ⟨_, rfl, by decide +kernel, tb 955 (by decide +kernel)⟩
theorem fl_X10_28 : FLk RX10 28 10 8 := ⟨_, rfl, by decide +kernel, tb 956 (by decide +kernel)⟩
theorem fl_X10_170 : FLk RX10 170 10 9 := ⟨_, rfl, by decide +kernel, tb 957 (by decide +kernel)⟩
theorem fl_X10_31 : FLk RX10 31 10 10 := ⟨_, rfl, by decide +kernel, tb 958 (by decide +kernel)⟩
theorem fl_X10_89 : FLk RX10 89 10 11 := ⟨_, rfl, by decide +kernel, tb 959 (by decide +kernel)⟩
theorem fl_X10_102 : FLk RX10 102 10 12 := ⟨_, rfl, by decide +kernel, tb 960 (by decide +kernel)⟩
theorem fl_X10_96 : FLk RX10 96 10 13 := ⟨_, rfl, by decide +kernel, tb 961 (by decide +kernel)⟩
theorem fl_X10_117 : FLk RX10 117 10 14 := ⟨_, rfl, by decide +kernel, tb 962 (by decide +kernel)⟩
theorem fl_X10_106 : FLk RX10 106 10 15 := ⟨_, rfl, by decide +kernel, tb 963 (by decide +kernel)⟩
theorem fl_X10_93 : FLk RX10 93 10 16 := ⟨_, rfl, by decide +kernel, tb 964 (by decide +kernel)⟩
theorem fl_X10_99 : FLk RX10 99 10 17 := ⟨_, rfl, by decide +kernel, tb 965 (by decide +kernel)⟩
theorem fl_X10_131 : FLk RX10 131 10 18 := ⟨_, rfl, by decide +kernel, tb 966 (by decide +kernel)⟩
theorem fl_X10_34 : FLk RX10 34 10 19 := ⟨_, rfl, by decide +kernel, tb 967 (by decide +kernel)⟩
theorem fl_X10_38 : FLk RX10 38 10 20 := ⟨_, rfl, by decide +kernel, tb 968 (by decide +kernel)⟩
theorem fl_X10_41 : FLk RX10 41 10 21 := ⟨_, rfl, by decide +kernel, tb 969 (by decide +kernel)⟩
theorem fl_X10_44 : FLk RX10 44 10 22 := ⟨_, rfl, by decide +kernel, tb 970 (by decide +kernel)⟩
theorem fl_X10_47 : FLk RX10 47 10 23 := ⟨_, rfl, by decide +kernel, tb 971 (by decide +kernel)⟩
theorem fl_X10_248 : FLk RX10 248 10 24 := ⟨_, rfl, by decide +kernel, tb 972 (by decide +kernel)⟩
theorem fl_X10_254 : FLk RX10 254 10 25 := ⟨_, rfl, by decide +kernel, tb 973 (by decide +kernel)⟩
theorem fl_X10_50 : FLk RX10 50 10 26 := ⟨_, rfl, by decide +kernel, tb 974 (by decide +kernel)⟩
theorem fl_X10_53 : FLk RX10 53 10 27 := ⟨_, rfl, by decide +kernel, tb 975 (by decide +kernel)⟩
theorem fl_X10_56 : FLk RX10 56 10 28 := ⟨_, rfl, by decide +kernel, tb 976 (by decide +kernel)⟩
theorem fl_X10_59 : FLk RX10 59 10 29 := ⟨_, rfl, by decide +kernel, tb 977 (by decide +kernel)⟩
theorem fl_X10_290 : FLk RX10 290 10 30 := ⟨_, rfl, by decide +kernel, tb 978 (by decide +kernel)⟩
theorem ml_L_9 : Cond.methodLink RL 9 yX9_init ∈ gw_tbl := tb 18 (by decide +kernel)
theorem ml_X9_1 : Cond.methodLink RX9 1 objectInit ∈ gw_tbl := tb 21 (by decide +kernel)
theorem ml_X9_9 : Cond.methodLinkNest RX9 9 yX5_init "SleepingJudge" ∈ lw_tbl := tn 26 (by decide +kernel)
theorem ml_X5_3 : Cond.methodLink RX5 3 objectInit ∈ gw_tbl := tb 29 (by decide +kernel)
theorem ml_X9_18 : Cond.methodLinkNest RX9 18 yX6_init "SleepingJudge" ∈ lw_tbl := tn 46 (by decide +kernel)
theorem ml_X6_1 : Cond.methodLink RX6 1 objectInit ∈ gw_tbl := tb 49 (by decide +kernel)
theorem ml_X9_25 : Cond.methodLinkNest RX9 25 yX2_init "SleepingJudge" ∈ lw_tbl := tn 61 (by decide +kernel)
theorem ml_X2_3 : Cond.methodLink RX2 3 objectInit ∈ gw_tbl := tb 64 (by decide +kernel)
theorem ml_X9_35 : Cond.methodLink RX9 35 yX4_init ∈ gw_tbl := tb 151 (by decide +kernel)
theorem ml_X4_3 : Cond.methodLink RX4 3 objectInit ∈ gw_tbl := tb 154 (by decide +kernel)
theorem ml_X9_44 : Cond.methodLinkNest RX9 44 yX0_init "SleepingJudge" ∈ lw_tbl := tn 172 (by decide +kernel)
theorem ml_X0_1 : Cond.methodLink RX0 1 objectInit ∈ gw_tbl := tb 175 (by decide +kernel)
theorem ml_X9_55 : Cond.methodLink RX9 55 yX8_init ∈ gw_tbl := tb 190 (by decide +kernel)
theorem ml_X8_3 : Cond.methodLink RX8 3 objectInit ∈ gw_tbl := tb 193 (by decide +kernel)
theorem ml_X9_64 : Cond.methodLink RX9 64 yX3_init ∈ gw_tbl := tb 221 (by decide +kernel)
theorem ml_X3_3 : Cond.methodLink RX3 3 objectInit ∈ gw_tbl := tb 224 (by decide +kernel)
theorem ml_X9_71 : Cond.methodLink RX9 71 yX7_init ∈ gw_tbl := tb 253 (by decide +kernel)
theorem ml_X7_3 : Cond.methodLink RX7 3 objectInit ∈ gw_tbl := tb 256 (by decide +kernel)
theorem ml_X9_78 : Cond.methodLink RX9 78 yX1_init ∈ gw_tbl := tb 272 (by decide +kernel)
theorem ml_X1_1 : Cond.methodLink RX1 1 objectInit ∈ gw_tbl := tb 275 (by decide +kernel)
theorem ml_L_13 : Cond.methodLink RL 13 yX9_row ∈ gw_tbl := tb 328 (by decide +kernel)
theorem ml_X9_83 : Cond.methodLink RX9 83 yX5_isRow ∈ gw_tbl := tb 332 (by decide +kernel)
theorem ml_X9_87 : Cond.methodLink RX9 87 yX5_isLane ∈ gw_tbl := tb 336 (by decide +kernel)
theorem ml_X9_91 : Cond.methodLink RX9 91 yX9_found ∈ gw_tbl := tb 341 (by decide +kernel)
theorem ml_X9_95 : Cond.methodLink RX9 95 yX5_make ∈ gw_tbl := tb 346 (by decide +kernel)
theorem ml_X5_27 : Cond.methodLink RX5 27 yJ7_fill_53178 ∈ gw_tbl := tb 350 (by decide +kernel)
theorem ml_X9_99 : Cond.methodLink RX9 99 yX9_fine ∈ gw_tbl := tb 353 (by decide +kernel)
theorem ml_L_18 : Cond.methodLink RL 18 yX9_set ∈ gw_tbl := tb 357 (by decide +kernel)
theorem ml_X9_102 : Cond.methodLink RX9 102 yX5_lookedAt ∈ gw_tbl := tb 361 (by decide +kernel)
theorem ml_X5_23 : Cond.methodLink RX5 23 yX5_isMissing ∈ gw_tbl := tb 365 (by decide +kernel)
theorem ml_X9_106 : Cond.methodLink RX9 106 yX5_put ∈ gw_tbl := tb 369 (by decide +kernel)
theorem ml_L_22 : Cond.methodLink RL 22 yX9_copy ∈ gw_tbl := tb 373 (by decide +kernel)
theorem ml_X9_109 : Cond.methodLink RX9 109 yX5_isMissing ∈ gw_tbl := tb 377 (by decide +kernel)
theorem ml_X9_112 : Cond.methodLink RX9 112 yX5_areAlike ∈ gw_tbl := tb 378 (by decide +kernel)
theorem ml_X9_116 : Cond.methodLink RX9 116 yX5_move ∈ gw_tbl := tb 382 (by decide +kernel)
theorem ml_X5_33 : Cond.methodLink RX5 33 arraycopyName ∈ gw_tbl := tb 386 (by decide +kernel)
theorem ml_L_27 : Cond.methodLink RL 27 yX9_drop ∈ gw_tbl := tb 389 (by decide +kernel)
theorem ml_X9_120 : Cond.methodLink RX9 120 yX5_remove ∈ gw_tbl := tb 393 (by decide +kernel)
theorem ml_L_32 : Cond.methodLink RL 32 yX9_feed ∈ gw_tbl := tb 397 (by decide +kernel)
theorem ml_X9_123 : Cond.methodLink RX9 123 yX6_isFull ∈ gw_tbl := tb 401 (by decide +kernel)
theorem ml_X9_128 : Cond.methodLink RX9 128 yX6_add ∈ gw_tbl := tb 406 (by decide +kernel)
theorem ml_L_36 : Cond.methodLink RL 36 yX9_court ∈ gw_tbl := tb 410 (by decide +kernel)
theorem ml_X9_131 : Cond.methodLink RX9 131 yX4_readAll ∈ gw_tbl := tb 414 (by decide +kernel)
theorem ml_X4_26 : Cond.methodLink RX4 26 yX2_clear ∈ gw_tbl := tb 418 (by decide +kernel)
theorem ml_X2_58 : Cond.methodLink RX2 58 yJ7_fill_53178 ∈ gw_tbl := tb 422 (by decide +kernel)
theorem ml_X4_31 : Cond.methodLink RX4 31 yX4_readLaw ∈ gw_tbl := tb 423 (by decide +kernel)
theorem ml_X4_48 : Cond.methodLink RX4 48 yX4_pass ∈ gw_tbl := tb 427 (by decide +kernel)
theorem ml_X4_72 : Cond.methodLink RX4 72 yX4_isNext ∈ gw_tbl := tb 431 (by decide +kernel)
theorem ml_X4_113 : Cond.methodLink RX4 113 yX6_at ∈ gw_tbl := tb 435 (by decide +kernel)
theorem ml_X4_79 : Cond.methodLink RX4 79 yX4_mark ∈ gw_tbl := tb 439 (by decide +kernel)
theorem ml_X4_52 : Cond.methodLink RX4 52 yX4_number ∈ gw_tbl := tb 443 (by decide +kernel)
theorem ml_X4_117 : Cond.methodLink RX4 117 yX6_isFigure ∈ gw_tbl := tb 447 (by decide +kernel)
theorem ml_X4_34 : Cond.methodLink RX4 34 yX4_readDream ∈ gw_tbl := tb 451 (by decide +kernel)
theorem ml_X4_65 : Cond.methodLink RX4 65 yX4_thing ∈ gw_tbl := tb 455 (by decide +kernel)
theorem ml_X4_37 : Cond.methodLink RX4 37 yX4_readHums ∈ gw_tbl := tb 459 (by decide +kernel)
theorem ml_X4_76 : Cond.methodLink RX4 76 yX4_kindNext ∈ gw_tbl := tb 463 (by decide +kernel)
theorem ml_X4_85 : Cond.methodLink RX4 85 yX4_readHum ∈ gw_tbl := tb 467 (by decide +kernel)
theorem ml_X4_40 : Cond.methodLink RX4 40 yX4_readCases ∈ gw_tbl := tb 471 (by decide +kernel)
theorem ml_X4_101 : Cond.methodLink RX4 101 yX4_readCase ∈ gw_tbl := tb 475 (by decide +kernel)
theorem ml_X9_134 : Cond.methodLink RX9 134 yX6_clear ∈ gw_tbl := tb 479 (by decide +kernel)
theorem ml_X9_148 : Cond.methodLink RX9 148 yX2_become ∈ gw_tbl := tb 484 (by decide +kernel)
theorem ml_X2_64 : Cond.methodLink RX2 64 arraycopyName ∈ gw_tbl := tb 488 (by decide +kernel)
theorem ml_X9_151 : Cond.methodLink RX9 151 yX0_clear ∈ gw_tbl := tb 489 (by decide +kernel)
theorem ml_L_41 : Cond.methodLink RL 41 yX9_fault ∈ gw_tbl := tb 493 (by decide +kernel)
theorem ml_L_45 : Cond.methodLink RL 45 yX9_undo ∈ gw_tbl := tb 497 (by decide +kernel)
theorem ml_X9_159 : Cond.methodLink RX9 159 yX0_takeBack ∈ gw_tbl := tb 502 (by decide +kernel)
theorem ml_X0_32 : Cond.methodLink RX0 32 yX2_readChanging ∈ gw_tbl := tb 506 (by decide +kernel)
theorem ml_L_49 : Cond.methodLink RL 49 yX9_hum ∈ gw_tbl := tb 510 (by decide +kernel)
theorem ml_X9_163 : Cond.methodLink RX9 163 yX2_isHum ∈ gw_tbl := tb 514 (by decide +kernel)
theorem ml_X9_172 : Cond.methodLink RX9 172 yX0_keep ∈ gw_tbl := tb 518 (by decide +kernel)
theorem ml_X0_19 : Cond.methodLink RX0 19 yX2_writeChanging ∈ gw_tbl := tb 522 (by decide +kernel)
theorem ml_X0_26 : Cond.methodLink RX0 26 yJ9_min_7cf53 ∈ gw_tbl := tb 526 (by decide +kernel)
theorem ml_X9_178 : Cond.methodLink RX9 178 yX2_by ∈ gw_tbl := tb 529 (by decide +kernel)
theorem ml_X2_74 : Cond.methodLink RX2 74 yX2_byKind ∈ gw_tbl := tb 533 (by decide +kernel)
theorem ml_X2_78 : Cond.methodLink RX2 78 yX2_thingBehind ∈ gw_tbl := tb 537 (by decide +kernel)
theorem ml_L_53 : Cond.methodLink RL 53 yX9_hear ∈ gw_tbl := tb 541 (by decide +kernel)
theorem ml_X9_182 : Cond.methodLink RX9 182 yX2_isCase ∈ gw_tbl := tb 545 (by decide +kernel)
theorem ml_X9_189 : Cond.methodLink RX9 189 yX2_verdict ∈ gw_tbl := tb 549 (by decide +kernel)
theorem ml_X2_82 : Cond.methodLink RX2 82 yX2_by ∈ gw_tbl := tb 553 (by decide +kernel)
theorem ml_X2_86 : Cond.methodLink RX2 86 yX2_judged ∈ gw_tbl := tb 554 (by decide +kernel)
theorem ml_X9_192 : Cond.methodLink RX9 192 yX2_dreamHeard ∈ gw_tbl := tb 558 (by decide +kernel)
theorem ml_X2_89 : Cond.methodLink RX2 89 yX2_worn ∈ gw_tbl := tb 562 (by decide +kernel)
theorem ml_L_57 : Cond.methodLink RL 57 yX9_appeal ∈ gw_tbl := tb 566 (by decide +kernel)
theorem ml_X9_198 : Cond.methodLink RX9 198 yX2_judged ∈ gw_tbl := tb 570 (by decide +kernel)
theorem ml_L_61 : Cond.methodLink RL 61 yX9_forget ∈ gw_tbl := tb 571 (by decide +kernel)
theorem ml_X9_201 : Cond.methodLink RX9 201 yX2_isThing ∈ gw_tbl := tb 575 (by decide +kernel)
theorem ml_L_65 : Cond.methodLink RL 65 yX9_learn ∈ gw_tbl := tb 579 (by decide +kernel)
theorem ml_L_70 : Cond.methodLink RL 70 yX9_ofHum ∈ gw_tbl := tb 583 (by decide +kernel)
theorem ml_L_74 : Cond.methodLink RL 74 yX9_ofCase ∈ gw_tbl := tb 587 (by decide +kernel)
theorem ml_L_78 : Cond.methodLink RL 78 yX9_stand ∈ gw_tbl := tb 591 (by decide +kernel)
theorem ml_X9_219 : Cond.methodLink RX9 219 yX2_isTold ∈ gw_tbl := tb 595 (by decide +kernel)
theorem ml_X9_222 : Cond.methodLink RX9 222 yX2_casesThatAre ∈ gw_tbl := tb 599 (by decide +kernel)
theorem ml_L_82 : Cond.methodLink RL 82 yX9_sleep ∈ gw_tbl := tb 603 (by decide +kernel)
theorem ml_X9_225 : Cond.methodLink RX9 225 yX9_isToldLength ∈ gw_tbl := tb 607 (by decide +kernel)
theorem ml_X9_228 : Cond.methodLink RX9 228 yX7_takeHums ∈ gw_tbl := tb 610 (by decide +kernel)
theorem ml_X7_22 : Cond.methodLink RX7 22 yX5_lookedAt ∈ gw_tbl := tb 614 (by decide +kernel)
theorem ml_X7_28 : Cond.methodLink RX7 28 yJ9_min_7cf53 ∈ gw_tbl := tb 615 (by decide +kernel)
theorem ml_X7_42 : Cond.methodLink RX7 42 yX2_isHum ∈ gw_tbl := tb 616 (by decide +kernel)
theorem ml_X9_232 : Cond.methodLink RX9 232 yX7_lastDream ∈ gw_tbl := tb 617 (by decide +kernel)
theorem ml_X7_57 : Cond.methodLink RX7 57 yX2_by ∈ gw_tbl := tb 621 (by decide +kernel)
theorem ml_L_86 : Cond.methodLink RL 86 yX9_dreams ∈ gw_tbl := tb 622 (by decide +kernel)
theorem ml_X9_235 : Cond.methodLink RX9 235 yX9_isBehind ∈ gw_tbl := tb 626 (by decide +kernel)
theorem ml_X9_238 : Cond.methodLink RX9 238 yX8_howManyBehind ∈ gw_tbl := tb 629 (by decide +kernel)
theorem ml_X8_34 : Cond.methodLink RX8 34 yX8_goBehind ∈ gw_tbl := tb 633 (by decide +kernel)
theorem ml_X8_45 : Cond.methodLink RX8 45 yJ7_fill_53178 ∈ gw_tbl := tb 637 (by decide +kernel)
theorem ml_X8_38 : Cond.methodLink RX8 38 yX2_dreamCount ∈ gw_tbl := tb 638 (by decide +kernel)
theorem ml_X8_55 : Cond.methodLink RX8 55 yX8_markBehind ∈ gw_tbl := tb 642 (by decide +kernel)
theorem ml_X8_67 : Cond.methodLink RX8 67 yX2_by ∈ gw_tbl := tb 646 (by decide +kernel)
theorem ml_X8_58 : Cond.methodLink RX8 58 arraycopyName ∈ gw_tbl := tb 647 (by decide +kernel)
theorem ml_X9_241 : Cond.methodLink RX9 241 yX8_inAllBehind ∈ gw_tbl := tb 648 (by decide +kernel)
theorem ml_X9_244 : Cond.methodLink RX9 244 yX8_inAnyBehind ∈ gw_tbl := tb 652 (by decide +kernel)
theorem ml_X9_247 : Cond.methodLink RX9 247 yX8_leastBehind ∈ gw_tbl := tb 656 (by decide +kernel)
theorem ml_X9_250 : Cond.methodLink RX9 250 yX8_greatestBehind ∈ gw_tbl := tb 661 (by decide +kernel)
theorem ml_L_90 : Cond.methodLink RL 90 yX9_least ∈ gw_tbl := tb 665 (by decide +kernel)
theorem ml_X9_253 : Cond.methodLink RX9 253 yX2_isDream ∈ gw_tbl := tb 669 (by decide +kernel)
theorem ml_X2_70 : Cond.methodLink RX2 70 yX2_dreamCount ∈ gw_tbl := tb 673 (by decide +kernel)
theorem ml_X9_256 : Cond.methodLink RX9 256 yX8_goWithin ∈ gw_tbl := tb 674 (by decide +kernel)
theorem ml_X8_74 : Cond.methodLink RX8 74 yX8_meet ∈ gw_tbl := tb 678 (by decide +kernel)
theorem ml_X9_260 : Cond.methodLink RX9 260 yX8_firstWith ∈ gw_tbl := tb 682 (by decide +kernel)
theorem ml_X9_263 : Cond.methodLink RX9 263 yX8_humOfRowTo ∈ gw_tbl := tb 686 (by decide +kernel)
theorem ml_L_94 : Cond.methodLink RL 94 yX9_save ∈ gw_tbl := tb 690 (by decide +kernel)
theorem ml_X9_266 : Cond.methodLink RX9 266 yX8_firstFree ∈ gw_tbl := tb 694 (by decide +kernel)
theorem ml_X8_78 : Cond.methodLink RX8 78 yX2_verdict ∈ gw_tbl := tb 698 (by decide +kernel)
theorem ml_L_98 : Cond.methodLink RL 98 yX9_can ∈ gw_tbl := tb 699 (by decide +kernel)
theorem ml_X9_269 : Cond.methodLink RX9 269 yX8_verdictsMet ∈ gw_tbl := tb 703 (by decide +kernel)
theorem ml_L_102 : Cond.methodLink RL 102 yX9_order ∈ gw_tbl := tb 707 (by decide +kernel)
theorem ml_X9_272 : Cond.methodLink RX9 272 yX3_tryAll ∈ gw_tbl := tb 711 (by decide +kernel)
theorem ml_X3_25 : Cond.methodLink RX3 25 yX2_casesThatAre ∈ gw_tbl := tb 715 (by decide +kernel)
theorem ml_X3_31 : Cond.methodLink RX3 31 yJ6_bitCount_0f7a4 ∈ gw_tbl := tb 716 (by decide +kernel)
theorem ml_X3_46 : Cond.methodLink RX3 46 yJ7_fill_53178 ∈ gw_tbl := tb 722 (by decide +kernel)
theorem ml_X3_55 : Cond.methodLink RX3 55 yX3_tryBehind ∈ gw_tbl := tb 723 (by decide +kernel)
theorem ml_X3_59 : Cond.methodLink RX3 59 yX3_compare ∈ gw_tbl := tb 727 (by decide +kernel)
theorem ml_X3_73 : Cond.methodLink RX3 73 yJ9_max_7cf53 ∈ gw_tbl := tb 731 (by decide +kernel)
theorem ml_X3_78 : Cond.methodLink RX3 78 arraycopyName ∈ gw_tbl := tb 734 (by decide +kernel)
theorem ml_X3_66 : Cond.methodLink RX3 66 yX2_verdict ∈ gw_tbl := tb 735 (by decide +kernel)
theorem ml_X3_70 : Cond.methodLink RX3 70 yX2_dreamHeard ∈ gw_tbl := tb 736 (by decide +kernel)
theorem ml_L_106 : Cond.methodLink RL 106 yX9_first ∈ gw_tbl := tb 738 (by decide +kernel)
theorem ml_X9_286 : Cond.methodLink RX9 286 yX3_bestToBegin ∈ gw_tbl := tb 742 (by decide +kernel)
theorem ml_L_110 : Cond.methodLink RL 110 yX9_clashes ∈ gw_tbl := tb 747 (by decide +kernel)
theorem ml_X9_290 : Cond.methodLink RX9 290 yX9_isOneOfTwo ∈ gw_tbl := tb 751 (by decide +kernel)
theorem ml_X9_293 : Cond.methodLink RX9 293 yX2_pairs ∈ gw_tbl := tb 754 (by decide +kernel)
theorem ml_X2_92 : Cond.methodLink RX2 92 yX2_doTheSame ∈ gw_tbl := tb 758 (by decide +kernel)
theorem ml_X2_96 : Cond.methodLink RX2 96 yX2_clash ∈ gw_tbl := tb 762 (by decide +kernel)
theorem ml_L_114 : Cond.methodLink RL 114 yX9_deaf ∈ gw_tbl := tb 767 (by decide +kernel)
theorem ml_X9_297 : Cond.methodLink RX9 297 yX2_deafHums ∈ gw_tbl := tb 771 (by decide +kernel)
theorem ml_L_118 : Cond.methodLink RL 118 yX9_same ∈ gw_tbl := tb 775 (by decide +kernel)
theorem ml_L_122 : Cond.methodLink RL 122 yX9_who ∈ gw_tbl := tb 779 (by decide +kernel)
theorem ml_X9_300 : Cond.methodLink RX9 300 yX9_takeBoth ∈ gw_tbl := tb 783 (by decide +kernel)
theorem ml_X9_375 : Cond.methodLink RX9 375 yX7_takeDreams ∈ gw_tbl := tb 787 (by decide +kernel)
theorem ml_X7_48 : Cond.methodLink RX7 48 arraycopyName ∈ gw_tbl := tb 791 (by decide +kernel)
theorem ml_X9_304 : Cond.methodLink RX9 304 yX7_kindsThatFit ∈ gw_tbl := tb 792 (by decide +kernel)
theorem ml_X7_70 : Cond.methodLink RX7 70 yX7_fits ∈ gw_tbl := tb 796 (by decide +kernel)
theorem ml_X7_88 : Cond.methodLink RX7 88 yX2_byKind ∈ gw_tbl := tb 800 (by decide +kernel)
theorem ml_X9_307 : Cond.methodLink RX9 307 yX7_thingsThatFit ∈ gw_tbl := tb 801 (by decide +kernel)
theorem ml_X9_310 : Cond.methodLink RX9 310 yX7_othersThatFit ∈ gw_tbl := tb 805 (by decide +kernel)
theorem ml_L_127 : Cond.methodLink RL 127 yX9_began ∈ gw_tbl := tb 809 (by decide +kernel)
theorem ml_X9_313 : Cond.methodLink RX9 313 yX7_howManyBegan ∈ gw_tbl := tb 813 (by decide +kernel)
theorem ml_X7_80 : Cond.methodLink RX7 80 yX2_dreamCount ∈ gw_tbl := tb 817 (by decide +kernel)
theorem ml_X7_84 : Cond.methodLink RX7 84 yX7_fitsAsItIs ∈ gw_tbl := tb 818 (by decide +kernel)
theorem ml_X9_316 : Cond.methodLink RX9 316 yX7_leastBegan ∈ gw_tbl := tb 822 (by decide +kernel)
theorem ml_L_132 : Cond.methodLink RL 132 yX9_snored ∈ gw_tbl := tb 827 (by decide +kernel)
theorem ml_X9_319 : Cond.methodLink RX9 319 yX7_placesNotHummed ∈ gw_tbl := tb 831 (by decide +kernel)
theorem ml_X7_60 : Cond.methodLink RX7 60 yX7_lastDream ∈ gw_tbl := tb 835 (by decide +kernel)
theorem ml_L_137 : Cond.methodLink RL 137 yX9_gone ∈ gw_tbl := tb 836 (by decide +kernel)
theorem ml_X9_324 : Cond.methodLink RX9 324 yJ6_bitCount_0f7a4 ∈ gw_tbl := tb 841 (by decide +kernel)
theorem ml_X9_329 : Cond.methodLink RX9 329 yX9_power ∈ gw_tbl := tb 842 (by decide +kernel)
theorem ml_X9_333 : Cond.methodLink RX9 333 yX2_freeParts ∈ gw_tbl := tb 845 (by decide +kernel)
theorem ml_X2_100 : Cond.methodLink RX2 100 yX2_verdict ∈ gw_tbl := tb 849 (by decide +kernel)
theorem ml_X2_103 : Cond.methodLink RX2 103 yJ6_bitCount_0f7a4 ∈ gw_tbl := tb 850 (by decide +kernel)
theorem ml_X2_108 : Cond.methodLinkNest RX2 108 yX9_power "SleepingJudge" ∈ lw_tbl := tn 851 (by decide +kernel)
theorem ml_X9_336 : Cond.methodLink RX9 336 yX9_commonDivisor ∈ gw_tbl := tb 852 (by decide +kernel)
theorem ml_L_142 : Cond.methodLink RL 142 yX9_drawn ∈ gw_tbl := tb 855 (by decide +kernel)
theorem ml_X9_341 : Cond.methodLink RX9 341 yX2_drawTerms ∈ gw_tbl := tb 860 (by decide +kernel)
theorem ml_X2_118 : Cond.methodLink RX2 118 yX2_hearIfOpen ∈ gw_tbl := tb 867 (by decide +kernel)
theorem ml_X2_122 : Cond.methodLink RX2 122 yX2_dreamHeard ∈ gw_tbl := tb 871 (by decide +kernel)
theorem ml_L_146 : Cond.methodLink RL 146 yX9_image ∈ gw_tbl := tb 872 (by decide +kernel)
theorem ml_X9_345 : Cond.methodLink RX9 345 yX9_isImage ∈ gw_tbl := tb 876 (by decide +kernel)
theorem ml_L_150 : Cond.methodLink RL 150 yX9_restore ∈ gw_tbl := tb 879 (by decide +kernel)
theorem ml_L_154 : Cond.methodLink RL 154 yX9_kind ∈ gw_tbl := tb 883 (by decide +kernel)
theorem ml_L_158 : Cond.methodLink RL 158 yX9_as ∈ gw_tbl := tb 887 (by decide +kernel)
theorem ml_X9_351 : Cond.methodLink RX9 351 yX9_isAlso ∈ gw_tbl := tb 891 (by decide +kernel)
theorem ml_X9_378 : Cond.methodLink RX9 378 yX9_kindAbove ∈ gw_tbl := tb 894 (by decide +kernel)
theorem ml_L_162 : Cond.methodLink RL 162 yX9_ask ∈ gw_tbl := tb 897 (by decide +kernel)
theorem ml_X9_354 : Cond.methodLink RX9 354 yX1_answer ∈ gw_tbl := tb 901 (by decide +kernel)
theorem ml_X1_21 : Cond.methodLink RX1 21 yX1_sizeBody ∈ gw_tbl := tb 905 (by decide +kernel)
theorem ml_X1_25 : Cond.methodLink RX1 25 yX1_markBody ∈ gw_tbl := tb 911 (by decide +kernel)
theorem ml_X1_28 : Cond.methodLink RX1 28 yX1_begin ∈ gw_tbl := tb 917 (by decide +kernel)
theorem ml_X1_43 : Cond.methodLink RX1 43 yX1_leave ∈ gw_tbl := tb 921 (by decide +kernel)
theorem ml_X1_53 : Cond.methodLink RX1 53 yJ6_bitCount_0f7a4 ∈ gw_tbl := tb 925 (by decide +kernel)
theorem ml_L_166 : Cond.methodLink RL 166 yX9_trace ∈ gw_tbl := tb 926 (by decide +kernel)
theorem ml_L_170 : Cond.methodLink RL 170 yX9_count ∈ gw_tbl := tb 930 (by decide +kernel)
theorem ml_X9_361 : Cond.methodLink RX9 361 yX5_howMany ∈ gw_tbl := tb 934 (by decide +kernel)
theorem ml_L_174 : Cond.methodLink RL 174 yX9_status ∈ gw_tbl := tb 938 (by decide +kernel)
theorem ml_L_12 : Cond.methodLink RL 12 yX10_init ∈ gw_tbl := tb 944 (by decide +kernel)
theorem ml_X10_1 : Cond.methodLink RX10 1 objectInit ∈ gw_tbl := tb 947 (by decide +kernel)
theorem ml_L_17 : Cond.methodLink RL 17 yX10_row ∈ gw_tbl := tb 1043 (by decide +kernel)
theorem ml_X10_76 : Cond.methodLink RX10 76 yX10_isRow ∈ gw_tbl := tb 1047 (by decide +kernel)
theorem ml_X10_72 : Cond.methodLink RX10 72 yX10_in ∈ gw_tbl := tb 1051 (by decide +kernel)
theorem ml_X10_83 : Cond.methodLink RX10 83 yX10_finding ∈ gw_tbl := tb 1056 (by decide +kernel)
theorem ml_L_21 : Cond.methodLink RL 21 yX10_set ∈ gw_tbl := tb 1061 (by decide +kernel)
theorem ml_L_26 : Cond.methodLink RL 26 yX10_copy ∈ gw_tbl := tb 1065 (by decide +kernel)
theorem ml_L_31 : Cond.methodLink RL 31 yX10_drop ∈ gw_tbl := tb 1069 (by decide +kernel)
theorem ml_L_35 : Cond.methodLink RL 35 yX10_feed ∈ gw_tbl := tb 1073 (by decide +kernel)
theorem ml_L_44 : Cond.methodLink RL 44 yX10_fault ∈ gw_tbl := tb 1079 (by decide +kernel)
theorem ml_L_40 : Cond.methodLink RL 40 yX10_court ∈ gw_tbl := tb 1083 (by decide +kernel)
theorem ml_X10_150 : Cond.methodLink RX10 150 yX10_begin ∈ gw_tbl := tb 1087 (by decide +kernel)
theorem ml_X10_124 : Cond.methodLink RX10 124 yX10_nextToken ∈ gw_tbl := tb 1091 (by decide +kernel)
theorem ml_X10_137 : Cond.methodLink RX10 137 yX10_isLetter ∈ gw_tbl := tb 1100 (by decide +kernel)
theorem ml_X10_127 : Cond.methodLink RX10 127 yX10_must ∈ gw_tbl := tb 1104 (by decide +kernel)
theorem ml_X10_120 : Cond.methodLink RX10 120 yX10_bad ∈ gw_tbl := tb 1108 (by decide +kernel)
theorem ml_X10_140 : Cond.methodLink RX10 140 yX10_number ∈ gw_tbl := tb 1112 (by decide +kernel)
theorem ml_X10_147 : Cond.methodLink RX10 147 yX10_mustSign ∈ gw_tbl := tb 1116 (by decide +kernel)
theorem ml_X10_153 : Cond.methodLink RX10 153 yX10_readDream ∈ gw_tbl := tb 1120 (by decide +kernel)
theorem ml_X10_144 : Cond.methodLink RX10 144 yX10_isSign ∈ gw_tbl := tb 1124 (by decide +kernel)
theorem ml_X10_156 : Cond.methodLink RX10 156 yX10_isSort ∈ gw_tbl := tb 1128 (by decide +kernel)
theorem ml_X10_134 : Cond.methodLink RX10 134 yX10_kindBy ∈ gw_tbl := tb 1132 (by decide +kernel)
theorem ml_X10_160 : Cond.methodLink RX10 160 yX10_readHum ∈ gw_tbl := tb 1135 (by decide +kernel)
theorem ml_X10_163 : Cond.methodLink RX10 163 yX10_readCase ∈ gw_tbl := tb 1139 (by decide +kernel)
theorem ml_X10_166 : Cond.methodLink RX10 166 yX10_failed ∈ gw_tbl := tb 1143 (by decide +kernel)
theorem ml_L_52 : Cond.methodLink RL 52 yX10_hum ∈ gw_tbl := tb 1148 (by decide +kernel)
theorem ml_X10_201 : Cond.methodLink RX10 201 yX10_isHum ∈ gw_tbl := tb 1152 (by decide +kernel)
theorem ml_X10_204 : Cond.methodLink RX10 204 yX10_keep ∈ gw_tbl := tb 1156 (by decide +kernel)
theorem ml_X10_191 : Cond.methodLink RX10 191 yX10_hummed ∈ gw_tbl := tb 1160 (by decide +kernel)
theorem ml_X10_177 : Cond.methodLink RX10 177 yX10_of ∈ gw_tbl := tb 1163 (by decide +kernel)
theorem ml_X10_181 : Cond.methodLink RX10 181 yX10_has ∈ gw_tbl := tb 1166 (by decide +kernel)
theorem ml_L_56 : Cond.methodLink RL 56 yX10_hear ∈ gw_tbl := tb 1169 (by decide +kernel)
theorem ml_X10_207 : Cond.methodLink RX10 207 yX10_isCase ∈ gw_tbl := tb 1173 (by decide +kernel)
theorem ml_X10_188 : Cond.methodLink RX10 188 yX10_its ∈ gw_tbl := tb 1177 (by decide +kernel)
theorem ml_X10_211 : Cond.methodLink RX10 211 yX10_heard ∈ gw_tbl := tb 1181 (by decide +kernel)
theorem ml_X10_194 : Cond.methodLink RX10 194 yX10_verdict ∈ gw_tbl := tb 1184 (by decide +kernel)
theorem ml_X10_197 : Cond.methodLink RX10 197 yX10_worn ∈ gw_tbl := tb 1187 (by decide +kernel)
theorem ml_X10_185 : Cond.methodLink RX10 185 yX10_bits ∈ gw_tbl := tb 1190 (by decide +kernel)
theorem ml_L_60 : Cond.methodLink RL 60 yX10_appeal ∈ gw_tbl := tb 1193 (by decide +kernel)
theorem ml_L_64 : Cond.methodLink RL 64 yX10_forget ∈ gw_tbl := tb 1197 (by decide +kernel)
theorem ml_X10_214 : Cond.methodLink RX10 214 yX10_isThing ∈ gw_tbl := tb 1201 (by decide +kernel)
theorem ml_L_69 : Cond.methodLink RL 69 yX10_learn ∈ gw_tbl := tb 1205 (by decide +kernel)
theorem ml_L_48 : Cond.methodLink RL 48 yX10_undo ∈ gw_tbl := tb 1209 (by decide +kernel)
theorem ml_L_73 : Cond.methodLink RL 73 yX10_ofHum ∈ gw_tbl := tb 1213 (by decide +kernel)
theorem ml_L_77 : Cond.methodLink RL 77 yX10_ofCase ∈ gw_tbl := tb 1217 (by decide +kernel)
theorem ml_L_81 : Cond.methodLink RL 81 yX10_stand ∈ gw_tbl := tb 1222 (by decide +kernel)
theorem ml_X10_219 : Cond.methodLink RX10 219 yX10_isThere ∈ gw_tbl := tb 1226 (by decide +kernel)
theorem ml_X10_222 : Cond.methodLink RX10 222 yX10_those ∈ gw_tbl := tb 1230 (by decide +kernel)
theorem ml_L_85 : Cond.methodLink RL 85 yX10_sleep ∈ gw_tbl := tb 1233 (by decide +kernel)
theorem ml_X10_231 : Cond.methodLink RX10 231 yX10_humsFound ∈ gw_tbl := tb 1238 (by decide +kernel)
theorem ml_X10_225 : Cond.methodLink RX10 225 yX10_rowFound ∈ gw_tbl := tb 1242 (by decide +kernel)
theorem ml_L_89 : Cond.methodLink RL 89 yX10_dreams ∈ gw_tbl := tb 1246 (by decide +kernel)
theorem ml_X10_236 : Cond.methodLink RX10 236 yX10_spread ∈ gw_tbl := tb 1251 (by decide +kernel)
theorem ml_X10_173 : Cond.methodLink RX10 173 yX10_allDreams ∈ gw_tbl := tb 1255 (by decide +kernel)
theorem ml_L_93 : Cond.methodLink RL 93 yX10_least ∈ gw_tbl := tb 1259 (by decide +kernel)
theorem ml_X10_239 : Cond.methodLink RX10 239 yX10_areThings ∈ gw_tbl := tb 1263 (by decide +kernel)
theorem ml_X10_242 : Cond.methodLink RX10 242 yX10_measure ∈ gw_tbl := tb 1267 (by decide +kernel)
theorem ml_X10_245 : Cond.methodLink RX10 245 yX10_wayOf ∈ gw_tbl := tb 1271 (by decide +kernel)
theorem ml_L_97 : Cond.methodLink RL 97 yX10_save ∈ gw_tbl := tb 1275 (by decide +kernel)
theorem ml_L_101 : Cond.methodLink RL 101 yX10_can ∈ gw_tbl := tb 1279 (by decide +kernel)
theorem ml_L_105 : Cond.methodLink RL 105 yX10_order ∈ gw_tbl := tb 1283 (by decide +kernel)
theorem ml_X10_260 : Cond.methodLink RX10 260 yX10_tryOrders ∈ gw_tbl := tb 1287 (by decide +kernel)
theorem ml_X10_251 : Cond.methodLink RX10 251 yX10_layThen ∈ gw_tbl := tb 1291 (by decide +kernel)
theorem ml_X10_257 : Cond.methodLink RX10 257 yX10_nextRow ∈ gw_tbl := tb 1295 (by decide +kernel)
theorem ml_L_109 : Cond.methodLink RL 109 yX10_first ∈ gw_tbl := tb 1299 (by decide +kernel)
theorem ml_L_113 : Cond.methodLink RL 113 yX10_clashes ∈ gw_tbl := tb 1303 (by decide +kernel)
theorem ml_X10_263 : Cond.methodLink RX10 263 yX10_doClash ∈ gw_tbl := tb 1307 (by decide +kernel)
theorem ml_L_117 : Cond.methodLink RL 117 yX10_deaf ∈ gw_tbl := tb 1311 (by decide +kernel)
theorem ml_L_121 : Cond.methodLink RL 121 yX10_same ∈ gw_tbl := tb 1315 (by decide +kernel)
theorem ml_X10_266 : Cond.methodLink RX10 266 yX10_areSame ∈ gw_tbl := tb 1319 (by decide +kernel)
theorem ml_L_126 : Cond.methodLink RL 126 yX10_who ∈ gw_tbl := tb 1323 (by decide +kernel)
theorem ml_X10_269 : Cond.methodLink RX10 269 yX10_isSo ∈ gw_tbl := tb 1327 (by decide +kernel)
theorem ml_L_131 : Cond.methodLink RL 131 yX10_began ∈ gw_tbl := tb 1331 (by decide +kernel)
theorem ml_L_136 : Cond.methodLink RL 136 yX10_snored ∈ gw_tbl := tb 1335 (by decide +kernel)
theorem ml_L_141 : Cond.methodLink RL 141 yX10_gone ∈ gw_tbl := tb 1339 (by decide +kernel)
theorem ml_L_145 : Cond.methodLink RL 145 yX10_drawn ∈ gw_tbl := tb 1345 (by decide +kernel)
theorem ml_L_149 : Cond.methodLink RL 149 yX10_image ∈ gw_tbl := tb 1353 (by decide +kernel)
theorem ml_L_153 : Cond.methodLink RL 153 yX10_restore ∈ gw_tbl := tb 1357 (by decide +kernel)
theorem ml_L_157 : Cond.methodLink RL 157 yX10_kind ∈ gw_tbl := tb 1361 (by decide +kernel)
theorem ml_L_161 : Cond.methodLink RL 161 yX10_as ∈ gw_tbl := tb 1365 (by decide +kernel)
theorem ml_X10_287 : Cond.methodLink RX10 287 yX10_isOf ∈ gw_tbl := tb 1370 (by decide +kernel)
theorem ml_L_165 : Cond.methodLink RL 165 yX10_ask ∈ gw_tbl := tb 1373 (by decide +kernel)
theorem ml_X10_305 : Cond.methodLink RX10 305 yX10_sizeOf ∈ gw_tbl := tb 1377 (by decide +kernel)
theorem ml_X10_299 : Cond.methodLink RX10 299 yX10_rainSize ∈ gw_tbl := tb 1381 (by decide +kernel)
theorem ml_X10_293 : Cond.methodLink RX10 293 yX10_began0 ∈ gw_tbl := tb 1385 (by decide +kernel)
theorem ml_X10_296 : Cond.methodLink RX10 296 yX10_plainSize ∈ gw_tbl := tb 1389 (by decide +kernel)
theorem ml_X10_302 : Cond.methodLink RX10 302 yX10_markOf ∈ gw_tbl := tb 1393 (by decide +kernel)
theorem ml_L_169 : Cond.methodLink RL 169 yX10_trace ∈ gw_tbl := tb 1397 (by decide +kernel)
theorem ml_L_173 : Cond.methodLink RL 173 yX10_count ∈ gw_tbl := tb 1401 (by decide +kernel)
theorem ml_L_177 : Cond.methodLink RL 177 yX10_status ∈ gw_tbl := tb 1405 (by decide +kernel)
theorem kk_X9_90 : Cond.constant RX9 90 (-1000001) ∈ gw_tbl := tb 340 (by decide +kernel)
theorem kk_X9_374 : Cond.constant RX9 374 (-1000010) ∈ gw_tbl := tb 345 (by decide +kernel)
theorem kk_X9_127 : Cond.constant RX9 127 (-1000003) ∈ gw_tbl := tb 405 (by decide +kernel)
theorem kk_X9_144 : Cond.constant RX9 144 (-1000100) ∈ gw_tbl := tb 483 (by decide +kernel)
theorem kk_X9_158 : Cond.constant RX9 158 (-1000002) ∈ gw_tbl := tb 501 (by decide +kernel)
theorem kk_X8_44 : Cond.constant RX8 44 (-1000000) ∈ gw_tbl := tb 660 (by decide +kernel)
theorem kk_J6_265 : Cond.constant RJ6 265 (1431655765) ∈ gw_tbl := tb 719 (by decide +kernel)
theorem kk_J6_266 : Cond.constant RJ6 266 (858993459) ∈ gw_tbl := tb 720 (by decide +kernel)
theorem kk_J6_267 : Cond.constant RJ6 267 (252645135) ∈ gw_tbl := tb 721 (by decide +kernel)
theorem kk_X9_285 : Cond.constant RX9 285 (-1000000) ∈ gw_tbl := tb 737 (by decide +kernel)
theorem kk_X3_84 : Cond.constant RX3 84 (-1000000) ∈ gw_tbl := tb 746 (by decide +kernel)
theorem kk_X2_99 : Cond.constant RX2 99 (-1000000) ∈ gw_tbl := tb 766 (by decide +kernel)
theorem kk_X7_87 : Cond.constant RX7 87 (-1000000) ∈ gw_tbl := tb 826 (by decide +kernel)
theorem kk_X9_322 : Cond.constantLong RX9 322 (-1000001) ∈ gw_tbl := tb 840 (by decide +kernel)
theorem kk_X9_340 : Cond.constant RX9 340 (999999) ∈ gw_tbl := tb 859 (by decide +kernel)
theorem kk_X2_112 : Cond.constantLong RX2 112 (16807) ∈ gw_tbl := tb 864 (by decide +kernel)
theorem kk_X2_114 : Cond.constantLong RX2 114 (2147483647) ∈ gw_tbl := tb 865 (by decide +kernel)
theorem kk_X2_116 : Cond.constantLong RX2 116 (4) ∈ gw_tbl := tb 866 (by decide +kernel)
theorem kk_X10_70 : Cond.constantLong RX10 70 (7) ∈ gw_tbl := tb 1050 (by decide +kernel)
theorem kk_X10_80 : Cond.constantLong RX10 80 (2) ∈ gw_tbl := tb 1054 (by decide +kernel)
theorem kk_X10_82 : Cond.constant RX10 82 (-1000001) ∈ gw_tbl := tb 1055 (by decide +kernel)
theorem kk_X10_69 : Cond.constant RX10 69 (-1000010) ∈ gw_tbl := tb 1060 (by decide +kernel)
theorem kk_X10_87 : Cond.constantLong RX10 87 (255) ∈ gw_tbl := tb 1077 (by decide +kernel)
theorem kk_X10_92 : Cond.constant RX10 92 (-1000003) ∈ gw_tbl := tb 1078 (by decide +kernel)
theorem kk_X10_105 : Cond.constant RX10 105 (-1000000) ∈ gw_tbl := tb 1095 (by decide +kernel)
theorem kk_X10_109 : Cond.constantLong RX10 109 (97) ∈ gw_tbl := tb 1096 (by decide +kernel)
theorem kk_X10_111 : Cond.constantLong RX10 111 (122) ∈ gw_tbl := tb 1097 (by decide +kernel)
theorem kk_X10_113 : Cond.constantLong RX10 113 (48) ∈ gw_tbl := tb 1098 (by decide +kernel)
theorem kk_X10_115 : Cond.constantLong RX10 115 (57) ∈ gw_tbl := tb 1099 (by decide +kernel)
theorem kk_X10_169 : Cond.constant RX10 169 (-1000100) ∈ gw_tbl := tb 1147 (by decide +kernel)
theorem kk_X10_210 : Cond.constant RX10 210 (-1000002) ∈ gw_tbl := tb 1180 (by decide +kernel)
theorem kk_X10_217 : Cond.constantLong RX10 217 (4) ∈ gw_tbl := tb 1221 (by decide +kernel)
theorem kk_X10_229 : Cond.constantLong RX10 229 (12) ∈ gw_tbl := tb 1237 (by decide +kernel)
theorem kk_X10_234 : Cond.constantLong RX10 234 (8) ∈ gw_tbl := tb 1250 (by decide +kernel)
theorem kk_X10_273 : Cond.constantLong RX10 273 (10) ∈ gw_tbl := tb 1343 (by decide +kernel)
theorem kk_X10_275 : Cond.constantLong RX10 275 (-1000001) ∈ gw_tbl := tb 1344 (by decide +kernel)
theorem kk_X10_277 : Cond.constantLong RX10 277 (60) ∈ gw_tbl := tb 1349 (by decide +kernel)
theorem kk_X10_279 : Cond.constantLong RX10 279 (999999) ∈ gw_tbl := tb 1350 (by decide +kernel)
theorem kk_X10_281 : Cond.constantLong RX10 281 (16807) ∈ gw_tbl := tb 1351 (by decide +kernel)
theorem kk_X10_283 : Cond.constantLong RX10 283 (2147483647) ∈ gw_tbl := tb 1352 (by decide +kernel)
theorem kk_X10_285 : Cond.constantLong RX10 285 (5) ∈ gw_tbl := tb 1369 (by decide +kernel)
end
section
def dchk (b : ByteArray) (L : List (Nat × Instr × Nat)) : Bool := L.all (fun q => decide (decode b q.1 = .ok (q.2.1, q.2.2)))
theorem dk {b : ByteArray} {L : List (Nat × Instr × Nat)} (h : dchk b L = true) (k : Nat) {pc n : Nat} {i : Instr} (hk : L[k]? = some (pc, i, n)) : decode b pc = .ok (i, n) := by
  have := List.all_eq_true.mp h _ (List.mem_of_getElem? hk)
  exact of_decide_eq_true this
theorem dd_X0_init : dchk cX0_init [(0, .aload_n 0, 1), (1, .invokespecial 1, 3), (4, .aload_n 0, 1), (5, .sipush 336, 3), (8, .newarray .int, 2), (10, .putfield 11, 3), (13, .return_, 1)] = true := by decide +kernel
theorem dd_X0_keep : dchk cX0_keep [(0, .aload_n 1, 1), (1, .aload_n 0, 1), (2, .getfield 11, 3), (5, .aload_n 0, 1), (6, .getfield 15, 3), (9, .bipush 14, 2), (11, .imul, 1), (12, .invokevirtual 19, 3), (15, .aload_n 0, 1), (16, .aload_n 0, 1), (17, .getfield 15, 3), (20, .iconst 1, 1), (21, .iadd, 1), (22, .bipush 24, 2), (24, .if_icmp .ge 12, 3), (27, .aload_n 0, 1), (28, .getfield 15, 3), (31, .iconst 1, 1), (32, .iadd, 1), (33, .goto 4, 3), (36, .iconst 0, 1), (37, .putfield 15, 3), (40, .aload_n 0, 1), (41, .aload_n 0, 1), (42, .getfield 23, 3), (45, .iconst 1, 1), (46, .iadd, 1), (47, .bipush 24, 2), (49, .invokestatic 26, 3), (52, .putfield 23, 3), (55, .return_, 1)] = true := by decide +kernel
theorem dd_X0_takeBack : dchk cX0_takeBack [(0, .aload_n 0, 1), (1, .aload_n 0, 1), (2, .getfield 15, 3), (5, .ifCond .le 12, 3), (8, .aload_n 0, 1), (9, .getfield 15, 3), (12, .iconst 1, 1), (13, .isub, 1), (14, .goto 5, 3), (17, .bipush 23, 2), (19, .putfield 15, 3), (22, .aload_n 1, 1), (23, .aload_n 0, 1), (24, .getfield 11, 3), (27, .aload_n 0, 1), (28, .getfield 15, 3), (31, .bipush 14, 2), (33, .imul, 1), (34, .invokevirtual 32, 3), (37, .aload_n 0, 1), (38, .dup, 1), (39, .getfield 23, 3), (42, .iconst 1, 1), (43, .isub, 1), (44, .putfield 23, 3), (47, .aload_n 0, 1), (48, .getfield 23, 3), (51, .ireturn, 1)] = true := by decide +kernel
theorem dd_X0_clear : dchk cX0_clear [(0, .aload_n 0, 1), (1, .iconst 0, 1), (2, .putfield 15, 3), (5, .aload_n 0, 1), (6, .iconst 0, 1), (7, .putfield 23, 3), (10, .return_, 1)] = true := by decide +kernel
theorem dd_X1_init : dchk cX1_init [(0, .aload_n 0, 1), (1, .invokespecial 1, 3), (4, .aload_n 0, 1), (5, .bipush 16, 2), (7, .newarray .int, 2), (9, .putfield 9, 3), (12, .aload_n 0, 1), (13, .aload_n 1, 1), (14, .putfield 13, 3), (17, .return_, 1)] = true := by decide +kernel
theorem dd_X1_answer : dchk cX1_answer [(0, .aload_n 0, 1), (1, .iconst 0, 1), (2, .putfield 17, 3), (5, .aload_n 0, 1), (6, .iload_n 2, 1), (7, .ifCond .ne 11, 3), (10, .aload_n 0, 1), (11, .iload_n 1, 1), (12, .invokevirtual 21, 3), (15, .goto 8, 3), (18, .aload_n 0, 1), (19, .iload_n 1, 1), (20, .invokevirtual 25, 3), (23, .iload_n 1, 1), (24, .iconst 0, 1), (25, .invokevirtual 28, 3), (28, .ireturn, 1)] = true := by decide +kernel
theorem dd_X1_sizeBody : dchk cX1_sizeBody [(0, .getstatic 32, 3), (3, .aload_n 0, 1), (4, .getfield 13, 3), (7, .getfield 35, 3), (10, .iload_n 1, 1), (11, .iaload, 1), (12, .iaload, 1), (13, .ireturn, 1)] = true := by decide +kernel
theorem dd_X1_markBody : dchk cX1_markBody [(0, .getstatic 40, 3), (3, .aload_n 0, 1), (4, .getfield 13, 3), (7, .getfield 35, 3), (10, .iload_n 1, 1), (11, .iaload, 1), (12, .iaload, 1), (13, .ireturn, 1)] = true := by decide +kernel
theorem dd_X1_begin : dchk cX1_begin [(0, .iload_n 3, 1), (1, .bipush 16, 2), (3, .if_icmp .lt 5, 3), (6, .iconst 0, 1), (7, .ireturn, 1), (8, .aload_n 0, 1), (9, .iload_n 1, 1), (10, .invokevirtual 43, 3), (13, .iload_n 3, 1), (14, .iconst 1, 1), (15, .iadd, 1), (16, .istore 4, 2), (18, .iload_n 1, 1), (19, .tableswitch 214 10 24 #[73, 83, 106, 117, 130, 214, 214, 214, 214, 214, 142, 144, 165, 179, 202], 73), (92, .aload_n 0, 1), (93, .getfield 13, 3), (96, .getfield 47, 3), (99, .iload_n 2, 1), (100, .iaload, 1), (101, .ireturn, 1), (102, .aload_n 0, 1), (103, .bipush 10, 2), (105, .iload_n 2, 1), (106, .iload 4, 2), (108, .invokevirtual 28, 3), (111, .aload_n 0, 1), (112, .aload_n 0, 1), (113, .iload_n 2, 1), (114, .invokevirtual 25, 3), (117, .iload_n 2, 1), (118, .iload 4, 2), (120, .invokevirtual 28, 3), (123, .iadd, 1), (124, .ireturn, 1), (125, .aload_n 0, 1), (126, .bipush 11, 2), (128, .iload_n 2, 1), (129, .iload 4, 2), (131, .invokevirtual 28, 3), (134, .ineg, 1), (135, .ireturn, 1), (136, .aload_n 0, 1), (137, .bipush 10, 2), (139, .iload_n 2, 1), (140, .iload 4, 2), (142, .invokevirtual 28, 3), (145, .bipush 100, 2), (147, .isub, 1), (148, .ireturn, 1), (149, .iconst 2, 1), (150, .aload_n 0, 1), (151, .bipush 13, 2), (153, .iload_n 2, 1), (154, .iload 4, 2), (156, .invokevirtual 28, 3), (159, .imul, 1), (160, .ireturn, 1), (161, .iload_n 2, 1), (162, .ireturn, 1), (163, .aload_n 0, 1), (164, .bipush 20, 2), (166, .iload_n 2, 1), (167, .iload 4, 2), (169, .invokevirtual 28, 3), (172, .aload_n 0, 1), (173, .getfield 13, 3), (176, .getfield 50, 3), (179, .invokestatic 53, 3), (182, .iadd, 1), (183, .ireturn, 1), (184, .aload_n 0, 1), (185, .bipush 21, 2), (187, .iload_n 2, 1), (188, .iload 4, 2), (190, .invokevirtual 28, 3), (193, .sipush 1000, 3), (196, .isub, 1), (197, .ireturn, 1), (198, .aload_n 0, 1), (199, .bipush 20, 2), (201, .iload_n 2, 1), (202, .iload 4, 2), (204, .invokevirtual 28, 3), (207, .aload_n 0, 1), (208, .aload_n 0, 1), (209, .iload_n 2, 1), (210, .invokevirtual 21, 3), (213, .iload_n 2, 1), (214, .iload 4, 2), (216, .invokevirtual 28, 3), (219, .isub, 1), (220, .ireturn, 1), (221, .iconst 2, 1), (222, .aload_n 0, 1), (223, .bipush 21, 2), (225, .iload_n 2, 1), (226, .iload 4, 2), (228, .invokevirtual 28, 3), (231, .imul, 1), (232, .ireturn, 1), (233, .iconst 0, 1), (234, .ireturn, 1)] = true := by decide +kernel
theorem dd_X1_leave : dchk cX1_leave [(0, .aload_n 0, 1), (1, .getfield 17, 3), (4, .bipush 16, 2), (6, .if_icmp .ge 23, 3), (9, .aload_n 0, 1), (10, .getfield 9, 3), (13, .aload_n 0, 1), (14, .getfield 17, 3), (17, .iload_n 1, 1), (18, .iastore, 1), (19, .aload_n 0, 1), (20, .dup, 1), (21, .getfield 17, 3), (24, .iconst 1, 1), (25, .iadd, 1), (26, .putfield 17, 3), (29, .return_, 1)] = true := by decide +kernel
theorem dd_X2_init : dchk cX2_init [(0, .aload_n 0, 1), (1, .invokespecial 3, 3), (4, .aload_n 0, 1), (5, .bipush 6, 2), (7, .newarray .int, 2), (9, .putfield 9, 3), (12, .aload_n 0, 1), (13, .bipush 6, 2), (15, .newarray .int, 2), (17, .putfield 15, 3), (20, .aload_n 0, 1), (21, .bipush 6, 2), (23, .newarray .int, 2), (25, .putfield 18, 3), (28, .aload_n 0, 1), (29, .iconst 5, 1), (30, .newarray .int, 2), (32, .putfield 21, 3), (35, .aload_n 0, 1), (36, .iconst 5, 1), (37, .newarray .int, 2), (39, .putfield 24, 3), (42, .aload_n 0, 1), (43, .iconst 5, 1), (44, .newarray .int, 2), (46, .putfield 27, 3), (49, .aload_n 0, 1), (50, .iconst 5, 1), (51, .newarray .int, 2), (53, .putfield 30, 3), (56, .return_, 1)] = true := by decide +kernel
theorem dd_X2_clear : dchk cX2_clear [(0, .aload_n 0, 1), (1, .iconst 0, 1), (2, .putfield 33, 3), (5, .aload_n 0, 1), (6, .iconst 0, 1), (7, .putfield 37, 3), (10, .aload_n 0, 1), (11, .iconst 0, 1), (12, .putfield 40, 3), (15, .aload_n 0, 1), (16, .iconst 0, 1), (17, .putfield 43, 3), (20, .aload_n 0, 1), (21, .iconst 0, 1), (22, .putfield 46, 3), (25, .aload_n 0, 1), (26, .iconst 0, 1), (27, .putfield 49, 3), (30, .aload_n 0, 1), (31, .iconst 0, 1), (32, .putfield 52, 3), (35, .aload_n 0, 1), (36, .iconst 0, 1), (37, .putfield 55, 3), (40, .aload_n 0, 1), (41, .getfield 30, 3), (44, .iconst 0, 1), (45, .invokestatic 58, 3), (48, .return_, 1)] = true := by decide +kernel
theorem dd_X2_become : dchk cX2_become [(0, .aload_n 0, 1), (1, .aload_n 1, 1), (2, .getfield 33, 3), (5, .putfield 33, 3), (8, .aload_n 0, 1), (9, .aload_n 1, 1), (10, .getfield 37, 3), (13, .putfield 37, 3), (16, .aload_n 0, 1), (17, .aload_n 1, 1), (18, .getfield 40, 3), (21, .putfield 40, 3), (24, .aload_n 0, 1), (25, .aload_n 1, 1), (26, .getfield 43, 3), (29, .putfield 43, 3), (32, .aload_n 0, 1), (33, .aload_n 1, 1), (34, .getfield 46, 3), (37, .putfield 46, 3), (40, .aload_n 0, 1), (41, .aload_n 1, 1), (42, .getfield 49, 3), (45, .putfield 49, 3), (48, .aload_n 0, 1), (49, .aload_n 1, 1), (50, .getfield 52, 3), (53, .putfield 52, 3), (56, .aload_n 0, 1), (57, .aload_n 1, 1), (58, .getfield 55, 3), (61, .putfield 55, 3), (64, .aload_n 1, 1), (65, .getfield 9, 3), (68, .iconst 0, 1), (69, .aload_n 0, 1), (70, .getfield 9, 3), (73, .iconst 0, 1), (74, .bipush 6, 2), (76, .invokestatic 64, 3), (79, .aload_n 1, 1), (80, .getfield 15, 3), (83, .iconst 0, 1), (84, .aload_n 0, 1), (85, .getfield 15, 3), (88, .iconst 0, 1), (89, .bipush 6, 2), (91, .invokestatic 64, 3), (94, .aload_n 1, 1), (95, .getfield 18, 3), (98, .iconst 0, 1), (99, .aload_n 0, 1), (100, .getfield 18, 3), (103, .iconst 0, 1), (104, .bipush 6, 2), (106, .invokestatic 64, 3), (109, .aload_n 1, 1), (110, .getfield 21, 3), (113, .iconst 0, 1), (114, .aload_n 0, 1), (115, .getfield 21, 3), (118, .iconst 0, 1), (119, .iconst 5, 1), (120, .invokestatic 64, 3), (123, .aload_n 1, 1), (124, .getfield 24, 3), (127, .iconst 0, 1), (128, .aload_n 0, 1), (129, .getfield 24, 3), (132, .iconst 0, 1), (133, .iconst 5, 1), (134, .invokestatic 64, 3), (137, .aload_n 1, 1), (138, .getfield 27, 3), (141, .iconst 0, 1), (142, .aload_n 0, 1), (143, .getfield 27, 3), (146, .iconst 0, 1), (147, .iconst 5, 1), (148, .invokestatic 64, 3), (151, .aload_n 1, 1), (152, .getfield 30, 3), (155, .iconst 0, 1), (156, .aload_n 0, 1), (157, .getfield 30, 3), (160, .iconst 0, 1), (161, .iconst 5, 1), (162, .invokestatic 64, 3), (165, .return_, 1)] = true := by decide +kernel
theorem dd_X2_writeChanging : dchk cX2_writeChanging [(0, .aload_n 1, 1), (1, .iload_n 2, 1), (2, .aload_n 0, 1), (3, .getfield 43, 3), (6, .iastore, 1), (7, .aload_n 1, 1), (8, .iload_n 2, 1), (9, .iconst 1, 1), (10, .iadd, 1), (11, .aload_n 0, 1), (12, .getfield 46, 3), (15, .iastore, 1), (16, .aload_n 1, 1), (17, .iload_n 2, 1), (18, .iconst 2, 1), (19, .iadd, 1), (20, .aload_n 0, 1), (21, .getfield 49, 3), (24, .iastore, 1), (25, .aload_n 0, 1), (26, .getfield 30, 3), (29, .iconst 0, 1), (30, .aload_n 1, 1), (31, .iload_n 2, 1), (32, .iconst 3, 1), (33, .iadd, 1), (34, .iconst 5, 1), (35, .invokestatic 64, 3), (38, .aload_n 0, 1), (39, .getfield 15, 3), (42, .iconst 0, 1), (43, .aload_n 1, 1), (44, .iload_n 2, 1), (45, .iconst 3, 1), (46, .iadd, 1), (47, .iconst 5, 1), (48, .iadd, 1), (49, .bipush 6, 2), (51, .invokestatic 64, 3), (54, .return_, 1)] = true := by decide +kernel
theorem dd_X2_readChanging : dchk cX2_readChanging [(0, .aload_n 0, 1), (1, .aload_n 1, 1), (2, .iload_n 2, 1), (3, .iaload, 1), (4, .putfield 43, 3), (7, .aload_n 0, 1), (8, .aload_n 1, 1), (9, .iload_n 2, 1), (10, .iconst 1, 1), (11, .iadd, 1), (12, .iaload, 1), (13, .putfield 46, 3), (16, .aload_n 0, 1), (17, .aload_n 1, 1), (18, .iload_n 2, 1), (19, .iconst 2, 1), (20, .iadd, 1), (21, .iaload, 1), (22, .putfield 49, 3), (25, .aload_n 1, 1), (26, .iload_n 2, 1), (27, .iconst 3, 1), (28, .iadd, 1), (29, .aload_n 0, 1), (30, .getfield 30, 3), (33, .iconst 0, 1), (34, .iconst 5, 1), (35, .invokestatic 64, 3), (38, .aload_n 1, 1), (39, .iload_n 2, 1), (40, .iconst 3, 1), (41, .iadd, 1), (42, .iconst 5, 1), (43, .iadd, 1), (44, .aload_n 0, 1), (45, .getfield 15, 3), (48, .iconst 0, 1), (49, .bipush 6, 2), (51, .invokestatic 64, 3), (54, .return_, 1)] = true := by decide +kernel
theorem dd_X2_isTold : dchk cX2_isTold [(0, .aload_n 0, 1), (1, .getfield 33, 3), (4, .ifCond .le 7, 3), (7, .iconst 1, 1), (8, .goto 4, 3), (11, .iconst 0, 1), (12, .ireturn, 1)] = true := by decide +kernel
theorem dd_X2_isHum : dchk cX2_isHum [(0, .iload_n 1, 1), (1, .ifCond .lt 15, 3), (4, .iload_n 1, 1), (5, .aload_n 0, 1), (6, .getfield 52, 3), (9, .if_icmp .ge 7, 3), (12, .iconst 1, 1), (13, .goto 4, 3), (16, .iconst 0, 1), (17, .ireturn, 1)] = true := by decide +kernel
theorem dd_X2_isCase : dchk cX2_isCase [(0, .iload_n 1, 1), (1, .ifCond .lt 15, 3), (4, .iload_n 1, 1), (5, .aload_n 0, 1), (6, .getfield 55, 3), (9, .if_icmp .ge 7, 3), (12, .iconst 1, 1), (13, .goto 4, 3), (16, .iconst 0, 1), (17, .ireturn, 1)] = true := by decide +kernel
theorem dd_X2_isThing : dchk cX2_isThing [(0, .iload_n 1, 1), (1, .ifCond .lt 15, 3), (4, .iload_n 1, 1), (5, .aload_n 0, 1), (6, .getfield 33, 3), (9, .if_icmp .ge 7, 3), (12, .iconst 1, 1), (13, .goto 4, 3), (16, .iconst 0, 1), (17, .ireturn, 1)] = true := by decide +kernel
theorem dd_X2_isDream : dchk cX2_isDream [(0, .iload_n 1, 1), (1, .ifCond .lt 15, 3), (4, .iload_n 1, 1), (5, .aload_n 0, 1), (6, .invokevirtual 70, 3), (9, .if_icmp .ge 7, 3), (12, .iconst 1, 1), (13, .goto 4, 3), (16, .iconst 0, 1), (17, .ireturn, 1)] = true := by decide +kernel
theorem dd_X2_dreamCount : dchk cX2_dreamCount [(0, .iconst 1, 1), (1, .aload_n 0, 1), (2, .getfield 33, 3), (5, .ishl, 1), (6, .ireturn, 1)] = true := by decide +kernel
theorem dd_X2_by : dchk cX2_by [(0, .aload_n 0, 1), (1, .aload_n 0, 1), (2, .getfield 9, 3), (5, .iload_n 1, 1), (6, .iaload, 1), (7, .aload_n 0, 1), (8, .getfield 15, 3), (11, .iload_n 1, 1), (12, .iaload, 1), (13, .aload_n 0, 1), (14, .getfield 18, 3), (17, .iload_n 1, 1), (18, .iaload, 1), (19, .iload_n 2, 1), (20, .invokevirtual 74, 3), (23, .ireturn, 1)] = true := by decide +kernel
theorem dd_X2_byKind : dchk cX2_byKind [(0, .iconst 1, 1), (1, .iload_n 2, 1), (2, .ishl, 1), (3, .istore 5, 2), (5, .iconst 1, 1), (6, .iload_n 3, 1), (7, .ishl, 1), (8, .istore 6, 2), (10, .iload 4, 2), (12, .iload 6, 2), (14, .iand, 1), (15, .ifCond .eq 7, 3), (18, .iconst 1, 1), (19, .goto 4, 3), (22, .iconst 0, 1), (23, .istore 7, 2), (25, .iload_n 1, 1), (26, .tableswitch 99 1 5 #[34, 40, 54, 70, 78], 34), (60, .iload 4, 2), (62, .iload 5, 2), (64, .ior, 1), (65, .ireturn, 1), (66, .iload 4, 2), (68, .iload 5, 2), (70, .ior, 1), (71, .iconst 1, 1), (72, .aload_n 0, 1), (73, .iload_n 2, 1), (74, .invokevirtual 78, 3), (77, .ishl, 1), (78, .ior, 1), (79, .ireturn, 1), (80, .iload 7, 2), (82, .ifCond .eq 11, 3), (85, .iload 4, 2), (87, .iload 5, 2), (89, .ior, 1), (90, .goto 5, 3), (93, .iload 4, 2), (95, .ireturn, 1), (96, .iload 4, 2), (98, .iload 6, 2), (100, .iconst (-1), 1), (101, .ixor, 1), (102, .iand, 1), (103, .ireturn, 1), (104, .iload 7, 2), (106, .ifCond .eq 16, 3), (109, .iload 4, 2), (111, .iload 6, 2), (113, .iconst (-1), 1), (114, .ixor, 1), (115, .iand, 1), (116, .iload 5, 2), (118, .ior, 1), (119, .goto 5, 3), (122, .iload 4, 2), (124, .ireturn, 1), (125, .iload 4, 2), (127, .ireturn, 1)] = true := by decide +kernel
theorem dd_X2_thingBehind : dchk cX2_thingBehind [(0, .iload_n 1, 1), (1, .iconst 1, 1), (2, .iadd, 1), (3, .aload_n 0, 1), (4, .getfield 33, 3), (7, .if_icmp .ge 9, 3), (10, .iload_n 1, 1), (11, .iconst 1, 1), (12, .iadd, 1), (13, .goto 4, 3), (16, .iconst 0, 1), (17, .ireturn, 1)] = true := by decide +kernel
theorem dd_X2_verdict : dchk cX2_verdict [(0, .aload_n 0, 1), (1, .iload_n 1, 1), (2, .aload_n 0, 1), (3, .aload_n 0, 1), (4, .getfield 21, 3), (7, .iload_n 1, 1), (8, .iaload, 1), (9, .iload_n 2, 1), (10, .invokevirtual 82, 3), (13, .invokevirtual 86, 3), (16, .ireturn, 1)] = true := by decide +kernel
theorem dd_X2_judged : dchk cX2_judged [(0, .iload_n 2, 1), (1, .aload_n 0, 1), (2, .getfield 24, 3), (5, .iload_n 1, 1), (6, .iaload, 1), (7, .ishr, 1), (8, .iconst 1, 1), (9, .iand, 1), (10, .ifCond .eq 5, 3), (13, .iconst 2, 1), (14, .ireturn, 1), (15, .iload_n 2, 1), (16, .aload_n 0, 1), (17, .getfield 27, 3), (20, .iload_n 1, 1), (21, .iaload, 1), (22, .ishr, 1), (23, .iconst 1, 1), (24, .iand, 1), (25, .ifCond .eq 7, 3), (28, .iconst 1, 1), (29, .goto 4, 3), (32, .iconst 0, 1), (33, .ireturn, 1)] = true := by decide +kernel
theorem dd_X2_dreamHeard : dchk cX2_dreamHeard [(0, .aload_n 0, 1), (1, .aload_n 0, 1), (2, .aload_n 0, 1), (3, .getfield 21, 3), (6, .iload_n 1, 1), (7, .iaload, 1), (8, .iload_n 2, 1), (9, .invokevirtual 82, 3), (12, .invokevirtual 89, 3), (15, .ireturn, 1)] = true := by decide +kernel
theorem dd_X2_worn : dchk cX2_worn [(0, .iconst 0, 1), (1, .istore_n 2, 1), (2, .iconst 0, 1), (3, .istore_n 3, 1), (4, .iconst 0, 1), (5, .istore 4, 2), (7, .iload 4, 2), (9, .aload_n 0, 1), (10, .getfield 33, 3), (13, .if_icmp .ge 36, 3), (16, .iload_n 3, 1), (17, .aload_n 0, 1), (18, .getfield 37, 3), (21, .if_icmp .ge 28, 3), (24, .iload_n 1, 1), (25, .iload 4, 2), (27, .ishr, 1), (28, .iconst 1, 1), (29, .iand, 1), (30, .ifCond .eq 13, 3), (33, .iload_n 2, 1), (34, .iconst 1, 1), (35, .iload 4, 2), (37, .ishl, 1), (38, .ior, 1), (39, .istore_n 2, 1), (40, .iinc 3 1, 3), (43, .iinc 4 1, 3), (46, .goto (-39), 3), (49, .iload_n 2, 1), (50, .ireturn, 1)] = true := by decide +kernel
theorem dd_X2_casesThatAre : dchk cX2_casesThatAre [(0, .iconst 0, 1), (1, .istore_n 2, 1), (2, .iconst 0, 1), (3, .istore_n 3, 1), (4, .iload_n 3, 1), (5, .aload_n 0, 1), (6, .getfield 55, 3), (9, .if_icmp .ge 29, 3), (12, .iload_n 2, 1), (13, .aload_n 0, 1), (14, .getfield 30, 3), (17, .iload_n 3, 1), (18, .iaload, 1), (19, .iload_n 1, 1), (20, .if_icmp .ne 9, 3), (23, .iconst 1, 1), (24, .iload_n 3, 1), (25, .ishl, 1), (26, .goto 4, 3), (29, .iconst 0, 1), (30, .ior, 1), (31, .istore_n 2, 1), (32, .iinc 3 1, 3), (35, .goto (-31), 3), (38, .iload_n 2, 1), (39, .ireturn, 1)] = true := by decide +kernel
theorem dd_X2_pairs : dchk cX2_pairs [(0, .iload_n 1, 1), (1, .ifCond .eq 10, 3), (4, .aload_n 0, 1), (5, .getfield 52, 3), (8, .goto 7, 3), (11, .aload_n 0, 1), (12, .getfield 55, 3), (15, .istore_n 3, 1), (16, .iconst 0, 1), (17, .istore 4, 2), (19, .iconst 0, 1), (20, .istore 5, 2), (22, .iload 5, 2), (24, .iload_n 3, 1), (25, .if_icmp .ge 73, 3), (28, .iload 5, 2), (30, .iconst 1, 1), (31, .iadd, 1), (32, .istore 6, 2), (34, .iload 6, 2), (36, .iload_n 3, 1), (37, .if_icmp .ge 55, 3), (40, .iload_n 1, 1), (41, .ifCond .eq 17, 3), (44, .aload_n 0, 1), (45, .iload 5, 2), (47, .iload 6, 2), (49, .invokevirtual 92, 3), (52, .ifCond .eq 34, 3), (55, .goto 14, 3), (58, .aload_n 0, 1), (59, .iload 5, 2), (61, .iload 6, 2), (63, .invokevirtual 96, 3), (66, .ifCond .eq 20, 3), (69, .iload_n 2, 1), (70, .iconst 1, 1), (71, .if_icmp .ne 12, 3), (74, .bipush 10, 2), (76, .iload 5, 2), (78, .imul, 1), (79, .iload 6, 2), (81, .iadd, 1), (82, .ireturn, 1), (83, .iinc 4 1, 3), (86, .iinc 6 1, 3), (89, .goto (-55), 3), (92, .iinc 5 1, 3), (95, .goto (-73), 3), (98, .iload_n 2, 1), (99, .iconst 1, 1), (100, .if_icmp .ne 8, 3), (103, .ldc 99, 2), (105, .goto 5, 3), (108, .iload 4, 2), (110, .ireturn, 1)] = true := by decide +kernel
theorem dd_X2_clash : dchk cX2_clash [(0, .aload_n 0, 1), (1, .getfield 27, 3), (4, .iload_n 1, 1), (5, .iaload, 1), (6, .aload_n 0, 1), (7, .getfield 24, 3), (10, .iload_n 2, 1), (11, .iaload, 1), (12, .if_icmp .eq 18, 3), (15, .aload_n 0, 1), (16, .getfield 27, 3), (19, .iload_n 2, 1), (20, .iaload, 1), (21, .aload_n 0, 1), (22, .getfield 24, 3), (25, .iload_n 1, 1), (26, .iaload, 1), (27, .if_icmp .ne 7, 3), (30, .iconst 1, 1), (31, .goto 4, 3), (34, .iconst 0, 1), (35, .ireturn, 1)] = true := by decide +kernel
theorem dd_X2_deafHums : dchk cX2_deafHums [(0, .iconst 0, 1), (1, .istore_n 1, 1), (2, .iconst 0, 1), (3, .istore_n 2, 1), (4, .iload_n 2, 1), (5, .aload_n 0, 1), (6, .getfield 52, 3), (9, .if_icmp .ge 35, 3), (12, .iload_n 1, 1), (13, .aload_n 0, 1), (14, .iload_n 2, 1), (15, .aload_n 0, 1), (16, .getfield 43, 3), (19, .invokevirtual 82, 3), (22, .aload_n 0, 1), (23, .getfield 43, 3), (26, .if_icmp .ne 9, 3), (29, .iconst 1, 1), (30, .iload_n 2, 1), (31, .ishl, 1), (32, .goto 4, 3), (35, .iconst 0, 1), (36, .ior, 1), (37, .istore_n 1, 1), (38, .iinc 2 1, 3), (41, .goto (-37), 3), (44, .iload_n 1, 1), (45, .ireturn, 1)] = true := by decide +kernel
theorem dd_X2_doTheSame : dchk cX2_doTheSame [(0, .iconst 0, 1), (1, .istore_n 3, 1), (2, .iload_n 3, 1), (3, .aload_n 0, 1), (4, .invokevirtual 70, 3), (7, .if_icmp .ge 26, 3), (10, .aload_n 0, 1), (11, .iload_n 1, 1), (12, .iload_n 3, 1), (13, .invokevirtual 82, 3), (16, .aload_n 0, 1), (17, .iload_n 2, 1), (18, .iload_n 3, 1), (19, .invokevirtual 82, 3), (22, .if_icmp .eq 5, 3), (25, .iconst 0, 1), (26, .ireturn, 1), (27, .iinc 3 1, 3), (30, .goto (-28), 3), (33, .iconst 1, 1), (34, .ireturn, 1)] = true := by decide +kernel
theorem dd_X2_freeParts : dchk cX2_freeParts [(0, .lconst 0, 1), (1, .lstore_n 3, 1), (2, .iconst 0, 1), (3, .istore 5, 2), (5, .iload 5, 2), (7, .aload_n 0, 1), (8, .invokevirtual 70, 3), (11, .if_icmp .ge 66, 3), (14, .iload 5, 2), (16, .aload_n 0, 1), (17, .getfield 43, 3), (20, .iconst (-1), 1), (21, .ixor, 1), (22, .iand, 1), (23, .ifCond .ne 48, 3), (26, .aload_n 0, 1), (27, .iload_n 1, 1), (28, .iload 5, 2), (30, .invokevirtual 100, 3), (33, .iconst 1, 1), (34, .if_icmp .ne 37, 3), (37, .iload 5, 2), (39, .invokestatic 103, 3), (42, .istore 6, 2), (44, .lload_n 3, 1), (45, .bipush 10, 2), (47, .iload_n 2, 1), (48, .isub, 1), (49, .iload 6, 2), (51, .invokestatic 108, 3), (54, .iload_n 2, 1), (55, .aload_n 0, 1), (56, .getfield 43, 3), (59, .invokestatic 103, 3), (62, .iload 6, 2), (64, .isub, 1), (65, .invokestatic 108, 3), (68, .lmul, 1), (69, .ladd, 1), (70, .lstore_n 3, 1), (71, .iinc 5 1, 3), (74, .goto (-69), 3), (77, .lload_n 3, 1), (78, .lreturn, 1)] = true := by decide +kernel
theorem dd_X2_drawTerms : dchk cX2_drawTerms [(0, .iload_n 2, 1), (1, .i2l, 1), (2, .lstore_n 3, 1), (3, .iconst 0, 1), (4, .istore 5, 2), (6, .iload 5, 2), (8, .iload_n 1, 1), (9, .if_icmp .ge 78, 3), (12, .lload_n 3, 1), (13, .ldc2_w 112, 3), (16, .lmul, 1), (17, .ldc2_w 114, 3), (20, .lrem, 1), (21, .lstore_n 3, 1), (22, .lload_n 3, 1), (23, .ldc2_w 116, 3), (26, .lrem, 1), (27, .lconst 0, 1), (28, .lcmp, 1), (29, .ifCond .ne 25, 3), (32, .aload_n 0, 1), (33, .getfield 55, 3), (36, .ifCond .le 18, 3), (39, .aload_n 0, 1), (40, .lload_n 3, 1), (41, .aload_n 0, 1), (42, .getfield 55, 3), (45, .i2l, 1), (46, .lrem, 1), (47, .l2i, 1), (48, .invokevirtual 118, 3), (51, .goto 30, 3), (54, .aload_n 0, 1), (55, .getfield 52, 3), (58, .ifCond .le 23, 3), (61, .aload_n 0, 1), (62, .aload_n 0, 1), (63, .lload_n 3, 1), (64, .aload_n 0, 1), (65, .getfield 52, 3), (68, .i2l, 1), (69, .lrem, 1), (70, .l2i, 1), (71, .aload_n 0, 1), (72, .getfield 43, 3), (75, .invokevirtual 82, 3), (78, .putfield 43, 3), (81, .iinc 5 1, 3), (84, .goto (-78), 3), (87, .return_, 1)] = true := by decide +kernel
theorem dd_X2_hearIfOpen : dchk cX2_hearIfOpen [(0, .aload_n 0, 1), (1, .getfield 30, 3), (4, .iload_n 1, 1), (5, .iaload, 1), (6, .ifCond .ne 31, 3), (9, .aload_n 0, 1), (10, .getfield 30, 3), (13, .iload_n 1, 1), (14, .aload_n 0, 1), (15, .iload_n 1, 1), (16, .aload_n 0, 1), (17, .getfield 43, 3), (20, .invokevirtual 100, 3), (23, .iastore, 1), (24, .aload_n 0, 1), (25, .aload_n 0, 1), (26, .iload_n 1, 1), (27, .aload_n 0, 1), (28, .getfield 43, 3), (31, .invokevirtual 122, 3), (34, .putfield 43, 3), (37, .return_, 1)] = true := by decide +kernel
theorem dd_X3_init : dchk cX3_init [(0, .aload_n 0, 1), (1, .invokespecial 3, 3), (4, .aload_n 0, 1), (5, .iconst 5, 1), (6, .newarray .int, 2), (8, .putfield 9, 3), (11, .aload_n 0, 1), (12, .iconst 5, 1), (13, .newarray .int, 2), (15, .putfield 15, 3), (18, .aload_n 0, 1), (19, .iconst 5, 1), (20, .newarray .int, 2), (22, .putfield 18, 3), (25, .aload_n 0, 1), (26, .aload_n 1, 1), (27, .putfield 21, 3), (30, .return_, 1)] = true := by decide +kernel
theorem dd_X3_tryAll : dchk cX3_tryAll [(0, .aload_n 0, 1), (1, .getfield 21, 3), (4, .iconst 0, 1), (5, .invokevirtual 25, 3), (8, .istore_n 1, 1), (9, .aload_n 0, 1), (10, .iload_n 1, 1), (11, .invokestatic 31, 3), (14, .putfield 36, 3), (17, .aload_n 0, 1), (18, .iconst (-1), 1), (19, .putfield 40, 3), (22, .aload_n 0, 1), (23, .iconst 0, 1), (24, .putfield 43, 3), (27, .aload_n 0, 1), (28, .getfield 18, 3), (31, .iconst (-1), 1), (32, .invokestatic 46, 3), (35, .aload_n 0, 1), (36, .iconst 0, 1), (37, .iload_n 1, 1), (38, .aload_n 0, 1), (39, .getfield 21, 3), (42, .getfield 52, 3), (45, .iconst 0, 1), (46, .iconst 0, 1), (47, .invokevirtual 55, 3), (50, .return_, 1)] = true := by decide +kernel
theorem dd_X3_tryBehind : dchk cX3_tryBehind [(0, .iload_n 2, 1), (1, .ifCond .eq 8, 3), (4, .iload_n 1, 1), (5, .iconst 5, 1), (6, .if_icmp .lt 12, 3), (9, .aload_n 0, 1), (10, .iload 4, 2), (12, .iload 5, 2), (14, .invokevirtual 59, 3), (17, .return_, 1), (18, .iconst 0, 1), (19, .istore 6, 2), (21, .iload 6, 2), (23, .aload_n 0, 1), (24, .getfield 21, 3), (27, .getfield 63, 3), (30, .if_icmp .ge 91, 3), (33, .iload_n 2, 1), (34, .iload 6, 2), (36, .ishr, 1), (37, .iconst 1, 1), (38, .iand, 1), (39, .ifCond .eq 76, 3), (42, .aload_n 0, 1), (43, .getfield 21, 3), (46, .iload 6, 2), (48, .iload_n 3, 1), (49, .invokevirtual 66, 3), (52, .istore 7, 2), (54, .aload_n 0, 1), (55, .getfield 9, 3), (58, .iload_n 1, 1), (59, .iload 6, 2), (61, .iastore, 1), (62, .aload_n 0, 1), (63, .iload_n 1, 1), (64, .iconst 1, 1), (65, .iadd, 1), (66, .iload_n 2, 1), (67, .iconst 1, 1), (68, .iload 6, 2), (70, .ishl, 1), (71, .iconst (-1), 1), (72, .ixor, 1), (73, .iand, 1), (74, .aload_n 0, 1), (75, .getfield 21, 3), (78, .iload 6, 2), (80, .iload_n 3, 1), (81, .invokevirtual 70, 3), (84, .iload 4, 2), (86, .iload 7, 2), (88, .iconst 1, 1), (89, .if_icmp .ne 7, 3), (92, .iconst 1, 1), (93, .goto 4, 3), (96, .iconst 0, 1), (97, .iadd, 1), (98, .iload 5, 2), (100, .iload 7, 2), (102, .iconst 2, 1), (103, .if_icmp .ne 7, 3), (106, .iconst 1, 1), (107, .goto 4, 3), (110, .iconst 0, 1), (111, .iadd, 1), (112, .invokevirtual 55, 3), (115, .iinc 6 1, 3), (118, .goto (-97), 3), (121, .return_, 1)] = true := by decide +kernel
theorem dd_X3_compare : dchk cX3_compare [(0, .aload_n 0, 1), (1, .getfield 36, 3), (4, .ifCond .le 29, 3), (7, .aload_n 0, 1), (8, .getfield 18, 3), (11, .aload_n 0, 1), (12, .getfield 9, 3), (15, .iconst 0, 1), (16, .iaload, 1), (17, .aload_n 0, 1), (18, .getfield 18, 3), (21, .aload_n 0, 1), (22, .getfield 9, 3), (25, .iconst 0, 1), (26, .iaload, 1), (27, .iaload, 1), (28, .iload_n 1, 1), (29, .invokestatic 73, 3), (32, .iastore, 1), (33, .iload_n 1, 1), (34, .aload_n 0, 1), (35, .getfield 40, 3), (38, .if_icmp .gt 19, 3), (41, .iload_n 1, 1), (42, .aload_n 0, 1), (43, .getfield 40, 3), (46, .if_icmp .ne 38, 3), (49, .iload_n 2, 1), (50, .aload_n 0, 1), (51, .getfield 43, 3), (54, .if_icmp .ge 30, 3), (57, .aload_n 0, 1), (58, .iload_n 1, 1), (59, .putfield 40, 3), (62, .aload_n 0, 1), (63, .iload_n 2, 1), (64, .putfield 43, 3), (67, .aload_n 0, 1), (68, .getfield 9, 3), (71, .iconst 0, 1), (72, .aload_n 0, 1), (73, .getfield 15, 3), (76, .iconst 0, 1), (77, .aload_n 0, 1), (78, .getfield 36, 3), (81, .invokestatic 78, 3), (84, .return_, 1)] = true := by decide +kernel
theorem dd_X3_bestToBegin : dchk cX3_bestToBegin [(0, .ldc 84, 2), (2, .istore_n 1, 1), (3, .iconst (-1), 1), (4, .istore_n 2, 1), (5, .iconst 0, 1), (6, .istore_n 3, 1), (7, .iload_n 3, 1), (8, .aload_n 0, 1), (9, .getfield 21, 3), (12, .getfield 63, 3), (15, .if_icmp .ge 28, 3), (18, .aload_n 0, 1), (19, .getfield 18, 3), (22, .iload_n 3, 1), (23, .iaload, 1), (24, .iload_n 2, 1), (25, .if_icmp .le 12, 3), (28, .iload_n 3, 1), (29, .istore_n 1, 1), (30, .aload_n 0, 1), (31, .getfield 18, 3), (34, .iload_n 3, 1), (35, .iaload, 1), (36, .istore_n 2, 1), (37, .iinc 3 1, 3), (40, .goto (-33), 3), (43, .iload_n 1, 1), (44, .ireturn, 1)] = true := by decide +kernel
theorem dd_X4_init : dchk cX4_init [(0, .aload_n 0, 1), (1, .invokespecial 3, 3), (4, .aload_n 0, 1), (5, .aload_n 1, 1), (6, .putfield 9, 3), (9, .aload_n 0, 1), (10, .aload_n 2, 1), (11, .putfield 15, 3), (14, .return_, 1)] = true := by decide +kernel
theorem dd_X4_readAll : dchk cX4_readAll [(0, .aload_n 0, 1), (1, .iconst 0, 1), (2, .putfield 19, 3), (5, .aload_n 0, 1), (6, .iconst 0, 1), (7, .putfield 23, 3), (10, .aload_n 0, 1), (11, .getfield 15, 3), (14, .invokevirtual 26, 3), (17, .aload_n 0, 1), (18, .invokevirtual 31, 3), (21, .aload_n 0, 1), (22, .invokevirtual 34, 3), (25, .aload_n 0, 1), (26, .invokevirtual 37, 3), (29, .aload_n 0, 1), (30, .invokevirtual 40, 3), (33, .aload_n 0, 1), (34, .getfield 23, 3), (37, .ifCond .ne 22, 3), (40, .aload_n 0, 1), (41, .getfield 19, 3), (44, .aload_n 0, 1), (45, .getfield 9, 3), (48, .getfield 43, 3), (51, .if_icmp .ge 8, 3), (54, .aload_n 0, 1), (55, .iconst 1, 1), (56, .putfield 23, 3), (59, .return_, 1)] = true := by decide +kernel
theorem dd_X4_readLaw : dchk cX4_readLaw [(0, .aload_n 0, 1), (1, .bipush 106, 2), (3, .invokevirtual 48, 3), (6, .aload_n 0, 1), (7, .getfield 15, 3), (10, .aload_n 0, 1), (11, .iconst 3, 1), (12, .bipush 8, 2), (14, .invokevirtual 52, 3), (17, .putfield 56, 3), (20, .aload_n 0, 1), (21, .bipush 44, 2), (23, .invokevirtual 48, 3), (26, .aload_n 0, 1), (27, .getfield 15, 3), (30, .aload_n 0, 1), (31, .iconst 0, 1), (32, .bipush 8, 2), (34, .invokevirtual 52, 3), (37, .putfield 59, 3), (40, .aload_n 0, 1), (41, .bipush 44, 2), (43, .invokevirtual 48, 3), (46, .aload_n 0, 1), (47, .getfield 15, 3), (50, .aload_n 0, 1), (51, .iconst 1, 1), (52, .bipush 9, 2), (54, .invokevirtual 52, 3), (57, .putfield 62, 3), (60, .aload_n 0, 1), (61, .bipush 59, 2), (63, .invokevirtual 48, 3), (66, .return_, 1)] = true := by decide +kernel
theorem dd_X4_readDream : dchk cX4_readDream [(0, .aload_n 0, 1), (1, .bipush 100, 2), (3, .invokevirtual 48, 3), (6, .aload_n 0, 1), (7, .getfield 15, 3), (10, .iconst 1, 1), (11, .aload_n 0, 1), (12, .invokevirtual 65, 3), (15, .ishl, 1), (16, .putfield 69, 3), (19, .iconst 0, 1), (20, .istore_n 1, 1), (21, .iload_n 1, 1), (22, .bipush 120, 2), (24, .if_icmp .ge 42, 3), (27, .aload_n 0, 1), (28, .bipush 44, 2), (30, .invokevirtual 72, 3), (33, .ifCond .eq 33, 3), (36, .aload_n 0, 1), (37, .bipush 44, 2), (39, .invokevirtual 48, 3), (42, .aload_n 0, 1), (43, .getfield 15, 3), (46, .dup, 1), (47, .getfield 69, 3), (50, .iconst 1, 1), (51, .aload_n 0, 1), (52, .invokevirtual 65, 3), (55, .ishl, 1), (56, .ior, 1), (57, .putfield 69, 3), (60, .iinc 1 1, 3), (63, .goto (-42), 3), (66, .aload_n 0, 1), (67, .bipush 59, 2), (69, .invokevirtual 48, 3), (72, .return_, 1)] = true := by decide +kernel
theorem dd_X4_readHums : dchk cX4_readHums [(0, .aload_n 0, 1), (1, .invokevirtual 76, 3), (4, .ifCond .ne 8, 3), (7, .aload_n 0, 1), (8, .iconst 1, 1), (9, .invokevirtual 79, 3), (12, .iconst 0, 1), (13, .istore_n 1, 1), (14, .iload_n 1, 1), (15, .bipush 120, 2), (17, .if_icmp .ge 40, 3), (20, .aload_n 0, 1), (21, .invokevirtual 76, 3), (24, .ifCond .eq 33, 3), (27, .aload_n 0, 1), (28, .getfield 15, 3), (31, .getfield 82, 3), (34, .bipush 6, 2), (36, .if_icmp .ne 11, 3), (39, .aload_n 0, 1), (40, .iconst 3, 1), (41, .invokevirtual 79, 3), (44, .goto 7, 3), (47, .aload_n 0, 1), (48, .invokevirtual 85, 3), (51, .iinc 1 1, 3), (54, .goto (-40), 3), (57, .return_, 1)] = true := by decide +kernel
theorem dd_X4_readHum : dchk cX4_readHum [(0, .aload_n 0, 1), (1, .getfield 15, 3), (4, .getfield 82, 3), (7, .istore_n 1, 1), (8, .aload_n 0, 1), (9, .getfield 15, 3), (12, .getfield 88, 3), (15, .iload_n 1, 1), (16, .aload_n 0, 1), (17, .invokevirtual 76, 3), (20, .iastore, 1), (21, .aload_n 0, 1), (22, .dup, 1), (23, .getfield 19, 3), (26, .iconst 1, 1), (27, .iadd, 1), (28, .putfield 19, 3), (31, .aload_n 0, 1), (32, .getfield 15, 3), (35, .getfield 92, 3), (38, .iload_n 1, 1), (39, .aload_n 0, 1), (40, .invokevirtual 65, 3), (43, .iastore, 1), (44, .aload_n 0, 1), (45, .bipush 44, 2), (47, .invokevirtual 48, 3), (50, .aload_n 0, 1), (51, .getfield 15, 3), (54, .getfield 95, 3), (57, .iload_n 1, 1), (58, .aload_n 0, 1), (59, .invokevirtual 65, 3), (62, .iastore, 1), (63, .aload_n 0, 1), (64, .bipush 59, 2), (66, .invokevirtual 48, 3), (69, .aload_n 0, 1), (70, .getfield 15, 3), (73, .dup, 1), (74, .getfield 82, 3), (77, .iconst 1, 1), (78, .iadd, 1), (79, .putfield 82, 3), (82, .return_, 1)] = true := by decide +kernel
theorem dd_X4_readCases : dchk cX4_readCases [(0, .iconst 0, 1), (1, .istore_n 1, 1), (2, .iload_n 1, 1), (3, .bipush 120, 2), (5, .if_icmp .ge 41, 3), (8, .aload_n 0, 1), (9, .bipush 118, 2), (11, .invokevirtual 72, 3), (14, .ifCond .eq 32, 3), (17, .aload_n 0, 1), (18, .getfield 15, 3), (21, .getfield 98, 3), (24, .iconst 5, 1), (25, .if_icmp .ne 11, 3), (28, .aload_n 0, 1), (29, .iconst 3, 1), (30, .invokevirtual 79, 3), (33, .goto 7, 3), (36, .aload_n 0, 1), (37, .invokevirtual 101, 3), (40, .iinc 1 1, 3), (43, .goto (-41), 3), (46, .return_, 1)] = true := by decide +kernel
theorem dd_X4_readCase : dchk cX4_readCase [(0, .aload_n 0, 1), (1, .getfield 15, 3), (4, .getfield 98, 3), (7, .istore_n 1, 1), (8, .aload_n 0, 1), (9, .bipush 118, 2), (11, .invokevirtual 48, 3), (14, .aload_n 0, 1), (15, .getfield 15, 3), (18, .getfield 104, 3), (21, .iload_n 1, 1), (22, .aload_n 0, 1), (23, .iconst 0, 1), (24, .aload_n 0, 1), (25, .getfield 15, 3), (28, .getfield 82, 3), (31, .iconst 1, 1), (32, .isub, 1), (33, .invokevirtual 52, 3), (36, .iastore, 1), (37, .aload_n 0, 1), (38, .bipush 44, 2), (40, .invokevirtual 48, 3), (43, .aload_n 0, 1), (44, .getfield 15, 3), (47, .getfield 107, 3), (50, .iload_n 1, 1), (51, .aload_n 0, 1), (52, .invokevirtual 65, 3), (55, .iastore, 1), (56, .aload_n 0, 1), (57, .bipush 44, 2), (59, .invokevirtual 48, 3), (62, .aload_n 0, 1), (63, .getfield 19, 3), (66, .istore_n 2, 1), (67, .aload_n 0, 1), (68, .getfield 15, 3), (71, .getfield 110, 3), (74, .iload_n 1, 1), (75, .aload_n 0, 1), (76, .invokevirtual 65, 3), (79, .iastore, 1), (80, .aload_n 0, 1), (81, .getfield 23, 3), (84, .ifCond .ne 34, 3), (87, .aload_n 0, 1), (88, .getfield 15, 3), (91, .getfield 110, 3), (94, .iload_n 1, 1), (95, .iaload, 1), (96, .aload_n 0, 1), (97, .getfield 15, 3), (100, .getfield 107, 3), (103, .iload_n 1, 1), (104, .iaload, 1), (105, .if_icmp .ne 13, 3), (108, .aload_n 0, 1), (109, .iload_n 2, 1), (110, .putfield 19, 3), (113, .aload_n 0, 1), (114, .iconst 2, 1), (115, .invokevirtual 79, 3), (118, .aload_n 0, 1), (119, .bipush 59, 2), (121, .invokevirtual 48, 3), (124, .aload_n 0, 1), (125, .getfield 15, 3), (128, .dup, 1), (129, .getfield 98, 3), (132, .iconst 1, 1), (133, .iadd, 1), (134, .putfield 98, 3), (137, .return_, 1)] = true := by decide +kernel
theorem dd_X4_thing : dchk cX4_thing [(0, .aload_n 0, 1), (1, .iconst 0, 1), (2, .aload_n 0, 1), (3, .getfield 15, 3), (6, .getfield 56, 3), (9, .iconst 1, 1), (10, .isub, 1), (11, .invokevirtual 52, 3), (14, .ireturn, 1)] = true := by decide +kernel
theorem dd_X4_isNext : dchk cX4_isNext [(0, .aload_n 0, 1), (1, .getfield 23, 3), (4, .ifCond .ne 22, 3), (7, .aload_n 0, 1), (8, .getfield 9, 3), (11, .aload_n 0, 1), (12, .getfield 19, 3), (15, .invokevirtual 113, 3), (18, .iload_n 1, 1), (19, .if_icmp .ne 7, 3), (22, .iconst 1, 1), (23, .goto 4, 3), (26, .iconst 0, 1), (27, .ireturn, 1)] = true := by decide +kernel
theorem dd_X4_kindNext : dchk cX4_kindNext [(0, .aload_n 0, 1), (1, .getfield 23, 3), (4, .ifCond .eq 5, 3), (7, .iconst 0, 1), (8, .ireturn, 1), (9, .aload_n 0, 1), (10, .getfield 9, 3), (13, .aload_n 0, 1), (14, .getfield 19, 3), (17, .invokevirtual 113, 3), (20, .lookupswitch 62 #[(99, 54), (102, 60), (114, 58), (115, 56), (116, 52)], 52), (72, .iconst 1, 1), (73, .ireturn, 1), (74, .iconst 2, 1), (75, .ireturn, 1), (76, .iconst 3, 1), (77, .ireturn, 1), (78, .iconst 4, 1), (79, .ireturn, 1), (80, .iconst 5, 1), (81, .ireturn, 1), (82, .iconst 0, 1), (83, .ireturn, 1)] = true := by decide +kernel
theorem dd_X4_mark : dchk cX4_mark [(0, .aload_n 0, 1), (1, .getfield 23, 3), (4, .ifCond .ne 8, 3), (7, .aload_n 0, 1), (8, .iload_n 1, 1), (9, .putfield 23, 3), (12, .return_, 1)] = true := by decide +kernel
theorem dd_X4_pass : dchk cX4_pass [(0, .aload_n 0, 1), (1, .iload_n 1, 1), (2, .invokevirtual 72, 3), (5, .ifCond .eq 16, 3), (8, .aload_n 0, 1), (9, .dup, 1), (10, .getfield 19, 3), (13, .iconst 1, 1), (14, .iadd, 1), (15, .putfield 19, 3), (18, .goto 8, 3), (21, .aload_n 0, 1), (22, .iconst 1, 1), (23, .invokevirtual 79, 3), (26, .return_, 1)] = true := by decide +kernel
theorem dd_X4_number : dchk cX4_number [(0, .aload_n 0, 1), (1, .getfield 23, 3), (4, .ifCond .eq 5, 3), (7, .iconst 0, 1), (8, .ireturn, 1), (9, .iconst 0, 1), (10, .istore_n 3, 1), (11, .iload_n 3, 1), (12, .iconst 3, 1), (13, .if_icmp .ge 25, 3), (16, .aload_n 0, 1), (17, .getfield 9, 3), (20, .aload_n 0, 1), (21, .getfield 19, 3), (24, .iload_n 3, 1), (25, .iadd, 1), (26, .invokevirtual 117, 3), (29, .ifCond .eq 9, 3), (32, .iinc 3 1, 3), (35, .goto (-24), 3), (38, .iload_n 3, 1), (39, .iconst 1, 1), (40, .if_icmp .lt 8, 3), (43, .iload_n 3, 1), (44, .iconst 2, 1), (45, .if_icmp .le 10, 3), (48, .aload_n 0, 1), (49, .iconst 1, 1), (50, .invokevirtual 79, 3), (53, .iconst 0, 1), (54, .ireturn, 1), (55, .aload_n 0, 1), (56, .getfield 9, 3), (59, .aload_n 0, 1), (60, .getfield 19, 3), (63, .invokevirtual 113, 3), (66, .bipush 48, 2), (68, .isub, 1), (69, .istore 4, 2), (71, .iload_n 3, 1), (72, .iconst 2, 1), (73, .if_icmp .ne 27, 3), (76, .bipush 10, 2), (78, .iload 4, 2), (80, .imul, 1), (81, .aload_n 0, 1), (82, .getfield 9, 3), (85, .aload_n 0, 1), (86, .getfield 19, 3), (89, .iconst 1, 1), (90, .iadd, 1), (91, .invokevirtual 113, 3), (94, .iadd, 1), (95, .bipush 48, 2), (97, .isub, 1), (98, .istore 4, 2), (100, .iload 4, 2), (102, .iload_n 1, 1), (103, .if_icmp .lt 9, 3), (106, .iload 4, 2), (108, .iload_n 2, 1), (109, .if_icmp .le 10, 3), (112, .aload_n 0, 1), (113, .iconst 2, 1), (114, .invokevirtual 79, 3), (117, .iconst 0, 1), (118, .ireturn, 1), (119, .aload_n 0, 1), (120, .dup, 1), (121, .getfield 19, 3), (124, .iload_n 3, 1), (125, .iadd, 1), (126, .putfield 19, 3), (129, .iload 4, 2), (131, .ireturn, 1)] = true := by decide +kernel
theorem dd_X5_init : dchk cX5_init [(0, .aload_n 0, 1), (1, .invokespecial 3, 3), (4, .aload_n 0, 1), (5, .bipush 8, 2), (7, .bipush 40, 2), (9, .multianewarray 11 2, 4), (13, .putfield 13, 3), (16, .aload_n 0, 1), (17, .bipush 8, 2), (19, .newarray .int, 2), (21, .dup, 1), (22, .iconst 0, 1), (23, .iconst (-1), 1), (24, .iastore, 1), (25, .dup, 1), (26, .iconst 1, 1), (27, .iconst (-1), 1), (28, .iastore, 1), (29, .dup, 1), (30, .iconst 2, 1), (31, .iconst (-1), 1), (32, .iastore, 1), (33, .dup, 1), (34, .iconst 3, 1), (35, .iconst (-1), 1), (36, .iastore, 1), (37, .dup, 1), (38, .iconst 4, 1), (39, .iconst (-1), 1), (40, .iastore, 1), (41, .dup, 1), (42, .iconst 5, 1), (43, .iconst (-1), 1), (44, .iastore, 1), (45, .dup, 1), (46, .bipush 6, 2), (48, .iconst (-1), 1), (49, .iastore, 1), (50, .dup, 1), (51, .bipush 7, 2), (53, .iconst (-1), 1), (54, .iastore, 1), (55, .putfield 16, 3), (58, .aload_n 0, 1), (59, .bipush 8, 2), (61, .newarray .int, 2), (63, .putfield 20, 3), (66, .return_, 1)] = true := by decide +kernel
theorem dd_X5_isRow : dchk cX5_isRow [(0, .iload_n 1, 1), (1, .ifCond .lt 13, 3), (4, .iload_n 1, 1), (5, .bipush 8, 2), (7, .if_icmp .ge 7, 3), (10, .iconst 1, 1), (11, .goto 4, 3), (14, .iconst 0, 1), (15, .ireturn, 1)] = true := by decide +kernel
theorem dd_X5_isLane : dchk cX5_isLane [(0, .iload_n 1, 1), (1, .ifCond .lt 12, 3), (4, .iload_n 1, 1), (5, .iconst 3, 1), (6, .if_icmp .ge 7, 3), (9, .iconst 1, 1), (10, .goto 4, 3), (13, .iconst 0, 1), (14, .ireturn, 1)] = true := by decide +kernel
theorem dd_X5_isMissing : dchk cX5_isMissing [(0, .aload_n 0, 1), (1, .getfield 16, 3), (4, .iload_n 1, 1), (5, .iaload, 1), (6, .iconst (-1), 1), (7, .if_icmp .ne 7, 3), (10, .iconst 1, 1), (11, .goto 4, 3), (14, .iconst 0, 1), (15, .ireturn, 1)] = true := by decide +kernel
theorem dd_X5_areAlike : dchk cX5_areAlike [(0, .aload_n 0, 1), (1, .getfield 16, 3), (4, .iload_n 1, 1), (5, .iaload, 1), (6, .aload_n 0, 1), (7, .getfield 16, 3), (10, .iload_n 2, 1), (11, .iaload, 1), (12, .if_icmp .ne 7, 3), (15, .iconst 1, 1), (16, .goto 4, 3), (19, .iconst 0, 1), (20, .ireturn, 1)] = true := by decide +kernel
theorem dd_X5_lookedAt : dchk cX5_lookedAt [(0, .aload_n 0, 1), (1, .iload_n 1, 1), (2, .invokevirtual 23, 3), (5, .ifCond .eq 5, 3), (8, .iconst 1, 1), (9, .ireturn, 1), (10, .iload_n 2, 1), (11, .ifCond .lt 29, 3), (14, .iload_n 3, 1), (15, .ifCond .lt 25, 3), (18, .iload_n 3, 1), (19, .aload_n 0, 1), (20, .getfield 20, 3), (23, .iload_n 1, 1), (24, .iaload, 1), (25, .if_icmp .gt 15, 3), (28, .iload_n 2, 1), (29, .aload_n 0, 1), (30, .getfield 20, 3), (33, .iload_n 1, 1), (34, .iaload, 1), (35, .iload_n 3, 1), (36, .isub, 1), (37, .if_icmp .le 7, 3), (40, .iconst 2, 1), (41, .goto 4, 3), (44, .iconst 0, 1), (45, .ireturn, 1)] = true := by decide +kernel
theorem dd_X5_make : dchk cX5_make [(0, .aload_n 0, 1), (1, .getfield 13, 3), (4, .iload_n 1, 1), (5, .aaload, 1), (6, .iconst 0, 1), (7, .invokestatic 27, 3), (10, .aload_n 0, 1), (11, .getfield 16, 3), (14, .iload_n 1, 1), (15, .iload_n 2, 1), (16, .iastore, 1), (17, .aload_n 0, 1), (18, .getfield 20, 3), (21, .iload_n 1, 1), (22, .iload_n 3, 1), (23, .iastore, 1), (24, .return_, 1)] = true := by decide +kernel
theorem dd_X5_put : dchk cX5_put [(0, .aload_n 0, 1), (1, .getfield 13, 3), (4, .iload_n 1, 1), (5, .aaload, 1), (6, .iload_n 2, 1), (7, .aload_n 0, 1), (8, .getfield 16, 3), (11, .iload_n 1, 1), (12, .iaload, 1), (13, .ifCond .ne 8, 3), (16, .iload_n 3, 1), (17, .i2b, 1), (18, .goto 19, 3), (21, .aload_n 0, 1), (22, .getfield 16, 3), (25, .iload_n 1, 1), (26, .iaload, 1), (27, .iconst 1, 1), (28, .if_icmp .ne 8, 3), (31, .iload_n 3, 1), (32, .i2s, 1), (33, .goto 4, 3), (36, .iload_n 3, 1), (37, .iastore, 1), (38, .aload_n 0, 1), (39, .getfield 13, 3), (42, .iload_n 1, 1), (43, .aaload, 1), (44, .iload_n 2, 1), (45, .iaload, 1), (46, .ireturn, 1)] = true := by decide +kernel
theorem dd_X5_move : dchk cX5_move [(0, .aload_n 0, 1), (1, .getfield 13, 3), (4, .iload_n 1, 1), (5, .aaload, 1), (6, .iload_n 2, 1), (7, .aload_n 0, 1), (8, .getfield 13, 3), (11, .iload_n 3, 1), (12, .aaload, 1), (13, .iload 4, 2), (15, .iload 5, 2), (17, .invokestatic 33, 3), (20, .return_, 1)] = true := by decide +kernel
theorem dd_X5_remove : dchk cX5_remove [(0, .aload_n 0, 1), (1, .getfield 16, 3), (4, .iload_n 1, 1), (5, .iconst (-1), 1), (6, .iastore, 1), (7, .aload_n 0, 1), (8, .getfield 20, 3), (11, .iload_n 1, 1), (12, .iaload, 1), (13, .ireturn, 1)] = true := by decide +kernel
theorem dd_X5_howMany : dchk cX5_howMany [(0, .iconst 0, 1), (1, .istore_n 1, 1), (2, .iconst 0, 1), (3, .istore_n 2, 1), (4, .iload_n 2, 1), (5, .bipush 8, 2), (7, .if_icmp .ge 25, 3), (10, .iload_n 1, 1), (11, .aload_n 0, 1), (12, .iload_n 2, 1), (13, .invokevirtual 23, 3), (16, .ifCond .eq 7, 3), (19, .iconst 0, 1), (20, .goto 4, 3), (23, .iconst 1, 1), (24, .iadd, 1), (25, .istore_n 1, 1), (26, .iinc 2 1, 3), (29, .goto (-25), 3), (32, .iload_n 1, 1), (33, .ireturn, 1)] = true := by decide +kernel
theorem dd_X6_init : dchk cX6_init [(0, .aload_n 0, 1), (1, .invokespecial 1, 3), (4, .aload_n 0, 1), (5, .bipush 120, 2), (7, .newarray .int, 2), (9, .putfield 9, 3), (12, .return_, 1)] = true := by decide +kernel
theorem dd_X6_isFull : dchk cX6_isFull [(0, .aload_n 0, 1), (1, .getfield 13, 3), (4, .bipush 120, 2), (6, .if_icmp .lt 7, 3), (9, .iconst 1, 1), (10, .goto 4, 3), (13, .iconst 0, 1), (14, .ireturn, 1)] = true := by decide +kernel
theorem dd_X6_add : dchk cX6_add [(0, .aload_n 0, 1), (1, .getfield 9, 3), (4, .aload_n 0, 1), (5, .getfield 13, 3), (8, .iload_n 1, 1), (9, .iastore, 1), (10, .aload_n 0, 1), (11, .dup, 1), (12, .getfield 13, 3), (15, .iconst 1, 1), (16, .iadd, 1), (17, .putfield 13, 3), (20, .aload_n 0, 1), (21, .getfield 13, 3), (24, .ireturn, 1)] = true := by decide +kernel
theorem dd_X6_at : dchk cX6_at [(0, .iload_n 1, 1), (1, .ifCond .lt 20, 3), (4, .iload_n 1, 1), (5, .aload_n 0, 1), (6, .getfield 13, 3), (9, .if_icmp .ge 12, 3), (12, .aload_n 0, 1), (13, .getfield 9, 3), (16, .iload_n 1, 1), (17, .iaload, 1), (18, .goto 4, 3), (21, .iconst (-1), 1), (22, .ireturn, 1)] = true := by decide +kernel
theorem dd_X6_isFigure : dchk cX6_isFigure [(0, .iload_n 1, 1), (1, .ifCond .lt 37, 3), (4, .iload_n 1, 1), (5, .aload_n 0, 1), (6, .getfield 13, 3), (9, .if_icmp .ge 29, 3), (12, .aload_n 0, 1), (13, .getfield 9, 3), (16, .iload_n 1, 1), (17, .iaload, 1), (18, .bipush 48, 2), (20, .if_icmp .lt 18, 3), (23, .aload_n 0, 1), (24, .getfield 9, 3), (27, .iload_n 1, 1), (28, .iaload, 1), (29, .bipush 57, 2), (31, .if_icmp .gt 7, 3), (34, .iconst 1, 1), (35, .goto 4, 3), (38, .iconst 0, 1), (39, .ireturn, 1)] = true := by decide +kernel
theorem dd_X6_clear : dchk cX6_clear [(0, .aload_n 0, 1), (1, .iconst 0, 1), (2, .putfield 13, 3), (5, .return_, 1)] = true := by decide +kernel
theorem dd_X7_init : dchk cX7_init [(0, .aload_n 0, 1), (1, .invokespecial 3, 3), (4, .aload_n 0, 1), (5, .bipush 12, 2), (7, .newarray .int, 2), (9, .putfield 9, 3), (12, .aload_n 0, 1), (13, .bipush 12, 2), (15, .newarray .int, 2), (17, .putfield 15, 3), (20, .aload_n 0, 1), (21, .aload_n 1, 1), (22, .putfield 18, 3), (25, .return_, 1)] = true := by decide +kernel
theorem dd_X7_takeHums : dchk cX7_takeHums [(0, .aload_n 1, 1), (1, .iload_n 2, 1), (2, .iload_n 3, 1), (3, .iload 4, 2), (5, .invokevirtual 22, 3), (8, .istore 5, 2), (10, .iload 5, 2), (12, .ifCond .eq 6, 3), (15, .iload 5, 2), (17, .ireturn, 1), (18, .aload_n 0, 1), (19, .iload 4, 2), (21, .bipush 12, 2), (23, .invokestatic 28, 3), (26, .putfield 34, 3), (29, .iconst 0, 1), (30, .istore 6, 2), (32, .iload 6, 2), (34, .aload_n 0, 1), (35, .getfield 34, 3), (38, .if_icmp .ge 46, 3), (41, .aload_n 0, 1), (42, .getfield 9, 3), (45, .iload 6, 2), (47, .aload_n 1, 1), (48, .getfield 38, 3), (51, .iload_n 2, 1), (52, .aaload, 1), (53, .iload_n 3, 1), (54, .iload 6, 2), (56, .iadd, 1), (57, .iaload, 1), (58, .iastore, 1), (59, .aload_n 0, 1), (60, .getfield 18, 3), (63, .aload_n 0, 1), (64, .getfield 9, 3), (67, .iload 6, 2), (69, .iaload, 1), (70, .invokevirtual 42, 3), (73, .ifCond .ne 5, 3), (76, .iconst 3, 1), (77, .ireturn, 1), (78, .iinc 6 1, 3), (81, .goto (-49), 3), (84, .iconst 0, 1), (85, .ireturn, 1)] = true := by decide +kernel
theorem dd_X7_takeDreams : dchk cX7_takeDreams [(0, .aload_n 1, 1), (1, .iload_n 2, 1), (2, .iload_n 3, 1), (3, .iload 4, 2), (5, .invokevirtual 22, 3), (8, .istore 5, 2), (10, .iload 5, 2), (12, .ifCond .ne 22, 3), (15, .aload_n 1, 1), (16, .getfield 38, 3), (19, .iload_n 2, 1), (20, .aaload, 1), (21, .iload_n 3, 1), (22, .aload_n 0, 1), (23, .getfield 15, 3), (26, .iconst 0, 1), (27, .aload_n 0, 1), (28, .getfield 34, 3), (31, .invokestatic 48, 3), (34, .iload 5, 2), (36, .ireturn, 1)] = true := by decide +kernel
theorem dd_X7_lastDream : dchk cX7_lastDream [(0, .aload_n 0, 1), (1, .getfield 18, 3), (4, .getfield 54, 3), (7, .istore_n 2, 1), (8, .iconst 0, 1), (9, .istore_n 3, 1), (10, .iload_n 3, 1), (11, .aload_n 0, 1), (12, .getfield 34, 3), (15, .if_icmp .ge 33, 3), (18, .iload_n 3, 1), (19, .iload_n 1, 1), (20, .if_icmp .ne 7, 3), (23, .iload_n 2, 1), (24, .goto 17, 3), (27, .aload_n 0, 1), (28, .getfield 18, 3), (31, .aload_n 0, 1), (32, .getfield 9, 3), (35, .iload_n 3, 1), (36, .iaload, 1), (37, .iload_n 2, 1), (38, .invokevirtual 57, 3), (41, .istore_n 2, 1), (42, .iinc 3 1, 3), (45, .goto (-35), 3), (48, .iload_n 2, 1), (49, .ireturn, 1)] = true := by decide +kernel
theorem dd_X7_placesNotHummed : dchk cX7_placesNotHummed [(0, .aload_n 0, 1), (1, .iconst (-1), 1), (2, .invokevirtual 60, 3), (5, .iload_n 1, 1), (6, .if_icmp .ne 9, 3), (9, .sipush 4096, 3), (12, .goto 4, 3), (15, .iconst 0, 1), (16, .istore_n 2, 1), (17, .iconst 0, 1), (18, .istore_n 3, 1), (19, .iload_n 3, 1), (20, .aload_n 0, 1), (21, .getfield 34, 3), (24, .if_icmp .ge 28, 3), (27, .iload_n 2, 1), (28, .aload_n 0, 1), (29, .iload_n 3, 1), (30, .invokevirtual 60, 3), (33, .iload_n 1, 1), (34, .if_icmp .ne 9, 3), (37, .iconst 1, 1), (38, .iload_n 3, 1), (39, .ishl, 1), (40, .goto 4, 3), (43, .iconst 0, 1), (44, .ior, 1), (45, .istore_n 2, 1), (46, .iinc 3 1, 3), (49, .goto (-30), 3), (52, .iload_n 2, 1), (53, .ireturn, 1)] = true := by decide +kernel
theorem dd_X7_kindsThatFit : dchk cX7_kindsThatFit [(0, .iconst 0, 1), (1, .istore_n 2, 1), (2, .iconst 1, 1), (3, .istore_n 3, 1), (4, .iload_n 3, 1), (5, .iconst 5, 1), (6, .if_icmp .gt 53, 3), (9, .iload_n 2, 1), (10, .aload_n 0, 1), (11, .aload_n 0, 1), (12, .getfield 18, 3), (15, .getfield 54, 3), (18, .iload_n 1, 1), (19, .iload_n 3, 1), (20, .aload_n 0, 1), (21, .getfield 18, 3), (24, .getfield 64, 3), (27, .iload_n 1, 1), (28, .iaload, 1), (29, .aload_n 0, 1), (30, .getfield 18, 3), (33, .getfield 67, 3), (36, .iload_n 1, 1), (37, .iaload, 1), (38, .invokevirtual 70, 3), (41, .ifCond .eq 9, 3), (44, .iconst 1, 1), (45, .iload_n 3, 1), (46, .ishl, 1), (47, .goto 4, 3), (50, .iconst 0, 1), (51, .ior, 1), (52, .istore_n 2, 1), (53, .iinc 3 1, 3), (56, .goto (-52), 3), (59, .iload_n 2, 1), (60, .ireturn, 1)] = true := by decide +kernel
theorem dd_X7_thingsThatFit : dchk cX7_thingsThatFit [(0, .iconst 0, 1), (1, .istore_n 2, 1), (2, .iconst 0, 1), (3, .istore_n 3, 1), (4, .iload_n 3, 1), (5, .aload_n 0, 1), (6, .getfield 18, 3), (9, .getfield 74, 3), (12, .if_icmp .ge 53, 3), (15, .iload_n 2, 1), (16, .aload_n 0, 1), (17, .aload_n 0, 1), (18, .getfield 18, 3), (21, .getfield 54, 3), (24, .iload_n 1, 1), (25, .aload_n 0, 1), (26, .getfield 18, 3), (29, .getfield 77, 3), (32, .iload_n 1, 1), (33, .iaload, 1), (34, .iload_n 3, 1), (35, .aload_n 0, 1), (36, .getfield 18, 3), (39, .getfield 67, 3), (42, .iload_n 1, 1), (43, .iaload, 1), (44, .invokevirtual 70, 3), (47, .ifCond .eq 9, 3), (50, .iconst 1, 1), (51, .iload_n 3, 1), (52, .ishl, 1), (53, .goto 4, 3), (56, .iconst 0, 1), (57, .ior, 1), (58, .istore_n 2, 1), (59, .iinc 3 1, 3), (62, .goto (-58), 3), (65, .iload_n 2, 1), (66, .ireturn, 1)] = true := by decide +kernel
theorem dd_X7_othersThatFit : dchk cX7_othersThatFit [(0, .iconst 0, 1), (1, .istore_n 2, 1), (2, .iconst 0, 1), (3, .istore_n 3, 1), (4, .iload_n 3, 1), (5, .aload_n 0, 1), (6, .getfield 18, 3), (9, .getfield 74, 3), (12, .if_icmp .ge 53, 3), (15, .iload_n 2, 1), (16, .aload_n 0, 1), (17, .aload_n 0, 1), (18, .getfield 18, 3), (21, .getfield 54, 3), (24, .iload_n 1, 1), (25, .aload_n 0, 1), (26, .getfield 18, 3), (29, .getfield 77, 3), (32, .iload_n 1, 1), (33, .iaload, 1), (34, .aload_n 0, 1), (35, .getfield 18, 3), (38, .getfield 64, 3), (41, .iload_n 1, 1), (42, .iaload, 1), (43, .iload_n 3, 1), (44, .invokevirtual 70, 3), (47, .ifCond .eq 9, 3), (50, .iconst 1, 1), (51, .iload_n 3, 1), (52, .ishl, 1), (53, .goto 4, 3), (56, .iconst 0, 1), (57, .ior, 1), (58, .istore_n 2, 1), (59, .iinc 3 1, 3), (62, .goto (-58), 3), (65, .iload_n 2, 1), (66, .ireturn, 1)] = true := by decide +kernel
theorem dd_X7_howManyBegan : dchk cX7_howManyBegan [(0, .iconst 0, 1), (1, .istore_n 1, 1), (2, .iconst 0, 1), (3, .istore_n 2, 1), (4, .iload_n 2, 1), (5, .aload_n 0, 1), (6, .getfield 18, 3), (9, .invokevirtual 80, 3), (12, .if_icmp .ge 25, 3), (15, .iload_n 1, 1), (16, .aload_n 0, 1), (17, .iload_n 2, 1), (18, .invokevirtual 84, 3), (21, .ifCond .eq 7, 3), (24, .iconst 1, 1), (25, .goto 4, 3), (28, .iconst 0, 1), (29, .iadd, 1), (30, .istore_n 1, 1), (31, .iinc 2 1, 3), (34, .goto (-30), 3), (37, .iload_n 1, 1), (38, .ireturn, 1)] = true := by decide +kernel
theorem dd_X7_leastBegan : dchk cX7_leastBegan [(0, .iconst 0, 1), (1, .istore_n 1, 1), (2, .iload_n 1, 1), (3, .aload_n 0, 1), (4, .getfield 18, 3), (7, .invokevirtual 80, 3), (10, .if_icmp .ge 19, 3), (13, .aload_n 0, 1), (14, .iload_n 1, 1), (15, .invokevirtual 84, 3), (18, .ifCond .eq 5, 3), (21, .iload_n 1, 1), (22, .ireturn, 1), (23, .iinc 1 1, 3), (26, .goto (-24), 3), (29, .ldc 87, 2), (31, .ireturn, 1)] = true := by decide +kernel
theorem dd_X7_fitsAsItIs : dchk cX7_fitsAsItIs [(0, .aload_n 0, 1), (1, .iload_n 1, 1), (2, .iconst (-1), 1), (3, .iconst 0, 1), (4, .iconst 0, 1), (5, .iconst 0, 1), (6, .invokevirtual 70, 3), (9, .ireturn, 1)] = true := by decide +kernel
theorem dd_X7_fits : dchk cX7_fits [(0, .iload_n 1, 1), (1, .istore 6, 2), (3, .iconst 0, 1), (4, .istore 7, 2), (6, .iload 7, 2), (8, .aload_n 0, 1), (9, .getfield 34, 3), (12, .if_icmp .ge 69, 3), (15, .aload_n 0, 1), (16, .getfield 9, 3), (19, .iload 7, 2), (21, .iaload, 1), (22, .iload_n 2, 1), (23, .if_icmp .ne 20, 3), (26, .aload_n 0, 1), (27, .getfield 18, 3), (30, .iload_n 3, 1), (31, .iload 4, 2), (33, .iload 5, 2), (35, .iload 6, 2), (37, .invokevirtual 88, 3), (40, .goto 19, 3), (43, .aload_n 0, 1), (44, .getfield 18, 3), (47, .aload_n 0, 1), (48, .getfield 9, 3), (51, .iload 7, 2), (53, .iaload, 1), (54, .iload 6, 2), (56, .invokevirtual 57, 3), (59, .istore 6, 2), (61, .iload 6, 2), (63, .aload_n 0, 1), (64, .getfield 15, 3), (67, .iload 7, 2), (69, .iaload, 1), (70, .if_icmp .eq 5, 3), (73, .iconst 0, 1), (74, .ireturn, 1), (75, .iinc 7 1, 3), (78, .goto (-72), 3), (81, .iconst 1, 1), (82, .ireturn, 1)] = true := by decide +kernel
theorem dd_X8_init : dchk cX8_init [(0, .aload_n 0, 1), (1, .invokespecial 3, 3), (4, .aload_n 0, 1), (5, .sipush 256, 3), (8, .newarray .int, 2), (10, .putfield 9, 3), (13, .aload_n 0, 1), (14, .sipush 256, 3), (17, .newarray .int, 2), (19, .putfield 15, 3), (22, .aload_n 0, 1), (23, .sipush 256, 3), (26, .newarray .int, 2), (28, .putfield 18, 3), (31, .aload_n 0, 1), (32, .sipush 256, 3), (35, .newarray .int, 2), (37, .putfield 21, 3), (40, .aload_n 0, 1), (41, .sipush 256, 3), (44, .newarray .int, 2), (46, .putfield 24, 3), (49, .aload_n 0, 1), (50, .sipush 256, 3), (53, .newarray .int, 2), (55, .putfield 27, 3), (58, .aload_n 0, 1), (59, .aload_n 1, 1), (60, .putfield 30, 3), (63, .return_, 1)] = true := by decide +kernel
theorem dd_X8_howManyBehind : dchk cX8_howManyBehind [(0, .aload_n 0, 1), (1, .iload_n 1, 1), (2, .invokevirtual 34, 3), (5, .iconst 0, 1), (6, .istore_n 2, 1), (7, .iconst 0, 1), (8, .istore_n 3, 1), (9, .iload_n 3, 1), (10, .sipush 256, 3), (13, .if_icmp .ge 18, 3), (16, .iload_n 2, 1), (17, .aload_n 0, 1), (18, .getfield 9, 3), (21, .iload_n 3, 1), (22, .iaload, 1), (23, .iadd, 1), (24, .istore_n 2, 1), (25, .iinc 3 1, 3), (28, .goto (-19), 3), (31, .iload_n 2, 1), (32, .ireturn, 1)] = true := by decide +kernel
theorem dd_X8_inAllBehind : dchk cX8_inAllBehind [(0, .aload_n 0, 1), (1, .iload_n 1, 1), (2, .invokevirtual 34, 3), (5, .aload_n 0, 1), (6, .getfield 30, 3), (9, .invokevirtual 38, 3), (12, .iconst 1, 1), (13, .isub, 1), (14, .istore_n 2, 1), (15, .iconst 0, 1), (16, .istore_n 3, 1), (17, .iload_n 3, 1), (18, .sipush 256, 3), (21, .if_icmp .ge 26, 3), (24, .iload_n 2, 1), (25, .aload_n 0, 1), (26, .getfield 9, 3), (29, .iload_n 3, 1), (30, .iaload, 1), (31, .ifCond .eq 7, 3), (34, .iload_n 3, 1), (35, .goto 4, 3), (38, .iconst (-1), 1), (39, .iand, 1), (40, .istore_n 2, 1), (41, .iinc 3 1, 3), (44, .goto (-27), 3), (47, .iload_n 2, 1), (48, .ireturn, 1)] = true := by decide +kernel
theorem dd_X8_inAnyBehind : dchk cX8_inAnyBehind [(0, .aload_n 0, 1), (1, .iload_n 1, 1), (2, .invokevirtual 34, 3), (5, .iconst 0, 1), (6, .istore_n 2, 1), (7, .iconst 0, 1), (8, .istore_n 3, 1), (9, .iload_n 3, 1), (10, .sipush 256, 3), (13, .if_icmp .ge 26, 3), (16, .iload_n 2, 1), (17, .aload_n 0, 1), (18, .getfield 9, 3), (21, .iload_n 3, 1), (22, .iaload, 1), (23, .ifCond .eq 7, 3), (26, .iload_n 3, 1), (27, .goto 4, 3), (30, .iconst 0, 1), (31, .ior, 1), (32, .istore_n 2, 1), (33, .iinc 3 1, 3), (36, .goto (-27), 3), (39, .iload_n 2, 1), (40, .ireturn, 1)] = true := by decide +kernel
theorem dd_X8_leastBehind : dchk cX8_leastBehind [(0, .aload_n 0, 1), (1, .iload_n 1, 1), (2, .invokevirtual 34, 3), (5, .iconst 0, 1), (6, .istore_n 2, 1), (7, .iload_n 2, 1), (8, .sipush 256, 3), (11, .if_icmp .ge 20, 3), (14, .aload_n 0, 1), (15, .getfield 9, 3), (18, .iload_n 2, 1), (19, .iaload, 1), (20, .ifCond .eq 5, 3), (23, .iload_n 2, 1), (24, .ireturn, 1), (25, .iinc 2 1, 3), (28, .goto (-21), 3), (31, .ldc 44, 2), (33, .ireturn, 1)] = true := by decide +kernel
theorem dd_X8_greatestBehind : dchk cX8_greatestBehind [(0, .aload_n 0, 1), (1, .iload_n 1, 1), (2, .invokevirtual 34, 3), (5, .sipush 255, 3), (8, .istore_n 2, 1), (9, .iload_n 2, 1), (10, .ifCond .lt 20, 3), (13, .aload_n 0, 1), (14, .getfield 9, 3), (17, .iload_n 2, 1), (18, .iaload, 1), (19, .ifCond .eq 5, 3), (22, .iload_n 2, 1), (23, .ireturn, 1), (24, .iinc 2 (-1), 3), (27, .goto (-18), 3), (30, .ldc 44, 2), (32, .ireturn, 1)] = true := by decide +kernel
theorem dd_X8_goBehind : dchk cX8_goBehind [(0, .aload_n 0, 1), (1, .getfield 9, 3), (4, .iconst 0, 1), (5, .invokestatic 45, 3), (8, .aload_n 0, 1), (9, .getfield 9, 3), (12, .aload_n 0, 1), (13, .getfield 30, 3), (16, .getfield 51, 3), (19, .iconst 1, 1), (20, .iastore, 1), (21, .iconst 0, 1), (22, .istore_n 2, 1), (23, .iload_n 2, 1), (24, .iload_n 1, 1), (25, .if_icmp .ge 66, 3), (28, .aload_n 0, 1), (29, .getfield 15, 3), (32, .iconst 0, 1), (33, .invokestatic 45, 3), (36, .iconst 0, 1), (37, .istore_n 3, 1), (38, .iload_n 3, 1), (39, .aload_n 0, 1), (40, .getfield 30, 3), (43, .invokevirtual 38, 3), (46, .if_icmp .ge 23, 3), (49, .aload_n 0, 1), (50, .getfield 9, 3), (53, .iload_n 3, 1), (54, .iaload, 1), (55, .ifCond .eq 8, 3), (58, .aload_n 0, 1), (59, .iload_n 3, 1), (60, .invokevirtual 55, 3), (63, .iinc 3 1, 3), (66, .goto (-28), 3), (69, .aload_n 0, 1), (70, .getfield 15, 3), (73, .iconst 0, 1), (74, .aload_n 0, 1), (75, .getfield 9, 3), (78, .iconst 0, 1), (79, .sipush 256, 3), (82, .invokestatic 58, 3), (85, .iinc 2 1, 3), (88, .goto (-65), 3), (91, .return_, 1)] = true := by decide +kernel
theorem dd_X8_markBehind : dchk cX8_markBehind [(0, .iconst 0, 1), (1, .istore_n 2, 1), (2, .iload_n 2, 1), (3, .aload_n 0, 1), (4, .getfield 30, 3), (7, .getfield 64, 3), (10, .if_icmp .ge 24, 3), (13, .aload_n 0, 1), (14, .getfield 15, 3), (17, .aload_n 0, 1), (18, .getfield 30, 3), (21, .iload_n 2, 1), (22, .iload_n 1, 1), (23, .invokevirtual 67, 3), (26, .iconst 1, 1), (27, .iastore, 1), (28, .iinc 2 1, 3), (31, .goto (-29), 3), (34, .return_, 1)] = true := by decide +kernel
theorem dd_X8_goWithin : dchk cX8_goWithin [(0, .aload_n 0, 1), (1, .getfield 9, 3), (4, .iconst 0, 1), (5, .invokestatic 45, 3), (8, .aload_n 0, 1), (9, .iconst 0, 1), (10, .putfield 71, 3), (13, .aload_n 0, 1), (14, .aload_n 0, 1), (15, .getfield 30, 3), (18, .getfield 51, 3), (21, .iconst (-1), 1), (22, .iconst (-1), 1), (23, .iconst 0, 1), (24, .invokevirtual 74, 3), (27, .iconst 0, 1), (28, .istore_n 2, 1), (29, .iload_n 2, 1), (30, .sipush 256, 3), (33, .if_icmp .ge 74, 3), (36, .iload_n 2, 1), (37, .aload_n 0, 1), (38, .getfield 71, 3), (41, .if_icmp .ge 66, 3), (44, .aload_n 0, 1), (45, .getfield 27, 3), (48, .iload_n 2, 1), (49, .iaload, 1), (50, .iload_n 1, 1), (51, .if_icmp .ge 56, 3), (54, .iconst 0, 1), (55, .istore_n 3, 1), (56, .iload_n 3, 1), (57, .aload_n 0, 1), (58, .getfield 30, 3), (61, .getfield 64, 3), (64, .if_icmp .ge 37, 3), (67, .aload_n 0, 1), (68, .aload_n 0, 1), (69, .getfield 30, 3), (72, .iload_n 3, 1), (73, .aload_n 0, 1), (74, .getfield 18, 3), (77, .iload_n 2, 1), (78, .iaload, 1), (79, .invokevirtual 67, 3), (82, .iload_n 2, 1), (83, .iload_n 3, 1), (84, .aload_n 0, 1), (85, .getfield 27, 3), (88, .iload_n 2, 1), (89, .iaload, 1), (90, .iconst 1, 1), (91, .iadd, 1), (92, .invokevirtual 74, 3), (95, .iinc 3 1, 3), (98, .goto (-42), 3), (101, .iinc 2 1, 3), (104, .goto (-75), 3), (107, .return_, 1)] = true := by decide +kernel
theorem dd_X8_meet : dchk cX8_meet [(0, .aload_n 0, 1), (1, .getfield 9, 3), (4, .iload_n 1, 1), (5, .iaload, 1), (6, .ifCond .ne 71, 3), (9, .aload_n 0, 1), (10, .getfield 71, 3), (13, .sipush 256, 3), (16, .if_icmp .ge 61, 3), (19, .aload_n 0, 1), (20, .getfield 9, 3), (23, .iload_n 1, 1), (24, .iconst 1, 1), (25, .iastore, 1), (26, .aload_n 0, 1), (27, .getfield 18, 3), (30, .aload_n 0, 1), (31, .getfield 71, 3), (34, .iload_n 1, 1), (35, .iastore, 1), (36, .aload_n 0, 1), (37, .getfield 21, 3), (40, .aload_n 0, 1), (41, .getfield 71, 3), (44, .iload_n 2, 1), (45, .iastore, 1), (46, .aload_n 0, 1), (47, .getfield 24, 3), (50, .aload_n 0, 1), (51, .getfield 71, 3), (54, .iload_n 3, 1), (55, .iastore, 1), (56, .aload_n 0, 1), (57, .getfield 27, 3), (60, .aload_n 0, 1), (61, .getfield 71, 3), (64, .iload 4, 2), (66, .iastore, 1), (67, .aload_n 0, 1), (68, .dup, 1), (69, .getfield 71, 3), (72, .iconst 1, 1), (73, .iadd, 1), (74, .putfield 71, 3), (77, .return_, 1)] = true := by decide +kernel
theorem dd_X8_firstWith : dchk cX8_firstWith [(0, .iconst 0, 1), (1, .istore_n 3, 1), (2, .iload_n 3, 1), (3, .aload_n 0, 1), (4, .getfield 71, 3), (7, .if_icmp .ge 34, 3), (10, .aload_n 0, 1), (11, .getfield 18, 3), (14, .iload_n 3, 1), (15, .iaload, 1), (16, .iload_n 1, 1), (17, .iand, 1), (18, .iload_n 1, 1), (19, .if_icmp .ne 16, 3), (22, .aload_n 0, 1), (23, .getfield 18, 3), (26, .iload_n 3, 1), (27, .iaload, 1), (28, .iload_n 2, 1), (29, .iand, 1), (30, .ifCond .ne 5, 3), (33, .iload_n 3, 1), (34, .ireturn, 1), (35, .iinc 3 1, 3), (38, .goto (-36), 3), (41, .iconst (-1), 1), (42, .ireturn, 1)] = true := by decide +kernel
theorem dd_X8_firstFree : dchk cX8_firstFree [(0, .iconst 0, 1), (1, .istore_n 2, 1), (2, .iload_n 2, 1), (3, .aload_n 0, 1), (4, .getfield 71, 3), (7, .if_icmp .ge 29, 3), (10, .aload_n 0, 1), (11, .getfield 30, 3), (14, .iload_n 1, 1), (15, .aload_n 0, 1), (16, .getfield 18, 3), (19, .iload_n 2, 1), (20, .iaload, 1), (21, .invokevirtual 78, 3), (24, .iconst 1, 1), (25, .if_icmp .ne 5, 3), (28, .iload_n 2, 1), (29, .ireturn, 1), (30, .iinc 2 1, 3), (33, .goto (-31), 3), (36, .iconst (-1), 1), (37, .ireturn, 1)] = true := by decide +kernel
theorem dd_X8_humOfRowTo : dchk cX8_humOfRowTo [(0, .iload_n 1, 1), (1, .iconst (-1), 1), (2, .if_icmp .ne 6, 3), (5, .ldc 44, 2), (7, .ireturn, 1), (8, .iload_n 2, 1), (9, .iconst (-1), 1), (10, .if_icmp .ne 10, 3), (13, .aload_n 0, 1), (14, .getfield 27, 3), (17, .iload_n 1, 1), (18, .iaload, 1), (19, .ireturn, 1), (20, .iload_n 2, 1), (21, .aload_n 0, 1), (22, .getfield 27, 3), (25, .iload_n 1, 1), (26, .iaload, 1), (27, .if_icmp .lt 6, 3), (30, .ldc 44, 2), (32, .ireturn, 1), (33, .iload_n 1, 1), (34, .istore_n 3, 1), (35, .aload_n 0, 1), (36, .getfield 27, 3), (39, .iload_n 1, 1), (40, .iaload, 1), (41, .istore 4, 2), (43, .iload 4, 2), (45, .iload_n 2, 1), (46, .iconst 1, 1), (47, .iadd, 1), (48, .if_icmp .le 16, 3), (51, .aload_n 0, 1), (52, .getfield 21, 3), (55, .iload_n 3, 1), (56, .iaload, 1), (57, .istore_n 3, 1), (58, .iinc 4 (-1), 3), (61, .goto (-18), 3), (64, .aload_n 0, 1), (65, .getfield 24, 3), (68, .iload_n 3, 1), (69, .iaload, 1), (70, .ireturn, 1)] = true := by decide +kernel
theorem dd_X8_verdictsMet : dchk cX8_verdictsMet [(0, .iconst 0, 1), (1, .istore_n 2, 1), (2, .iconst 0, 1), (3, .istore_n 3, 1), (4, .iload_n 3, 1), (5, .aload_n 0, 1), (6, .getfield 71, 3), (9, .if_icmp .ge 28, 3), (12, .iload_n 2, 1), (13, .iconst 1, 1), (14, .aload_n 0, 1), (15, .getfield 30, 3), (18, .iload_n 1, 1), (19, .aload_n 0, 1), (20, .getfield 18, 3), (23, .iload_n 3, 1), (24, .iaload, 1), (25, .invokevirtual 78, 3), (28, .ishl, 1), (29, .ior, 1), (30, .istore_n 2, 1), (31, .iinc 3 1, 3), (34, .goto (-30), 3), (37, .iload_n 2, 1), (38, .ireturn, 1)] = true := by decide +kernel
theorem dd_X9_init : dchk cX9_init [(0, .aload_n 0, 1), (1, .invokespecial 1, 3), (4, .aload_n 0, 1), (5, .new 7, 3), (8, .dup, 1), (9, .invokespecial 9, 3), (12, .putfield 10, 3), (15, .aload_n 0, 1), (16, .new 16, 3), (19, .dup, 1), (20, .invokespecial 18, 3), (23, .putfield 19, 3), (26, .aload_n 0, 1), (27, .new 23, 3), (30, .dup, 1), (31, .invokespecial 25, 3), (34, .putfield 26, 3), (37, .aload_n 0, 1), (38, .new 23, 3), (41, .dup, 1), (42, .invokespecial 25, 3), (45, .putfield 30, 3), (48, .aload_n 0, 1), (49, .new 33, 3), (52, .dup, 1), (53, .aload_n 0, 1), (54, .getfield 19, 3), (57, .aload_n 0, 1), (58, .getfield 30, 3), (61, .invokespecial 35, 3), (64, .putfield 38, 3), (67, .aload_n 0, 1), (68, .new 42, 3), (71, .dup, 1), (72, .invokespecial 44, 3), (75, .putfield 45, 3), (78, .aload_n 0, 1), (79, .iconst 2, 1), (80, .anewarray 23, 3), (83, .dup, 1), (84, .iconst 0, 1), (85, .new 23, 3), (88, .dup, 1), (89, .invokespecial 25, 3), (92, .aastore, 1), (93, .dup, 1), (94, .iconst 1, 1), (95, .new 23, 3), (98, .dup, 1), (99, .invokespecial 25, 3), (102, .aastore, 1), (103, .putfield 49, 3), (106, .aload_n 0, 1), (107, .new 53, 3), (110, .dup, 1), (111, .aload_n 0, 1), (112, .getfield 26, 3), (115, .invokespecial 55, 3), (118, .putfield 58, 3), (121, .aload_n 0, 1), (122, .new 62, 3), (125, .dup, 1), (126, .aload_n 0, 1), (127, .getfield 26, 3), (130, .invokespecial 64, 3), (133, .putfield 65, 3), (136, .aload_n 0, 1), (137, .new 69, 3), (140, .dup, 1), (141, .aload_n 0, 1), (142, .getfield 26, 3), (145, .invokespecial 71, 3), (148, .putfield 72, 3), (151, .aload_n 0, 1), (152, .new 76, 3), (155, .dup, 1), (156, .aload_n 0, 1), (157, .getfield 26, 3), (160, .invokespecial 78, 3), (163, .putfield 79, 3), (166, .return_, 1)] = true := by decide +kernel
theorem dd_X9_row : dchk cX9_row [(0, .aload_n 0, 1), (1, .getfield 10, 3), (4, .iload_n 1, 1), (5, .invokevirtual 83, 3), (8, .ifCond .eq 20, 3), (11, .aload_n 0, 1), (12, .getfield 10, 3), (15, .iload_n 2, 1), (16, .invokevirtual 87, 3), (19, .ifCond .eq 9, 3), (22, .iload_n 3, 1), (23, .bipush 40, 2), (25, .if_icmp .le 6, 3), (28, .ldc 90, 2), (30, .ireturn, 1), (31, .iload_n 3, 1), (32, .ifCond .ge 9, 3), (35, .aload_n 0, 1), (36, .iconst 4, 1), (37, .invokevirtual 91, 3), (40, .ireturn, 1), (41, .aload_n 0, 1), (42, .getfield 10, 3), (45, .iload_n 1, 1), (46, .iload_n 2, 1), (47, .iload_n 3, 1), (48, .invokevirtual 95, 3), (51, .aload_n 0, 1), (52, .iload_n 3, 1), (53, .invokevirtual 99, 3), (56, .ireturn, 1)] = true := by decide +kernel
theorem dd_X9_set : dchk cX9_set [(0, .aload_n 0, 1), (1, .getfield 10, 3), (4, .iload_n 1, 1), (5, .invokevirtual 83, 3), (8, .ifCond .ne 6, 3), (11, .ldc 90, 2), (13, .ireturn, 1), (14, .aload_n 0, 1), (15, .getfield 10, 3), (18, .iload_n 1, 1), (19, .iload_n 2, 1), (20, .iconst 1, 1), (21, .invokevirtual 102, 3), (24, .istore 4, 2), (26, .iload 4, 2), (28, .ifCond .eq 12, 3), (31, .aload_n 0, 1), (32, .iload 4, 2), (34, .invokevirtual 91, 3), (37, .goto 17, 3), (40, .aload_n 0, 1), (41, .aload_n 0, 1), (42, .getfield 10, 3), (45, .iload_n 1, 1), (46, .iload_n 2, 1), (47, .iload_n 3, 1), (48, .invokevirtual 106, 3), (51, .invokevirtual 99, 3), (54, .ireturn, 1)] = true := by decide +kernel
theorem dd_X9_copy : dchk cX9_copy [(0, .aload_n 0, 1), (1, .getfield 10, 3), (4, .iload_n 1, 1), (5, .invokevirtual 83, 3), (8, .ifCond .eq 14, 3), (11, .aload_n 0, 1), (12, .getfield 10, 3), (15, .iload_n 3, 1), (16, .invokevirtual 83, 3), (19, .ifCond .ne 6, 3), (22, .ldc 90, 2), (24, .ireturn, 1), (25, .aload_n 0, 1), (26, .getfield 10, 3), (29, .iload_n 1, 1), (30, .invokevirtual 109, 3), (33, .ifCond .ne 14, 3), (36, .aload_n 0, 1), (37, .getfield 10, 3), (40, .iload_n 3, 1), (41, .invokevirtual 109, 3), (44, .ifCond .eq 9, 3), (47, .aload_n 0, 1), (48, .iconst 1, 1), (49, .invokevirtual 91, 3), (52, .ireturn, 1), (53, .aload_n 0, 1), (54, .getfield 10, 3), (57, .iload_n 1, 1), (58, .iload_n 3, 1), (59, .invokevirtual 112, 3), (62, .ifCond .ne 9, 3), (65, .aload_n 0, 1), (66, .iconst 5, 1), (67, .invokevirtual 91, 3), (70, .ireturn, 1), (71, .aload_n 0, 1), (72, .getfield 10, 3), (75, .iload_n 1, 1), (76, .iload_n 2, 1), (77, .iload 5, 2), (79, .invokevirtual 102, 3), (82, .ifCond .ne 18, 3), (85, .aload_n 0, 1), (86, .getfield 10, 3), (89, .iload_n 3, 1), (90, .iload 4, 2), (92, .iload 5, 2), (94, .invokevirtual 102, 3), (97, .ifCond .eq 9, 3), (100, .aload_n 0, 1), (101, .iconst 2, 1), (102, .invokevirtual 91, 3), (105, .ireturn, 1), (106, .aload_n 0, 1), (107, .getfield 10, 3), (110, .iload_n 1, 1), (111, .iload_n 2, 1), (112, .iload_n 3, 1), (113, .iload 4, 2), (115, .iload 5, 2), (117, .invokevirtual 116, 3), (120, .aload_n 0, 1), (121, .iload 5, 2), (123, .invokevirtual 99, 3), (126, .ireturn, 1)] = true := by decide +kernel
theorem dd_X9_drop : dchk cX9_drop [(0, .aload_n 0, 1), (1, .getfield 10, 3), (4, .iload_n 1, 1), (5, .invokevirtual 83, 3), (8, .ifCond .ne 6, 3), (11, .ldc 90, 2), (13, .ireturn, 1), (14, .aload_n 0, 1), (15, .getfield 10, 3), (18, .iload_n 1, 1), (19, .invokevirtual 109, 3), (22, .ifCond .eq 11, 3), (25, .aload_n 0, 1), (26, .iconst 1, 1), (27, .invokevirtual 91, 3), (30, .goto 15, 3), (33, .aload_n 0, 1), (34, .aload_n 0, 1), (35, .getfield 10, 3), (38, .iload_n 1, 1), (39, .invokevirtual 120, 3), (42, .invokevirtual 99, 3), (45, .ireturn, 1)] = true := by decide +kernel
theorem dd_X9_feed : dchk cX9_feed [(0, .iload_n 1, 1), (1, .ifCond .lt 10, 3), (4, .iload_n 1, 1), (5, .sipush 255, 3), (8, .if_icmp .le 6, 3), (11, .ldc 90, 2), (13, .ireturn, 1), (14, .aload_n 0, 1), (15, .getfield 19, 3), (18, .invokevirtual 123, 3), (21, .ifCond .eq 8, 3), (24, .ldc 127, 2), (26, .goto 11, 3), (29, .aload_n 0, 1), (30, .getfield 19, 3), (33, .iload_n 1, 1), (34, .invokevirtual 128, 3), (37, .ireturn, 1)] = true := by decide +kernel
theorem dd_X9_court : dchk cX9_court [(0, .aload_n 0, 1), (1, .getfield 38, 3), (4, .invokevirtual 131, 3), (7, .aload_n 0, 1), (8, .getfield 19, 3), (11, .invokevirtual 134, 3), (14, .aload_n 0, 1), (15, .getfield 38, 3), (18, .getfield 137, 3), (21, .ifCond .eq 25, 3), (24, .aload_n 0, 1), (25, .aload_n 0, 1), (26, .getfield 38, 3), (29, .getfield 137, 3), (32, .putfield 141, 3), (35, .ldc 144, 2), (37, .aload_n 0, 1), (38, .getfield 38, 3), (41, .getfield 145, 3), (44, .isub, 1), (45, .ireturn, 1), (46, .aload_n 0, 1), (47, .getfield 26, 3), (50, .aload_n 0, 1), (51, .getfield 30, 3), (54, .invokevirtual 148, 3), (57, .aload_n 0, 1), (58, .getfield 45, 3), (61, .invokevirtual 151, 3), (64, .aload_n 0, 1), (65, .getfield 26, 3), (68, .getfield 152, 3), (71, .ireturn, 1)] = true := by decide +kernel
theorem dd_X9_fault : dchk cX9_fault [(0, .aload_n 0, 1), (1, .getfield 141, 3), (4, .ireturn, 1)] = true := by decide +kernel
theorem dd_X9_undo : dchk cX9_undo [(0, .aload_n 0, 1), (1, .getfield 45, 3), (4, .getfield 155, 3), (7, .ifCond .ne 8, 3), (10, .ldc 158, 2), (12, .goto 14, 3), (15, .aload_n 0, 1), (16, .getfield 45, 3), (19, .aload_n 0, 1), (20, .getfield 26, 3), (23, .invokevirtual 159, 3), (26, .ireturn, 1)] = true := by decide +kernel
theorem dd_X9_hum : dchk cX9_hum [(0, .aload_n 0, 1), (1, .getfield 26, 3), (4, .iload_n 1, 1), (5, .invokevirtual 163, 3), (8, .ifCond .ne 6, 3), (11, .ldc 90, 2), (13, .ireturn, 1), (14, .aload_n 0, 1), (15, .getfield 26, 3), (18, .getfield 166, 3), (21, .aload_n 0, 1), (22, .getfield 26, 3), (25, .getfield 169, 3), (28, .if_icmp .lt 6, 3), (31, .ldc 127, 2), (33, .ireturn, 1), (34, .aload_n 0, 1), (35, .getfield 45, 3), (38, .aload_n 0, 1), (39, .getfield 26, 3), (42, .invokevirtual 172, 3), (45, .aload_n 0, 1), (46, .getfield 26, 3), (49, .aload_n 0, 1), (50, .getfield 26, 3), (53, .iload_n 1, 1), (54, .aload_n 0, 1), (55, .getfield 26, 3), (58, .getfield 175, 3), (61, .invokevirtual 178, 3), (64, .putfield 175, 3), (67, .aload_n 0, 1), (68, .getfield 26, 3), (71, .dup, 1), (72, .getfield 166, 3), (75, .iconst 1, 1), (76, .iadd, 1), (77, .putfield 166, 3), (80, .aload_n 0, 1), (81, .getfield 26, 3), (84, .getfield 175, 3), (87, .ireturn, 1)] = true := by decide +kernel
theorem dd_X9_hear : dchk cX9_hear [(0, .aload_n 0, 1), (1, .getfield 26, 3), (4, .iload_n 1, 1), (5, .invokevirtual 182, 3), (8, .ifCond .ne 6, 3), (11, .ldc 90, 2), (13, .ireturn, 1), (14, .aload_n 0, 1), (15, .getfield 26, 3), (18, .getfield 185, 3), (21, .iload_n 1, 1), (22, .iaload, 1), (23, .ifCond .eq 6, 3), (26, .ldc 158, 2), (28, .ireturn, 1), (29, .aload_n 0, 1), (30, .getfield 45, 3), (33, .aload_n 0, 1), (34, .getfield 26, 3), (37, .invokevirtual 172, 3), (40, .aload_n 0, 1), (41, .getfield 26, 3), (44, .iload_n 1, 1), (45, .aload_n 0, 1), (46, .getfield 26, 3), (49, .getfield 175, 3), (52, .invokevirtual 189, 3), (55, .istore_n 2, 1), (56, .aload_n 0, 1), (57, .getfield 26, 3), (60, .getfield 185, 3), (63, .iload_n 1, 1), (64, .iload_n 2, 1), (65, .iastore, 1), (66, .aload_n 0, 1), (67, .getfield 26, 3), (70, .aload_n 0, 1), (71, .getfield 26, 3), (74, .iload_n 1, 1), (75, .aload_n 0, 1), (76, .getfield 26, 3), (79, .getfield 175, 3), (82, .invokevirtual 192, 3), (85, .putfield 175, 3), (88, .aload_n 0, 1), (89, .getfield 26, 3), (92, .dup, 1), (93, .getfield 195, 3), (96, .iconst 1, 1), (97, .iadd, 1), (98, .putfield 195, 3), (101, .aload_n 0, 1), (102, .getfield 26, 3), (105, .iconst 0, 1), (106, .putfield 166, 3), (109, .iload_n 2, 1), (110, .ireturn, 1)] = true := by decide +kernel
theorem dd_X9_appeal : dchk cX9_appeal [(0, .aload_n 0, 1), (1, .getfield 26, 3), (4, .iload_n 1, 1), (5, .invokevirtual 182, 3), (8, .ifCond .ne 6, 3), (11, .ldc 90, 2), (13, .ireturn, 1), (14, .aload_n 0, 1), (15, .getfield 26, 3), (18, .getfield 185, 3), (21, .iload_n 1, 1), (22, .iaload, 1), (23, .iconst 2, 1), (24, .if_icmp .eq 6, 3), (27, .ldc 158, 2), (29, .ireturn, 1), (30, .aload_n 0, 1), (31, .getfield 45, 3), (34, .aload_n 0, 1), (35, .getfield 26, 3), (38, .invokevirtual 172, 3), (41, .aload_n 0, 1), (42, .getfield 26, 3), (45, .iload_n 1, 1), (46, .aload_n 0, 1), (47, .getfield 26, 3), (50, .getfield 175, 3), (53, .invokevirtual 198, 3), (56, .iconst 1, 1), (57, .if_icmp .ne 7, 3), (60, .iconst 1, 1), (61, .goto 4, 3), (64, .iconst 0, 1), (65, .istore_n 2, 1), (66, .aload_n 0, 1), (67, .getfield 26, 3), (70, .getfield 185, 3), (73, .iload_n 1, 1), (74, .iload_n 2, 1), (75, .ifCond .eq 7, 3), (78, .iconst 0, 1), (79, .goto 4, 3), (82, .iconst 3, 1), (83, .iastore, 1), (84, .iload_n 2, 1), (85, .ifCond .eq 7, 3), (88, .iconst 1, 1), (89, .goto 4, 3), (92, .iconst 0, 1), (93, .ireturn, 1)] = true := by decide +kernel
theorem dd_X9_forget : dchk cX9_forget [(0, .aload_n 0, 1), (1, .getfield 26, 3), (4, .iload_n 1, 1), (5, .invokevirtual 201, 3), (8, .ifCond .ne 6, 3), (11, .ldc 90, 2), (13, .ireturn, 1), (14, .aload_n 0, 1), (15, .getfield 26, 3), (18, .getfield 175, 3), (21, .iload_n 1, 1), (22, .ishr, 1), (23, .iconst 1, 1), (24, .iand, 1), (25, .ifCond .ne 6, 3), (28, .ldc 158, 2), (30, .ireturn, 1), (31, .aload_n 0, 1), (32, .getfield 45, 3), (35, .aload_n 0, 1), (36, .getfield 26, 3), (39, .invokevirtual 172, 3), (42, .aload_n 0, 1), (43, .getfield 26, 3), (46, .dup, 1), (47, .getfield 175, 3), (50, .iconst 1, 1), (51, .iload_n 1, 1), (52, .ishl, 1), (53, .iconst (-1), 1), (54, .ixor, 1), (55, .iand, 1), (56, .putfield 175, 3), (59, .aload_n 0, 1), (60, .getfield 26, 3), (63, .getfield 175, 3), (66, .ireturn, 1)] = true := by decide +kernel
theorem dd_X9_learn : dchk cX9_learn [(0, .aload_n 0, 1), (1, .getfield 26, 3), (4, .iload_n 1, 1), (5, .invokevirtual 163, 3), (8, .ifCond .eq 14, 3), (11, .aload_n 0, 1), (12, .getfield 26, 3), (15, .iload_n 2, 1), (16, .invokevirtual 201, 3), (19, .ifCond .ne 6, 3), (22, .ldc 90, 2), (24, .ireturn, 1), (25, .aload_n 0, 1), (26, .getfield 45, 3), (29, .aload_n 0, 1), (30, .getfield 26, 3), (33, .invokevirtual 172, 3), (36, .aload_n 0, 1), (37, .getfield 26, 3), (40, .getfield 204, 3), (43, .iload_n 1, 1), (44, .iaload, 1), (45, .istore_n 3, 1), (46, .aload_n 0, 1), (47, .getfield 26, 3), (50, .getfield 204, 3), (53, .iload_n 1, 1), (54, .iload_n 2, 1), (55, .iastore, 1), (56, .iload_n 3, 1), (57, .ireturn, 1)] = true := by decide +kernel
theorem dd_X9_ofHum : dchk cX9_ofHum [(0, .aload_n 0, 1), (1, .getfield 26, 3), (4, .iload_n 1, 1), (5, .invokevirtual 163, 3), (8, .ifCond .ne 6, 3), (11, .ldc 90, 2), (13, .ireturn, 1), (14, .iload_n 2, 1), (15, .tableswitch 61 0 2 #[25, 35, 45], 25), (40, .aload_n 0, 1), (41, .getfield 26, 3), (44, .getfield 204, 3), (47, .iload_n 1, 1), (48, .iaload, 1), (49, .ireturn, 1), (50, .aload_n 0, 1), (51, .getfield 26, 3), (54, .getfield 207, 3), (57, .iload_n 1, 1), (58, .iaload, 1), (59, .ireturn, 1), (60, .aload_n 0, 1), (61, .getfield 26, 3), (64, .iload_n 1, 1), (65, .aload_n 0, 1), (66, .getfield 26, 3), (69, .getfield 175, 3), (72, .invokevirtual 178, 3), (75, .ireturn, 1), (76, .ldc 90, 2), (78, .ireturn, 1)] = true := by decide +kernel
theorem dd_X9_ofCase : dchk cX9_ofCase [(0, .aload_n 0, 1), (1, .getfield 26, 3), (4, .iload_n 1, 1), (5, .invokevirtual 182, 3), (8, .ifCond .ne 6, 3), (11, .ldc 90, 2), (13, .ireturn, 1), (14, .iload_n 2, 1), (15, .tableswitch 89 0 4 #[33, 43, 53, 63, 73], 33), (48, .aload_n 0, 1), (49, .getfield 26, 3), (52, .getfield 210, 3), (55, .iload_n 1, 1), (56, .iaload, 1), (57, .ireturn, 1), (58, .aload_n 0, 1), (59, .getfield 26, 3), (62, .getfield 213, 3), (65, .iload_n 1, 1), (66, .iaload, 1), (67, .ireturn, 1), (68, .aload_n 0, 1), (69, .getfield 26, 3), (72, .getfield 216, 3), (75, .iload_n 1, 1), (76, .iaload, 1), (77, .ireturn, 1), (78, .aload_n 0, 1), (79, .getfield 26, 3), (82, .getfield 185, 3), (85, .iload_n 1, 1), (86, .iaload, 1), (87, .ireturn, 1), (88, .aload_n 0, 1), (89, .getfield 26, 3), (92, .iload_n 1, 1), (93, .aload_n 0, 1), (94, .getfield 26, 3), (97, .getfield 175, 3), (100, .invokevirtual 189, 3), (103, .ireturn, 1), (104, .ldc 90, 2), (106, .ireturn, 1)] = true := by decide +kernel
theorem dd_X9_stand : dchk cX9_stand [(0, .aload_n 0, 1), (1, .getfield 26, 3), (4, .invokevirtual 219, 3), (7, .ifCond .ne 6, 3), (10, .ldc 158, 2), (12, .ireturn, 1), (13, .iload_n 1, 1), (14, .tableswitch 86 0 4 #[34, 42, 50, 59, 68], 34), (48, .aload_n 0, 1), (49, .getfield 26, 3), (52, .getfield 175, 3), (55, .ireturn, 1), (56, .aload_n 0, 1), (57, .getfield 26, 3), (60, .getfield 166, 3), (63, .ireturn, 1), (64, .aload_n 0, 1), (65, .getfield 26, 3), (68, .iconst 0, 1), (69, .invokevirtual 222, 3), (72, .ireturn, 1), (73, .aload_n 0, 1), (74, .getfield 26, 3), (77, .iconst 1, 1), (78, .invokevirtual 222, 3), (81, .ireturn, 1), (82, .aload_n 0, 1), (83, .getfield 26, 3), (86, .iconst 2, 1), (87, .invokevirtual 222, 3), (90, .aload_n 0, 1), (91, .getfield 26, 3), (94, .iconst 3, 1), (95, .invokevirtual 222, 3), (98, .ior, 1), (99, .ireturn, 1), (100, .ldc 90, 2), (102, .ireturn, 1)] = true := by decide +kernel
theorem dd_X9_sleep : dchk cX9_sleep [(0, .aload_n 0, 1), (1, .getfield 26, 3), (4, .invokevirtual 219, 3), (7, .ifCond .ne 6, 3), (10, .ldc 158, 2), (12, .ireturn, 1), (13, .aload_n 0, 1), (14, .getfield 10, 3), (17, .iload_n 1, 1), (18, .invokevirtual 83, 3), (21, .ifCond .eq 10, 3), (24, .iload_n 3, 1), (25, .invokestatic 225, 3), (28, .ifCond .ne 6, 3), (31, .ldc 90, 2), (33, .ireturn, 1), (34, .aload_n 0, 1), (35, .getfield 72, 3), (38, .aload_n 0, 1), (39, .getfield 10, 3), (42, .iload_n 1, 1), (43, .iload_n 2, 1), (44, .iload_n 3, 1), (45, .invokevirtual 228, 3), (48, .istore 4, 2), (50, .iload 4, 2), (52, .ifCond .eq 12, 3), (55, .aload_n 0, 1), (56, .iload 4, 2), (58, .invokevirtual 91, 3), (61, .goto 15, 3), (64, .aload_n 0, 1), (65, .aload_n 0, 1), (66, .getfield 72, 3), (69, .iconst (-1), 1), (70, .invokevirtual 232, 3), (73, .invokevirtual 99, 3), (76, .ireturn, 1)] = true := by decide +kernel
theorem dd_X9_dreams : dchk cX9_dreams [(0, .aload_n 0, 1), (1, .getfield 26, 3), (4, .invokevirtual 219, 3), (7, .ifCond .ne 6, 3), (10, .ldc 158, 2), (12, .ireturn, 1), (13, .iload_n 1, 1), (14, .invokestatic 235, 3), (17, .ifCond .ne 6, 3), (20, .ldc 90, 2), (22, .ireturn, 1), (23, .iload_n 2, 1), (24, .tableswitch 81 0 4 #[36, 45, 54, 63, 72], 36), (60, .aload_n 0, 1), (61, .getfield 58, 3), (64, .iload_n 1, 1), (65, .invokevirtual 238, 3), (68, .ireturn, 1), (69, .aload_n 0, 1), (70, .getfield 58, 3), (73, .iload_n 1, 1), (74, .invokevirtual 241, 3), (77, .ireturn, 1), (78, .aload_n 0, 1), (79, .getfield 58, 3), (82, .iload_n 1, 1), (83, .invokevirtual 244, 3), (86, .ireturn, 1), (87, .aload_n 0, 1), (88, .getfield 58, 3), (91, .iload_n 1, 1), (92, .invokevirtual 247, 3), (95, .ireturn, 1), (96, .aload_n 0, 1), (97, .getfield 58, 3), (100, .iload_n 1, 1), (101, .invokevirtual 250, 3), (104, .ireturn, 1), (105, .ldc 90, 2), (107, .ireturn, 1)] = true := by decide +kernel
theorem dd_X9_least : dchk cX9_least [(0, .aload_n 0, 1), (1, .getfield 26, 3), (4, .invokevirtual 219, 3), (7, .ifCond .ne 6, 3), (10, .ldc 158, 2), (12, .ireturn, 1), (13, .aload_n 0, 1), (14, .getfield 26, 3), (17, .iload_n 1, 1), (18, .invokevirtual 253, 3), (21, .ifCond .eq 19, 3), (24, .aload_n 0, 1), (25, .getfield 26, 3), (28, .iload_n 2, 1), (29, .invokevirtual 253, 3), (32, .ifCond .eq 8, 3), (35, .iload_n 3, 1), (36, .iconst (-1), 1), (37, .if_icmp .ge 6, 3), (40, .ldc 90, 2), (42, .ireturn, 1), (43, .aload_n 0, 1), (44, .getfield 58, 3), (47, .bipush 12, 2), (49, .invokevirtual 256, 3), (52, .aload_n 0, 1), (53, .getfield 58, 3), (56, .aload_n 0, 1), (57, .getfield 58, 3), (60, .iload_n 1, 1), (61, .iload_n 2, 1), (62, .invokevirtual 260, 3), (65, .iload_n 3, 1), (66, .invokevirtual 263, 3), (69, .ireturn, 1)] = true := by decide +kernel
theorem dd_X9_save : dchk cX9_save [(0, .aload_n 0, 1), (1, .getfield 26, 3), (4, .iload_n 1, 1), (5, .invokevirtual 182, 3), (8, .ifCond .eq 8, 3), (11, .iload_n 2, 1), (12, .iconst (-1), 1), (13, .if_icmp .ge 6, 3), (16, .ldc 90, 2), (18, .ireturn, 1), (19, .aload_n 0, 1), (20, .getfield 58, 3), (23, .bipush 12, 2), (25, .invokevirtual 256, 3), (28, .aload_n 0, 1), (29, .getfield 58, 3), (32, .aload_n 0, 1), (33, .getfield 58, 3), (36, .iload_n 1, 1), (37, .invokevirtual 266, 3), (40, .iload_n 2, 1), (41, .invokevirtual 263, 3), (44, .ireturn, 1)] = true := by decide +kernel
theorem dd_X9_can : dchk cX9_can [(0, .aload_n 0, 1), (1, .getfield 26, 3), (4, .iload_n 1, 1), (5, .invokevirtual 182, 3), (8, .ifCond .eq 10, 3), (11, .iload_n 2, 1), (12, .invokestatic 235, 3), (15, .ifCond .ne 6, 3), (18, .ldc 90, 2), (20, .ireturn, 1), (21, .aload_n 0, 1), (22, .getfield 58, 3), (25, .iload_n 2, 1), (26, .invokevirtual 256, 3), (29, .aload_n 0, 1), (30, .getfield 58, 3), (33, .iload_n 1, 1), (34, .invokevirtual 269, 3), (37, .ireturn, 1)] = true := by decide +kernel
theorem dd_X9_order : dchk cX9_order [(0, .aload_n 0, 1), (1, .getfield 26, 3), (4, .invokevirtual 219, 3), (7, .ifCond .ne 6, 3), (10, .ldc 158, 2), (12, .ireturn, 1), (13, .iload_n 1, 1), (14, .bipush (-2), 2), (16, .if_icmp .ge 6, 3), (19, .ldc 90, 2), (21, .ireturn, 1), (22, .aload_n 0, 1), (23, .getfield 65, 3), (26, .invokevirtual 272, 3), (29, .iload_n 1, 1), (30, .bipush (-2), 2), (32, .if_icmp .ne 11, 3), (35, .aload_n 0, 1), (36, .getfield 65, 3), (39, .getfield 275, 3), (42, .ireturn, 1), (43, .iload_n 1, 1), (44, .iconst (-1), 1), (45, .if_icmp .ne 11, 3), (48, .aload_n 0, 1), (49, .getfield 65, 3), (52, .getfield 278, 3), (55, .ireturn, 1), (56, .iload_n 1, 1), (57, .aload_n 0, 1), (58, .getfield 65, 3), (61, .getfield 281, 3), (64, .if_icmp .ge 15, 3), (67, .aload_n 0, 1), (68, .getfield 65, 3), (71, .getfield 282, 3), (74, .iload_n 1, 1), (75, .iaload, 1), (76, .goto 6, 3), (79, .ldc_w 285, 3), (82, .ireturn, 1)] = true := by decide +kernel
theorem dd_X9_first : dchk cX9_first [(0, .aload_n 0, 1), (1, .getfield 26, 3), (4, .invokevirtual 219, 3), (7, .ifCond .ne 6, 3), (10, .ldc 158, 2), (12, .ireturn, 1), (13, .aload_n 0, 1), (14, .getfield 65, 3), (17, .invokevirtual 272, 3), (20, .aload_n 0, 1), (21, .getfield 65, 3), (24, .invokevirtual 286, 3), (27, .ireturn, 1)] = true := by decide +kernel
theorem dd_X9_clashes : dchk cX9_clashes [(0, .aload_n 0, 1), (1, .getfield 26, 3), (4, .invokevirtual 219, 3), (7, .ifCond .ne 6, 3), (10, .ldc 158, 2), (12, .ireturn, 1), (13, .iload_n 1, 1), (14, .invokestatic 290, 3), (17, .ifCond .ne 6, 3), (20, .ldc 90, 2), (22, .ireturn, 1), (23, .aload_n 0, 1), (24, .getfield 26, 3), (27, .iconst 0, 1), (28, .iload_n 1, 1), (29, .invokevirtual 293, 3), (32, .ireturn, 1)] = true := by decide +kernel
theorem dd_X9_deaf : dchk cX9_deaf [(0, .aload_n 0, 1), (1, .getfield 26, 3), (4, .invokevirtual 219, 3), (7, .ifCond .eq 13, 3), (10, .aload_n 0, 1), (11, .getfield 26, 3), (14, .invokevirtual 297, 3), (17, .goto 5, 3), (20, .ldc 158, 2), (22, .ireturn, 1)] = true := by decide +kernel
theorem dd_X9_same : dchk cX9_same [(0, .aload_n 0, 1), (1, .getfield 26, 3), (4, .invokevirtual 219, 3), (7, .ifCond .ne 6, 3), (10, .ldc 158, 2), (12, .ireturn, 1), (13, .iload_n 1, 1), (14, .invokestatic 290, 3), (17, .ifCond .ne 6, 3), (20, .ldc 90, 2), (22, .ireturn, 1), (23, .aload_n 0, 1), (24, .getfield 26, 3), (27, .iconst 1, 1), (28, .iload_n 1, 1), (29, .invokevirtual 293, 3), (32, .ireturn, 1)] = true := by decide +kernel
theorem dd_X9_who : dchk cX9_who [(0, .aload_n 0, 1), (1, .getfield 26, 3), (4, .iload_n 1, 1), (5, .invokevirtual 163, 3), (8, .ifCond .eq 12, 3), (11, .iload_n 2, 1), (12, .ifCond .lt 8, 3), (15, .iload_n 2, 1), (16, .iconst 2, 1), (17, .if_icmp .le 6, 3), (20, .ldc 90, 2), (22, .ireturn, 1), (23, .aload_n 0, 1), (24, .getfield 10, 3), (27, .iload_n 3, 1), (28, .invokevirtual 83, 3), (31, .ifCond .eq 23, 3), (34, .aload_n 0, 1), (35, .getfield 10, 3), (38, .iload 5, 2), (40, .invokevirtual 83, 3), (43, .ifCond .eq 11, 3), (46, .iload 7, 2), (48, .invokestatic 225, 3), (51, .ifCond .ne 6, 3), (54, .ldc 90, 2), (56, .ireturn, 1), (57, .aload_n 0, 1), (58, .iload_n 3, 1), (59, .iload 4, 2), (61, .iload 5, 2), (63, .iload 6, 2), (65, .iload 7, 2), (67, .invokevirtual 300, 3), (70, .istore 8, 2), (72, .iload 8, 2), (74, .ifCond .eq 10, 3), (77, .aload_n 0, 1), (78, .iload 8, 2), (80, .invokevirtual 91, 3), (83, .ireturn, 1), (84, .iload_n 2, 1), (85, .lookupswitch 53 #[(0, 27), (1, 40)], 27), (112, .aload_n 0, 1), (113, .aload_n 0, 1), (114, .getfield 72, 3), (117, .iload_n 1, 1), (118, .invokevirtual 304, 3), (121, .invokevirtual 99, 3), (124, .ireturn, 1), (125, .aload_n 0, 1), (126, .aload_n 0, 1), (127, .getfield 72, 3), (130, .iload_n 1, 1), (131, .invokevirtual 307, 3), (134, .invokevirtual 99, 3), (137, .ireturn, 1), (138, .aload_n 0, 1), (139, .aload_n 0, 1), (140, .getfield 72, 3), (143, .iload_n 1, 1), (144, .invokevirtual 310, 3), (147, .invokevirtual 99, 3), (150, .ireturn, 1)] = true := by decide +kernel
theorem dd_X9_began : dchk cX9_began [(0, .aload_n 0, 1), (1, .getfield 26, 3), (4, .invokevirtual 219, 3), (7, .ifCond .ne 6, 3), (10, .ldc 158, 2), (12, .ireturn, 1), (13, .iload_n 1, 1), (14, .invokestatic 290, 3), (17, .ifCond .eq 34, 3), (20, .aload_n 0, 1), (21, .getfield 10, 3), (24, .iload_n 2, 1), (25, .invokevirtual 83, 3), (28, .ifCond .eq 23, 3), (31, .aload_n 0, 1), (32, .getfield 10, 3), (35, .iload 4, 2), (37, .invokevirtual 83, 3), (40, .ifCond .eq 11, 3), (43, .iload 6, 2), (45, .invokestatic 225, 3), (48, .ifCond .ne 6, 3), (51, .ldc 90, 2), (53, .ireturn, 1), (54, .aload_n 0, 1), (55, .iload_n 2, 1), (56, .iload_n 3, 1), (57, .iload 4, 2), (59, .iload 5, 2), (61, .iload 6, 2), (63, .invokevirtual 300, 3), (66, .istore 7, 2), (68, .iload 7, 2), (70, .ifCond .eq 10, 3), (73, .aload_n 0, 1), (74, .iload 7, 2), (76, .invokevirtual 91, 3), (79, .ireturn, 1), (80, .aload_n 0, 1), (81, .iload_n 1, 1), (82, .ifCond .ne 13, 3), (85, .aload_n 0, 1), (86, .getfield 72, 3), (89, .invokevirtual 313, 3), (92, .goto 10, 3), (95, .aload_n 0, 1), (96, .getfield 72, 3), (99, .invokevirtual 316, 3), (102, .invokevirtual 99, 3), (105, .ireturn, 1)] = true := by decide +kernel
theorem dd_X9_snored : dchk cX9_snored [(0, .aload_n 0, 1), (1, .getfield 26, 3), (4, .invokevirtual 219, 3), (7, .ifCond .ne 6, 3), (10, .ldc 158, 2), (12, .ireturn, 1), (13, .aload_n 0, 1), (14, .getfield 26, 3), (17, .iload_n 1, 1), (18, .invokevirtual 253, 3), (21, .ifCond .eq 22, 3), (24, .aload_n 0, 1), (25, .getfield 10, 3), (28, .iload_n 2, 1), (29, .invokevirtual 83, 3), (32, .ifCond .eq 11, 3), (35, .iload 4, 2), (37, .invokestatic 225, 3), (40, .ifCond .ne 6, 3), (43, .ldc 90, 2), (45, .ireturn, 1), (46, .aload_n 0, 1), (47, .getfield 72, 3), (50, .aload_n 0, 1), (51, .getfield 10, 3), (54, .iload_n 2, 1), (55, .iload_n 3, 1), (56, .iload 4, 2), (58, .invokevirtual 228, 3), (61, .istore 5, 2), (63, .iload 5, 2), (65, .ifCond .eq 12, 3), (68, .aload_n 0, 1), (69, .iload 5, 2), (71, .invokevirtual 91, 3), (74, .goto 15, 3), (77, .aload_n 0, 1), (78, .aload_n 0, 1), (79, .getfield 72, 3), (82, .iload_n 1, 1), (83, .invokevirtual 319, 3), (86, .invokevirtual 99, 3), (89, .ireturn, 1)] = true := by decide +kernel
theorem dd_X9_gone : dchk cX9_gone [(0, .aload_n 0, 1), (1, .getfield 26, 3), (4, .iload_n 1, 1), (5, .invokevirtual 182, 3), (8, .ifCond .eq 20, 3), (11, .iload_n 2, 1), (12, .ifCond .lt 16, 3), (15, .iload_n 2, 1), (16, .bipush 10, 2), (18, .if_icmp .gt 10, 3), (21, .iload_n 3, 1), (22, .invokestatic 290, 3), (25, .ifCond .ne 7, 3), (28, .ldc2_w 322, 3), (31, .lreturn, 1), (32, .bipush 10, 2), (34, .aload_n 0, 1), (35, .getfield 26, 3), (38, .getfield 175, 3), (41, .invokestatic 324, 3), (44, .invokestatic 329, 3), (47, .lstore 4, 2), (49, .aload_n 0, 1), (50, .getfield 26, 3), (53, .iload_n 1, 1), (54, .iload_n 2, 1), (55, .invokevirtual 333, 3), (58, .lstore 6, 2), (60, .lload 6, 2), (62, .lload 4, 2), (64, .invokestatic 336, 3), (67, .lstore 8, 2), (69, .lload 8, 2), (71, .lconst 0, 1), (72, .lcmp, 1), (73, .ifCond .gt 7, 3), (76, .ldc2_w 322, 3), (79, .lreturn, 1), (80, .iload_n 3, 1), (81, .ifCond .ne 11, 3), (84, .lload 6, 2), (86, .lload 8, 2), (88, .ldiv, 1), (89, .goto 8, 3), (92, .lload 4, 2), (94, .lload 8, 2), (96, .ldiv, 1), (97, .lreturn, 1)] = true := by decide +kernel
theorem dd_X9_drawn : dchk cX9_drawn [(0, .aload_n 0, 1), (1, .getfield 26, 3), (4, .invokevirtual 219, 3), (7, .ifCond .ne 6, 3), (10, .ldc 158, 2), (12, .ireturn, 1), (13, .iload_n 1, 1), (14, .ifCond .lt 28, 3), (17, .iload_n 1, 1), (18, .bipush 60, 2), (20, .if_icmp .gt 22, 3), (23, .iload_n 2, 1), (24, .iconst 1, 1), (25, .if_icmp .lt 17, 3), (28, .iload_n 2, 1), (29, .ldc_w 340, 3), (32, .if_icmp .gt 10, 3), (35, .iload_n 3, 1), (36, .invokestatic 290, 3), (39, .ifCond .ne 6, 3), (42, .ldc 90, 2), (44, .ireturn, 1), (45, .aload_n 0, 1), (46, .getfield 30, 3), (49, .aload_n 0, 1), (50, .getfield 26, 3), (53, .invokevirtual 148, 3), (56, .aload_n 0, 1), (57, .getfield 30, 3), (60, .iload_n 1, 1), (61, .iload_n 2, 1), (62, .invokevirtual 341, 3), (65, .iload_n 3, 1), (66, .ifCond .ne 17, 3), (69, .aload_n 0, 1), (70, .getfield 30, 3), (73, .iconst 1, 1), (74, .invokevirtual 222, 3), (77, .invokestatic 324, 3), (80, .goto 10, 3), (83, .aload_n 0, 1), (84, .getfield 30, 3), (87, .getfield 175, 3), (90, .ireturn, 1)] = true := by decide +kernel
theorem dd_X9_image : dchk cX9_image [(0, .iload_n 1, 1), (1, .invokestatic 345, 3), (4, .ifCond .ne 6, 3), (7, .ldc 90, 2), (9, .ireturn, 1), (10, .aload_n 0, 1), (11, .getfield 26, 3), (14, .invokevirtual 219, 3), (17, .ifCond .ne 6, 3), (20, .ldc 158, 2), (22, .ireturn, 1), (23, .aload_n 0, 1), (24, .getfield 49, 3), (27, .iload_n 1, 1), (28, .aaload, 1), (29, .aload_n 0, 1), (30, .getfield 26, 3), (33, .invokevirtual 148, 3), (36, .iconst 1, 1), (37, .ireturn, 1)] = true := by decide +kernel
theorem dd_X9_restore : dchk cX9_restore [(0, .iload_n 1, 1), (1, .invokestatic 345, 3), (4, .ifCond .ne 6, 3), (7, .ldc 90, 2), (9, .ireturn, 1), (10, .aload_n 0, 1), (11, .getfield 49, 3), (14, .iload_n 1, 1), (15, .aaload, 1), (16, .invokevirtual 219, 3), (19, .ifCond .ne 6, 3), (22, .ldc 158, 2), (24, .ireturn, 1), (25, .aload_n 0, 1), (26, .getfield 26, 3), (29, .aload_n 0, 1), (30, .getfield 49, 3), (33, .iload_n 1, 1), (34, .aaload, 1), (35, .invokevirtual 148, 3), (38, .aload_n 0, 1), (39, .getfield 45, 3), (42, .invokevirtual 151, 3), (45, .iconst 1, 1), (46, .ireturn, 1)] = true := by decide +kernel
theorem dd_X9_kind : dchk cX9_kind [(0, .aload_n 0, 1), (1, .getfield 26, 3), (4, .iload_n 1, 1), (5, .invokevirtual 163, 3), (8, .ifCond .eq 15, 3), (11, .aload_n 0, 1), (12, .getfield 26, 3), (15, .getfield 348, 3), (18, .iload_n 1, 1), (19, .iaload, 1), (20, .goto 5, 3), (23, .ldc 90, 2), (25, .ireturn, 1)] = true := by decide +kernel
theorem dd_X9_as : dchk cX9_as [(0, .aload_n 0, 1), (1, .getfield 26, 3), (4, .iload_n 1, 1), (5, .invokevirtual 163, 3), (8, .ifCond .eq 12, 3), (11, .iload_n 2, 1), (12, .ifCond .lt 8, 3), (15, .iload_n 2, 1), (16, .iconst 5, 1), (17, .if_icmp .le 6, 3), (20, .ldc 90, 2), (22, .ireturn, 1), (23, .aload_n 0, 1), (24, .getfield 26, 3), (27, .getfield 348, 3), (30, .iload_n 1, 1), (31, .iaload, 1), (32, .iload_n 2, 1), (33, .invokestatic 351, 3), (36, .ifCond .eq 11, 3), (39, .aload_n 0, 1), (40, .iload_n 1, 1), (41, .invokevirtual 99, 3), (44, .goto 8, 3), (47, .aload_n 0, 1), (48, .iconst 3, 1), (49, .invokevirtual 91, 3), (52, .ireturn, 1)] = true := by decide +kernel
theorem dd_X9_ask : dchk cX9_ask [(0, .aload_n 0, 1), (1, .getfield 26, 3), (4, .iload_n 1, 1), (5, .invokevirtual 163, 3), (8, .ifCond .eq 10, 3), (11, .iload_n 2, 1), (12, .invokestatic 290, 3), (15, .ifCond .ne 6, 3), (18, .ldc 90, 2), (20, .ireturn, 1), (21, .aload_n 0, 1), (22, .getfield 79, 3), (25, .iload_n 1, 1), (26, .iload_n 2, 1), (27, .invokevirtual 354, 3), (30, .ireturn, 1)] = true := by decide +kernel
theorem dd_X9_trace : dchk cX9_trace [(0, .iload_n 1, 1), (1, .ifCond .lt 26, 3), (4, .iload_n 1, 1), (5, .aload_n 0, 1), (6, .getfield 79, 3), (9, .getfield 357, 3), (12, .if_icmp .ge 15, 3), (15, .aload_n 0, 1), (16, .getfield 79, 3), (19, .getfield 358, 3), (22, .iload_n 1, 1), (23, .iaload, 1), (24, .goto 6, 3), (27, .ldc_w 285, 3), (30, .ireturn, 1)] = true := by decide +kernel
theorem dd_X9_count : dchk cX9_count [(0, .iload_n 1, 1), (1, .tableswitch 111 0 7 #[47, 55, 63, 71, 79, 87, 95, 103], 47), (48, .aload_n 0, 1), (49, .getfield 10, 3), (52, .invokevirtual 361, 3), (55, .ireturn, 1), (56, .aload_n 0, 1), (57, .getfield 26, 3), (60, .getfield 364, 3), (63, .ireturn, 1), (64, .aload_n 0, 1), (65, .getfield 26, 3), (68, .getfield 152, 3), (71, .ireturn, 1), (72, .aload_n 0, 1), (73, .getfield 26, 3), (76, .getfield 367, 3), (79, .ireturn, 1), (80, .aload_n 0, 1), (81, .getfield 26, 3), (84, .getfield 195, 3), (87, .ireturn, 1), (88, .aload_n 0, 1), (89, .getfield 26, 3), (92, .getfield 175, 3), (95, .ireturn, 1), (96, .aload_n 0, 1), (97, .getfield 45, 3), (100, .getfield 155, 3), (103, .ireturn, 1), (104, .aload_n 0, 1), (105, .getfield 19, 3), (108, .getfield 370, 3), (111, .ireturn, 1), (112, .ldc 90, 2), (114, .ireturn, 1)] = true := by decide +kernel
theorem dd_X9_status : dchk cX9_status [(0, .aload_n 0, 1), (1, .getfield 371, 3), (4, .ireturn, 1)] = true := by decide +kernel
theorem dd_X9_found : dchk cX9_found [(0, .aload_n 0, 1), (1, .iload_n 1, 1), (2, .putfield 371, 3), (5, .ldc_w 374, 3), (8, .iload_n 1, 1), (9, .isub, 1), (10, .ireturn, 1)] = true := by decide +kernel
theorem dd_X9_fine : dchk cX9_fine [(0, .aload_n 0, 1), (1, .iconst 0, 1), (2, .putfield 371, 3), (5, .iload_n 1, 1), (6, .ireturn, 1)] = true := by decide +kernel
theorem dd_X9_takeBoth : dchk cX9_takeBoth [(0, .aload_n 0, 1), (1, .getfield 72, 3), (4, .aload_n 0, 1), (5, .getfield 10, 3), (8, .iload_n 1, 1), (9, .iload_n 2, 1), (10, .iload 5, 2), (12, .invokevirtual 228, 3), (15, .istore 6, 2), (17, .iload 6, 2), (19, .ifCond .eq 8, 3), (22, .iload 6, 2), (24, .goto 19, 3), (27, .aload_n 0, 1), (28, .getfield 72, 3), (31, .aload_n 0, 1), (32, .getfield 10, 3), (35, .iload_n 3, 1), (36, .iload 4, 2), (38, .iload 5, 2), (40, .invokevirtual 375, 3), (43, .ireturn, 1)] = true := by decide +kernel
theorem dd_X9_isToldLength : dchk cX9_isToldLength [(0, .iload_n 0, 1), (1, .iconst 1, 1), (2, .if_icmp .lt 13, 3), (5, .iload_n 0, 1), (6, .bipush 12, 2), (8, .if_icmp .gt 7, 3), (11, .iconst 1, 1), (12, .goto 4, 3), (15, .iconst 0, 1), (16, .ireturn, 1)] = true := by decide +kernel
theorem dd_X9_isBehind : dchk cX9_isBehind [(0, .iload_n 0, 1), (1, .ifCond .lt 13, 3), (4, .iload_n 0, 1), (5, .bipush 8, 2), (7, .if_icmp .gt 7, 3), (10, .iconst 1, 1), (11, .goto 4, 3), (14, .iconst 0, 1), (15, .ireturn, 1)] = true := by decide +kernel
theorem dd_X9_isOneOfTwo : dchk cX9_isOneOfTwo [(0, .iload_n 0, 1), (1, .ifCond .eq 8, 3), (4, .iload_n 0, 1), (5, .iconst 1, 1), (6, .if_icmp .ne 7, 3), (9, .iconst 1, 1), (10, .goto 4, 3), (13, .iconst 0, 1), (14, .ireturn, 1)] = true := by decide +kernel
theorem dd_X9_isImage : dchk cX9_isImage [(0, .iload_n 0, 1), (1, .ifCond .lt 12, 3), (4, .iload_n 0, 1), (5, .iconst 2, 1), (6, .if_icmp .ge 7, 3), (9, .iconst 1, 1), (10, .goto 4, 3), (13, .iconst 0, 1), (14, .ireturn, 1)] = true := by decide +kernel
theorem dd_X9_isAlso : dchk cX9_isAlso [(0, .iload_n 1, 1), (1, .ifCond .eq 16, 3), (4, .iload_n 1, 1), (5, .iload_n 0, 1), (6, .if_icmp .eq 11, 3), (9, .iload_n 1, 1), (10, .iload_n 0, 1), (11, .invokestatic 378, 3), (14, .if_icmp .ne 7, 3), (17, .iconst 1, 1), (18, .goto 4, 3), (21, .iconst 0, 1), (22, .ireturn, 1)] = true := by decide +kernel
theorem dd_X9_kindAbove : dchk cX9_kindAbove [(0, .iload_n 0, 1), (1, .tableswitch 37 2 5 #[31, 33, 37, 35], 31), (32, .iconst 1, 1), (33, .ireturn, 1), (34, .iconst 1, 1), (35, .ireturn, 1), (36, .iconst 4, 1), (37, .ireturn, 1), (38, .iconst 0, 1), (39, .ireturn, 1)] = true := by decide +kernel
theorem dd_X9_power : dchk cX9_power [(0, .lconst 1, 1), (1, .lstore_n 2, 1), (2, .iconst 0, 1), (3, .istore 4, 2), (5, .iload 4, 2), (7, .iload_n 1, 1), (8, .if_icmp .ge 14, 3), (11, .lload_n 2, 1), (12, .iload_n 0, 1), (13, .i2l, 1), (14, .lmul, 1), (15, .lstore_n 2, 1), (16, .iinc 4 1, 3), (19, .goto (-14), 3), (22, .lload_n 2, 1), (23, .lreturn, 1)] = true := by decide +kernel
theorem dd_X9_commonDivisor : dchk cX9_commonDivisor [(0, .lload_n 0, 1), (1, .lstore 4, 2), (3, .lload_n 2, 1), (4, .lstore 6, 2), (6, .iconst 0, 1), (7, .istore 8, 2), (9, .iload 8, 2), (11, .sipush 128, 3), (14, .if_icmp .ge 31, 3), (17, .lload 6, 2), (19, .lconst 0, 1), (20, .lcmp, 1), (21, .ifCond .eq 24, 3), (24, .lload 4, 2), (26, .lload 6, 2), (28, .lrem, 1), (29, .lstore 9, 2), (31, .lload 6, 2), (33, .lstore 4, 2), (35, .lload 9, 2), (37, .lstore 6, 2), (39, .iinc 8 1, 3), (42, .goto (-33), 3), (45, .lload 4, 2), (47, .lreturn, 1)] = true := by decide +kernel
theorem dd_X10_init : dchk cX10_init [(0, .aload_n 0, 1), (1, .invokespecial 1, 3), (4, .aload_n 0, 1), (5, .bipush 8, 2), (7, .newarray .int, 2), (9, .dup, 1), (10, .iconst 0, 1), (11, .iconst (-1), 1), (12, .iastore, 1), (13, .dup, 1), (14, .iconst 1, 1), (15, .iconst (-1), 1), (16, .iastore, 1), (17, .dup, 1), (18, .iconst 2, 1), (19, .iconst (-1), 1), (20, .iastore, 1), (21, .dup, 1), (22, .iconst 3, 1), (23, .iconst (-1), 1), (24, .iastore, 1), (25, .dup, 1), (26, .iconst 4, 1), (27, .iconst (-1), 1), (28, .iastore, 1), (29, .dup, 1), (30, .iconst 5, 1), (31, .iconst (-1), 1), (32, .iastore, 1), (33, .dup, 1), (34, .bipush 6, 2), (36, .iconst (-1), 1), (37, .iastore, 1), (38, .dup, 1), (39, .bipush 7, 2), (41, .iconst (-1), 1), (42, .iastore, 1), (43, .putfield 7, 3), (46, .aload_n 0, 1), (47, .bipush 8, 2), (49, .newarray .int, 2), (51, .putfield 13, 3), (54, .aload_n 0, 1), (55, .sipush 320, 3), (58, .newarray .int, 2), (60, .putfield 16, 3), (63, .aload_n 0, 1), (64, .bipush 46, 2), (66, .newarray .int, 2), (68, .putfield 19, 3), (71, .aload_n 0, 1), (72, .bipush 46, 2), (74, .newarray .int, 2), (76, .putfield 22, 3), (79, .aload_n 0, 1), (80, .bipush 46, 2), (82, .newarray .int, 2), (84, .putfield 25, 3), (87, .aload_n 0, 1), (88, .sipush 1104, 3), (91, .newarray .int, 2), (93, .putfield 28, 3), (96, .aload_n 0, 1), (97, .bipush 120, 2), (99, .newarray .int, 2), (101, .putfield 31, 3), (104, .aload_n 0, 1), (105, .sipush 256, 3), (108, .newarray .boolean, 2), (110, .putfield 34, 3), (113, .aload_n 0, 1), (114, .sipush 256, 3), (117, .newarray .boolean, 2), (119, .putfield 38, 3), (122, .aload_n 0, 1), (123, .sipush 256, 3), (126, .newarray .int, 2), (128, .putfield 41, 3), (131, .aload_n 0, 1), (132, .iconst 5, 1), (133, .newarray .int, 2), (135, .putfield 44, 3), (138, .aload_n 0, 1), (139, .iconst 5, 1), (140, .newarray .int, 2), (142, .putfield 47, 3), (145, .aload_n 0, 1), (146, .iconst 5, 1), (147, .newarray .int, 2), (149, .putfield 50, 3), (152, .aload_n 0, 1), (153, .iconst 2, 1), (154, .newarray .boolean, 2), (156, .putfield 53, 3), (159, .aload_n 0, 1), (160, .bipush 92, 2), (162, .newarray .int, 2), (164, .putfield 56, 3), (167, .aload_n 0, 1), (168, .bipush 16, 2), (170, .newarray .int, 2), (172, .putfield 59, 3), (175, .return_, 1)] = true := by decide +kernel
theorem dd_X10_in : dchk cX10_in [(0, .lload_n 0, 1), (1, .lload_n 2, 1), (2, .lcmp, 1), (3, .ifCond .lt 14, 3), (6, .lload_n 0, 1), (7, .lload 4, 2), (9, .lcmp, 1), (10, .ifCond .gt 7, 3), (13, .iconst 1, 1), (14, .goto 4, 3), (17, .iconst 0, 1), (18, .ireturn, 1)] = true := by decide +kernel
theorem dd_X10_finding : dchk cX10_finding [(0, .aload_n 0, 1), (1, .iload_n 1, 1), (2, .putfield 66, 3), (5, .ldc 69, 2), (7, .iload_n 1, 1), (8, .isub, 1), (9, .ireturn, 1)] = true := by decide +kernel
theorem dd_X10_isRow : dchk cX10_isRow [(0, .iload_n 0, 1), (1, .i2l, 1), (2, .lconst 0, 1), (3, .ldc2_w 70, 3), (6, .invokestatic 72, 3), (9, .ireturn, 1)] = true := by decide +kernel
theorem dd_X10_row : dchk cX10_row [(0, .aload_n 0, 1), (1, .iconst 0, 1), (2, .putfield 62, 3), (5, .iload_n 1, 1), (6, .invokestatic 76, 3), (9, .ifCond .eq 21, 3), (12, .iload_n 2, 1), (13, .i2l, 1), (14, .lconst 0, 1), (15, .ldc2_w 80, 3), (18, .invokestatic 72, 3), (21, .ifCond .eq 9, 3), (24, .iload_n 3, 1), (25, .bipush 40, 2), (27, .if_icmp .le 6, 3), (30, .ldc 82, 2), (32, .ireturn, 1), (33, .aload_n 0, 1), (34, .iconst 0, 1), (35, .putfield 66, 3), (38, .iload_n 3, 1), (39, .ifCond .ge 9, 3), (42, .aload_n 0, 1), (43, .iconst 4, 1), (44, .invokevirtual 83, 3), (47, .ireturn, 1), (48, .aload_n 0, 1), (49, .getfield 7, 3), (52, .iload_n 1, 1), (53, .iload_n 2, 1), (54, .iastore, 1), (55, .aload_n 0, 1), (56, .getfield 13, 3), (59, .iload_n 1, 1), (60, .iload_n 3, 1), (61, .iastore, 1), (62, .iconst 0, 1), (63, .istore 4, 2), (65, .iload 4, 2), (67, .bipush 40, 2), (69, .if_icmp .ge 22, 3), (72, .aload_n 0, 1), (73, .getfield 16, 3), (76, .bipush 40, 2), (78, .iload_n 1, 1), (79, .imul, 1), (80, .iload 4, 2), (82, .iadd, 1), (83, .iconst 0, 1), (84, .iastore, 1), (85, .iinc 4 1, 3), (88, .goto (-23), 3), (91, .iload_n 3, 1), (92, .ireturn, 1)] = true := by decide +kernel
theorem dd_X10_set : dchk cX10_set [(0, .aload_n 0, 1), (1, .iconst 0, 1), (2, .putfield 62, 3), (5, .iload_n 1, 1), (6, .invokestatic 76, 3), (9, .ifCond .ne 6, 3), (12, .ldc 82, 2), (14, .ireturn, 1), (15, .aload_n 0, 1), (16, .iconst 0, 1), (17, .putfield 66, 3), (20, .aload_n 0, 1), (21, .getfield 7, 3), (24, .iload_n 1, 1), (25, .iaload, 1), (26, .ifCond .ge 9, 3), (29, .aload_n 0, 1), (30, .iconst 1, 1), (31, .invokevirtual 83, 3), (34, .ireturn, 1), (35, .iload_n 2, 1), (36, .i2l, 1), (37, .lconst 0, 1), (38, .aload_n 0, 1), (39, .getfield 13, 3), (42, .iload_n 1, 1), (43, .iaload, 1), (44, .iconst 1, 1), (45, .isub, 1), (46, .i2l, 1), (47, .invokestatic 72, 3), (50, .ifCond .ne 9, 3), (53, .aload_n 0, 1), (54, .iconst 2, 1), (55, .invokevirtual 83, 3), (58, .ireturn, 1), (59, .aload_n 0, 1), (60, .getfield 16, 3), (63, .bipush 40, 2), (65, .iload_n 1, 1), (66, .imul, 1), (67, .iload_n 2, 1), (68, .iadd, 1), (69, .aload_n 0, 1), (70, .getfield 7, 3), (73, .iload_n 1, 1), (74, .iaload, 1), (75, .ifCond .ne 8, 3), (78, .iload_n 3, 1), (79, .i2b, 1), (80, .goto 19, 3), (83, .aload_n 0, 1), (84, .getfield 7, 3), (87, .iload_n 1, 1), (88, .iaload, 1), (89, .iconst 1, 1), (90, .if_icmp .ne 8, 3), (93, .iload_n 3, 1), (94, .i2s, 1), (95, .goto 4, 3), (98, .iload_n 3, 1), (99, .iastore, 1), (100, .aload_n 0, 1), (101, .getfield 16, 3), (104, .bipush 40, 2), (106, .iload_n 1, 1), (107, .imul, 1), (108, .iload_n 2, 1), (109, .iadd, 1), (110, .iaload, 1), (111, .ireturn, 1)] = true := by decide +kernel
theorem dd_X10_copy : dchk cX10_copy [(0, .aload_n 0, 1), (1, .iconst 0, 1), (2, .putfield 62, 3), (5, .iload_n 1, 1), (6, .invokestatic 76, 3), (9, .ifCond .eq 10, 3), (12, .iload_n 3, 1), (13, .invokestatic 76, 3), (16, .ifCond .ne 6, 3), (19, .ldc 82, 2), (21, .ireturn, 1), (22, .aload_n 0, 1), (23, .iconst 0, 1), (24, .putfield 66, 3), (27, .aload_n 0, 1), (28, .getfield 7, 3), (31, .iload_n 1, 1), (32, .iaload, 1), (33, .ifCond .lt 12, 3), (36, .aload_n 0, 1), (37, .getfield 7, 3), (40, .iload_n 3, 1), (41, .iaload, 1), (42, .ifCond .ge 9, 3), (45, .aload_n 0, 1), (46, .iconst 1, 1), (47, .invokevirtual 83, 3), (50, .ireturn, 1), (51, .aload_n 0, 1), (52, .getfield 7, 3), (55, .iload_n 1, 1), (56, .iaload, 1), (57, .aload_n 0, 1), (58, .getfield 7, 3), (61, .iload_n 3, 1), (62, .iaload, 1), (63, .if_icmp .eq 9, 3), (66, .aload_n 0, 1), (67, .iconst 5, 1), (68, .invokevirtual 83, 3), (71, .ireturn, 1), (72, .iload_n 2, 1), (73, .ifCond .lt 48, 3), (76, .iload 4, 2), (78, .ifCond .lt 43, 3), (81, .iload 5, 2), (83, .ifCond .lt 38, 3), (86, .iload_n 2, 1), (87, .i2l, 1), (88, .iload 5, 2), (90, .i2l, 1), (91, .ladd, 1), (92, .aload_n 0, 1), (93, .getfield 13, 3), (96, .iload_n 1, 1), (97, .iaload, 1), (98, .i2l, 1), (99, .lcmp, 1), (100, .ifCond .gt 21, 3), (103, .iload 4, 2), (105, .i2l, 1), (106, .iload 5, 2), (108, .i2l, 1), (109, .ladd, 1), (110, .aload_n 0, 1), (111, .getfield 13, 3), (114, .iload_n 3, 1), (115, .iaload, 1), (116, .i2l, 1), (117, .lcmp, 1), (118, .ifCond .le 9, 3), (121, .aload_n 0, 1), (122, .iconst 2, 1), (123, .invokevirtual 83, 3), (126, .ireturn, 1), (127, .iload_n 2, 1), (128, .iload 4, 2), (130, .if_icmp .lt 7, 3), (133, .iconst 1, 1), (134, .goto 4, 3), (137, .iconst 0, 1), (138, .istore 6, 2), (140, .iconst 0, 1), (141, .istore 7, 2), (143, .iload 7, 2), (145, .iload 5, 2), (147, .if_icmp .ge 57, 3), (150, .iload 6, 2), (152, .ifCond .eq 8, 3), (155, .iload 7, 2), (157, .goto 10, 3), (160, .iload 5, 2), (162, .iconst 1, 1), (163, .isub, 1), (164, .iload 7, 2), (166, .isub, 1), (167, .istore 8, 2), (169, .aload_n 0, 1), (170, .getfield 16, 3), (173, .bipush 40, 2), (175, .iload_n 3, 1), (176, .imul, 1), (177, .iload 4, 2), (179, .iadd, 1), (180, .iload 8, 2), (182, .iadd, 1), (183, .aload_n 0, 1), (184, .getfield 16, 3), (187, .bipush 40, 2), (189, .iload_n 1, 1), (190, .imul, 1), (191, .iload_n 2, 1), (192, .iadd, 1), (193, .iload 8, 2), (195, .iadd, 1), (196, .iaload, 1), (197, .iastore, 1), (198, .iinc 7 1, 3), (201, .goto (-58), 3), (204, .iload 5, 2), (206, .ireturn, 1)] = true := by decide +kernel
theorem dd_X10_drop : dchk cX10_drop [(0, .aload_n 0, 1), (1, .iconst 0, 1), (2, .putfield 62, 3), (5, .iload_n 1, 1), (6, .invokestatic 76, 3), (9, .ifCond .ne 6, 3), (12, .ldc 82, 2), (14, .ireturn, 1), (15, .aload_n 0, 1), (16, .iconst 0, 1), (17, .putfield 66, 3), (20, .aload_n 0, 1), (21, .getfield 7, 3), (24, .iload_n 1, 1), (25, .iaload, 1), (26, .ifCond .ge 9, 3), (29, .aload_n 0, 1), (30, .iconst 1, 1), (31, .invokevirtual 83, 3), (34, .ireturn, 1), (35, .aload_n 0, 1), (36, .getfield 7, 3), (39, .iload_n 1, 1), (40, .iconst (-1), 1), (41, .iastore, 1), (42, .aload_n 0, 1), (43, .getfield 13, 3), (46, .iload_n 1, 1), (47, .iaload, 1), (48, .ireturn, 1)] = true := by decide +kernel
theorem dd_X10_feed : dchk cX10_feed [(0, .aload_n 0, 1), (1, .iconst 0, 1), (2, .putfield 62, 3), (5, .iload_n 1, 1), (6, .i2l, 1), (7, .lconst 0, 1), (8, .ldc2_w 87, 3), (11, .invokestatic 72, 3), (14, .ifCond .ne 6, 3), (17, .ldc 82, 2), (19, .ireturn, 1), (20, .aload_n 0, 1), (21, .getfield 89, 3), (24, .bipush 120, 2), (26, .if_icmp .ne 6, 3), (29, .ldc 92, 2), (31, .ireturn, 1), (32, .aload_n 0, 1), (33, .getfield 31, 3), (36, .aload_n 0, 1), (37, .getfield 89, 3), (40, .iload_n 1, 1), (41, .iastore, 1), (42, .aload_n 0, 1), (43, .dup, 1), (44, .getfield 89, 3), (47, .iconst 1, 1), (48, .iadd, 1), (49, .putfield 89, 3), (52, .aload_n 0, 1), (53, .getfield 89, 3), (56, .ireturn, 1)] = true := by decide +kernel
theorem dd_X10_bad : dchk cX10_bad [(0, .aload_n 0, 1), (1, .getfield 93, 3), (4, .ifCond .ne 16, 3), (7, .aload_n 0, 1), (8, .iload_n 1, 1), (9, .putfield 93, 3), (12, .aload_n 0, 1), (13, .aload_n 0, 1), (14, .getfield 96, 3), (17, .putfield 99, 3), (20, .return_, 1)] = true := by decide +kernel
theorem dd_X10_nextToken : dchk cX10_nextToken [(0, .aload_n 0, 1), (1, .aload_n 0, 1), (2, .getfield 102, 3), (5, .putfield 96, 3), (8, .aload_n 0, 1), (9, .aload_n 0, 1), (10, .getfield 102, 3), (13, .aload_n 0, 1), (14, .getfield 89, 3), (17, .if_icmp .ge 15, 3), (20, .aload_n 0, 1), (21, .getfield 31, 3), (24, .aload_n 0, 1), (25, .getfield 102, 3), (28, .iaload, 1), (29, .goto 5, 3), (32, .ldc 105, 2), (34, .putfield 106, 3), (37, .aload_n 0, 1), (38, .aload_n 0, 1), (39, .getfield 102, 3), (42, .aload_n 0, 1), (43, .getfield 89, 3), (46, .if_icmp .ne 7, 3), (49, .iconst 1, 1), (50, .goto 68, 3), (53, .aload_n 0, 1), (54, .getfield 106, 3), (57, .i2l, 1), (58, .ldc2_w 109, 3), (61, .ldc2_w 111, 3), (64, .invokestatic 72, 3), (67, .ifCond .eq 7, 3), (70, .iconst 2, 1), (71, .goto 47, 3), (74, .aload_n 0, 1), (75, .getfield 106, 3), (78, .i2l, 1), (79, .ldc2_w 113, 3), (82, .ldc2_w 115, 3), (85, .invokestatic 72, 3), (88, .ifCond .eq 7, 3), (91, .iconst 3, 1), (92, .goto 26, 3), (95, .aload_n 0, 1), (96, .getfield 106, 3), (99, .bipush 44, 2), (101, .if_icmp .eq 12, 3), (104, .aload_n 0, 1), (105, .getfield 106, 3), (108, .bipush 59, 2), (110, .if_icmp .ne 7, 3), (113, .iconst 4, 1), (114, .goto 4, 3), (117, .iconst 0, 1), (118, .putfield 117, 3), (121, .aload_n 0, 1), (122, .dup, 1), (123, .getfield 102, 3), (126, .aload_n 0, 1), (127, .getfield 102, 3), (130, .aload_n 0, 1), (131, .getfield 89, 3), (134, .if_icmp .ge 7, 3), (137, .iconst 1, 1), (138, .goto 4, 3), (141, .iconst 0, 1), (142, .iadd, 1), (143, .putfield 102, 3), (146, .aload_n 0, 1), (147, .getfield 117, 3), (150, .iconst 3, 1), (151, .if_icmp .ne 126, 3), (154, .aload_n 0, 1), (155, .dup, 1), (156, .getfield 106, 3), (159, .bipush 48, 2), (161, .isub, 1), (162, .putfield 106, 3), (165, .aload_n 0, 1), (166, .getfield 102, 3), (169, .aload_n 0, 1), (170, .getfield 89, 3), (173, .if_icmp .ge 82, 3), (176, .aload_n 0, 1), (177, .getfield 31, 3), (180, .aload_n 0, 1), (181, .getfield 102, 3), (184, .iaload, 1), (185, .i2l, 1), (186, .ldc2_w 113, 3), (189, .ldc2_w 115, 3), (192, .invokestatic 72, 3), (195, .ifCond .eq 60, 3), (198, .aload_n 0, 1), (199, .aload_n 0, 1), (200, .getfield 102, 3), (203, .aload_n 0, 1), (204, .getfield 96, 3), (207, .isub, 1), (208, .iconst 2, 1), (209, .if_icmp .ge 26, 3), (212, .bipush 10, 2), (214, .aload_n 0, 1), (215, .getfield 106, 3), (218, .imul, 1), (219, .aload_n 0, 1), (220, .getfield 31, 3), (223, .aload_n 0, 1), (224, .getfield 102, 3), (227, .iaload, 1), (228, .iadd, 1), (229, .bipush 48, 2), (231, .isub, 1), (232, .goto 7, 3), (235, .aload_n 0, 1), (236, .getfield 106, 3), (239, .putfield 106, 3), (242, .aload_n 0, 1), (243, .dup, 1), (244, .getfield 102, 3), (247, .iconst 1, 1), (248, .iadd, 1), (249, .putfield 102, 3), (252, .goto (-87), 3), (255, .aload_n 0, 1), (256, .aload_n 0, 1), (257, .getfield 102, 3), (260, .aload_n 0, 1), (261, .getfield 96, 3), (264, .isub, 1), (265, .iconst 2, 1), (266, .if_icmp .le 7, 3), (269, .iconst 0, 1), (270, .goto 4, 3), (273, .iconst 3, 1), (274, .putfield 117, 3), (277, .return_, 1)] = true := by decide +kernel
theorem dd_X10_must : dchk cX10_must [(0, .iload_n 1, 1), (1, .ifCond .ne 8, 3), (4, .aload_n 0, 1), (5, .iconst 1, 1), (6, .invokevirtual 120, 3), (9, .aload_n 0, 1), (10, .getfield 93, 3), (13, .ifCond .ne 7, 3), (16, .aload_n 0, 1), (17, .invokevirtual 124, 3), (20, .return_, 1)] = true := by decide +kernel
theorem dd_X10_isLetter : dchk cX10_isLetter [(0, .aload_n 0, 1), (1, .getfield 93, 3), (4, .ifCond .ne 23, 3), (7, .aload_n 0, 1), (8, .getfield 117, 3), (11, .iconst 2, 1), (12, .if_icmp .ne 15, 3), (15, .aload_n 0, 1), (16, .getfield 106, 3), (19, .iload_n 1, 1), (20, .if_icmp .ne 7, 3), (23, .iconst 1, 1), (24, .goto 4, 3), (27, .iconst 0, 1), (28, .ireturn, 1)] = true := by decide +kernel
theorem dd_X10_number : dchk cX10_number [(0, .aload_n 0, 1), (1, .getfield 93, 3), (4, .ifCond .ne 16, 3), (7, .aload_n 0, 1), (8, .getfield 117, 3), (11, .iconst 3, 1), (12, .if_icmp .eq 8, 3), (15, .aload_n 0, 1), (16, .iconst 1, 1), (17, .invokevirtual 120, 3), (20, .aload_n 0, 1), (21, .getfield 93, 3), (24, .ifCond .ne 23, 3), (27, .aload_n 0, 1), (28, .getfield 106, 3), (31, .i2l, 1), (32, .iload_n 1, 1), (33, .i2l, 1), (34, .iload_n 2, 1), (35, .i2l, 1), (36, .invokestatic 72, 3), (39, .ifCond .ne 8, 3), (42, .aload_n 0, 1), (43, .iconst 2, 1), (44, .invokevirtual 120, 3), (47, .aload_n 0, 1), (48, .getfield 93, 3), (51, .ifCond .ne 10, 3), (54, .aload_n 0, 1), (55, .getfield 106, 3), (58, .goto 4, 3), (61, .iload_n 1, 1), (62, .istore_n 3, 1), (63, .aload_n 0, 1), (64, .iconst 1, 1), (65, .invokevirtual 127, 3), (68, .iload_n 3, 1), (69, .ireturn, 1)] = true := by decide +kernel
theorem dd_X10_mustSign : dchk cX10_mustSign [(0, .aload_n 0, 1), (1, .aload_n 0, 1), (2, .getfield 117, 3), (5, .iconst 4, 1), (6, .if_icmp .ne 15, 3), (9, .aload_n 0, 1), (10, .getfield 106, 3), (13, .iload_n 1, 1), (14, .if_icmp .ne 7, 3), (17, .iconst 1, 1), (18, .goto 4, 3), (21, .iconst 0, 1), (22, .invokevirtual 127, 3), (25, .return_, 1)] = true := by decide +kernel
theorem dd_X10_begin : dchk cX10_begin [(0, .aload_n 0, 1), (1, .iconst 0, 1), (2, .putfield 102, 3), (5, .aload_n 0, 1), (6, .iconst 0, 1), (7, .putfield 93, 3), (10, .aload_n 0, 1), (11, .invokevirtual 124, 3), (14, .return_, 1)] = true := by decide +kernel
theorem dd_X10_failed : dchk cX10_failed [(0, .aload_n 0, 1), (1, .getfield 93, 3), (4, .ifCond .ne 16, 3), (7, .aload_n 0, 1), (8, .getfield 117, 3), (11, .iconst 1, 1), (12, .if_icmp .eq 8, 3), (15, .aload_n 0, 1), (16, .iconst 1, 1), (17, .invokevirtual 120, 3), (20, .aload_n 0, 1), (21, .iconst 0, 1), (22, .putfield 89, 3), (25, .aload_n 0, 1), (26, .aload_n 0, 1), (27, .getfield 93, 3), (30, .ifCond .le 10, 3), (33, .aload_n 0, 1), (34, .getfield 93, 3), (37, .goto 7, 3), (40, .aload_n 0, 1), (41, .getfield 131, 3), (44, .putfield 131, 3), (47, .aload_n 0, 1), (48, .getfield 93, 3), (51, .ifCond .le 7, 3), (54, .iconst 1, 1), (55, .goto 4, 3), (58, .iconst 0, 1), (59, .ireturn, 1)] = true := by decide +kernel
theorem dd_X10_fault : dchk cX10_fault [(0, .aload_n 0, 1), (1, .iconst 0, 1), (2, .putfield 62, 3), (5, .aload_n 0, 1), (6, .getfield 131, 3), (9, .ireturn, 1)] = true := by decide +kernel
theorem dd_X10_kindBy : dchk cX10_kindBy [(0, .iload_n 0, 1), (1, .bipush 116, 2), (3, .if_icmp .ne 7, 3), (6, .iconst 1, 1), (7, .goto 45, 3), (10, .iload_n 0, 1), (11, .bipush 99, 2), (13, .if_icmp .ne 7, 3), (16, .iconst 2, 1), (17, .goto 35, 3), (20, .iload_n 0, 1), (21, .bipush 115, 2), (23, .if_icmp .ne 7, 3), (26, .iconst 3, 1), (27, .goto 25, 3), (30, .iload_n 0, 1), (31, .bipush 114, 2), (33, .if_icmp .ne 7, 3), (36, .iconst 4, 1), (37, .goto 15, 3), (40, .iload_n 0, 1), (41, .bipush 102, 2), (43, .if_icmp .ne 7, 3), (46, .iconst 5, 1), (47, .goto 5, 3), (50, .ldc 105, 2), (52, .ireturn, 1)] = true := by decide +kernel
theorem dd_X10_isSort : dchk cX10_isSort [(0, .aload_n 0, 1), (1, .getfield 93, 3), (4, .ifCond .ne 27, 3), (7, .aload_n 0, 1), (8, .getfield 117, 3), (11, .iconst 2, 1), (12, .if_icmp .ne 19, 3), (15, .aload_n 0, 1), (16, .getfield 106, 3), (19, .invokestatic 134, 3), (22, .ldc 105, 2), (24, .if_icmp .eq 7, 3), (27, .iconst 1, 1), (28, .goto 4, 3), (31, .iconst 0, 1), (32, .ireturn, 1)] = true := by decide +kernel
theorem dd_X10_isSign : dchk cX10_isSign [(0, .aload_n 0, 1), (1, .getfield 93, 3), (4, .ifCond .ne 23, 3), (7, .aload_n 0, 1), (8, .getfield 117, 3), (11, .iconst 4, 1), (12, .if_icmp .ne 15, 3), (15, .aload_n 0, 1), (16, .getfield 106, 3), (19, .iload_n 1, 1), (20, .if_icmp .ne 7, 3), (23, .iconst 1, 1), (24, .goto 4, 3), (27, .iconst 0, 1), (28, .ireturn, 1)] = true := by decide +kernel
theorem dd_X10_readDream : dchk cX10_readDream [(0, .aload_n 0, 1), (1, .aload_n 0, 1), (2, .bipush 100, 2), (4, .invokevirtual 137, 3), (7, .invokevirtual 127, 3), (10, .iconst 1, 1), (11, .istore_n 1, 1), (12, .iload_n 1, 1), (13, .ifCond .eq 57, 3), (16, .aload_n 0, 1), (17, .iconst 0, 1), (18, .aload_n 0, 1), (19, .getfield 22, 3), (22, .iconst 0, 1), (23, .iaload, 1), (24, .iconst 1, 1), (25, .isub, 1), (26, .invokevirtual 140, 3), (29, .istore_n 2, 1), (30, .aload_n 0, 1), (31, .getfield 93, 3), (34, .ifCond .ne 16, 3), (37, .aload_n 0, 1), (38, .getfield 22, 3), (41, .bipush 6, 2), (43, .dup2, 1), (44, .iaload, 1), (45, .iconst 1, 1), (46, .iload_n 2, 1), (47, .ishl, 1), (48, .ior, 1), (49, .iastore, 1), (50, .aload_n 0, 1), (51, .bipush 44, 2), (53, .invokevirtual 144, 3), (56, .istore_n 1, 1), (57, .iload_n 1, 1), (58, .ifCond .eq 9, 3), (61, .aload_n 0, 1), (62, .bipush 44, 2), (64, .invokevirtual 147, 3), (67, .goto (-55), 3), (70, .aload_n 0, 1), (71, .bipush 59, 2), (73, .invokevirtual 147, 3), (76, .return_, 1)] = true := by decide +kernel
theorem dd_X10_readHum : dchk cX10_readHum [(0, .aload_n 0, 1), (1, .getfield 106, 3), (4, .invokestatic 134, 3), (7, .istore_n 1, 1), (8, .aload_n 0, 1), (9, .getfield 22, 3), (12, .iconst 3, 1), (13, .iaload, 1), (14, .bipush 6, 2), (16, .if_icmp .ne 8, 3), (19, .aload_n 0, 1), (20, .iconst 3, 1), (21, .invokevirtual 120, 3), (24, .aload_n 0, 1), (25, .iconst 1, 1), (26, .invokevirtual 127, 3), (29, .aload_n 0, 1), (30, .iconst 0, 1), (31, .aload_n 0, 1), (32, .getfield 22, 3), (35, .iconst 0, 1), (36, .iaload, 1), (37, .iconst 1, 1), (38, .isub, 1), (39, .invokevirtual 140, 3), (42, .istore_n 2, 1), (43, .aload_n 0, 1), (44, .bipush 44, 2), (46, .invokevirtual 147, 3), (49, .aload_n 0, 1), (50, .iconst 0, 1), (51, .aload_n 0, 1), (52, .getfield 22, 3), (55, .iconst 0, 1), (56, .iaload, 1), (57, .iconst 1, 1), (58, .isub, 1), (59, .invokevirtual 140, 3), (62, .istore_n 3, 1), (63, .aload_n 0, 1), (64, .bipush 59, 2), (66, .invokevirtual 147, 3), (69, .aload_n 0, 1), (70, .getfield 93, 3), (73, .ifCond .ne 54, 3), (76, .bipush 8, 2), (78, .iconst 3, 1), (79, .aload_n 0, 1), (80, .getfield 22, 3), (83, .iconst 3, 1), (84, .iaload, 1), (85, .imul, 1), (86, .iadd, 1), (87, .istore 4, 2), (89, .aload_n 0, 1), (90, .getfield 22, 3), (93, .iload 4, 2), (95, .iload_n 1, 1), (96, .iastore, 1), (97, .aload_n 0, 1), (98, .getfield 22, 3), (101, .iload 4, 2), (103, .iconst 1, 1), (104, .iadd, 1), (105, .iload_n 2, 1), (106, .iastore, 1), (107, .aload_n 0, 1), (108, .getfield 22, 3), (111, .iload 4, 2), (113, .iconst 2, 1), (114, .iadd, 1), (115, .iload_n 3, 1), (116, .iastore, 1), (117, .aload_n 0, 1), (118, .getfield 22, 3), (121, .iconst 3, 1), (122, .dup2, 1), (123, .iaload, 1), (124, .iconst 1, 1), (125, .iadd, 1), (126, .iastore, 1), (127, .return_, 1)] = true := by decide +kernel
theorem dd_X10_readCase : dchk cX10_readCase [(0, .aload_n 0, 1), (1, .getfield 22, 3), (4, .iconst 4, 1), (5, .iaload, 1), (6, .iconst 5, 1), (7, .if_icmp .ne 8, 3), (10, .aload_n 0, 1), (11, .iconst 3, 1), (12, .invokevirtual 120, 3), (15, .aload_n 0, 1), (16, .aload_n 0, 1), (17, .bipush 118, 2), (19, .invokevirtual 137, 3), (22, .invokevirtual 127, 3), (25, .aload_n 0, 1), (26, .iconst 0, 1), (27, .aload_n 0, 1), (28, .getfield 22, 3), (31, .iconst 3, 1), (32, .iaload, 1), (33, .iconst 1, 1), (34, .isub, 1), (35, .invokevirtual 140, 3), (38, .istore_n 1, 1), (39, .aload_n 0, 1), (40, .bipush 44, 2), (42, .invokevirtual 147, 3), (45, .aload_n 0, 1), (46, .iconst 0, 1), (47, .aload_n 0, 1), (48, .getfield 22, 3), (51, .iconst 0, 1), (52, .iaload, 1), (53, .iconst 1, 1), (54, .isub, 1), (55, .invokevirtual 140, 3), (58, .istore_n 2, 1), (59, .aload_n 0, 1), (60, .bipush 44, 2), (62, .invokevirtual 147, 3), (65, .aload_n 0, 1), (66, .getfield 93, 3), (69, .ifCond .ne 24, 3), (72, .aload_n 0, 1), (73, .getfield 117, 3), (76, .iconst 3, 1), (77, .if_icmp .ne 16, 3), (80, .aload_n 0, 1), (81, .getfield 106, 3), (84, .iload_n 2, 1), (85, .if_icmp .ne 8, 3), (88, .aload_n 0, 1), (89, .iconst 2, 1), (90, .invokevirtual 120, 3), (93, .aload_n 0, 1), (94, .iconst 0, 1), (95, .aload_n 0, 1), (96, .getfield 22, 3), (99, .iconst 0, 1), (100, .iaload, 1), (101, .iconst 1, 1), (102, .isub, 1), (103, .invokevirtual 140, 3), (106, .istore_n 3, 1), (107, .aload_n 0, 1), (108, .bipush 59, 2), (110, .invokevirtual 147, 3), (113, .aload_n 0, 1), (114, .getfield 93, 3), (117, .ifCond .ne 54, 3), (120, .bipush 26, 2), (122, .iconst 4, 1), (123, .aload_n 0, 1), (124, .getfield 22, 3), (127, .iconst 4, 1), (128, .iaload, 1), (129, .imul, 1), (130, .iadd, 1), (131, .istore 4, 2), (133, .aload_n 0, 1), (134, .getfield 22, 3), (137, .iload 4, 2), (139, .iload_n 1, 1), (140, .iastore, 1), (141, .aload_n 0, 1), (142, .getfield 22, 3), (145, .iload 4, 2), (147, .iconst 1, 1), (148, .iadd, 1), (149, .iload_n 2, 1), (150, .iastore, 1), (151, .aload_n 0, 1), (152, .getfield 22, 3), (155, .iload 4, 2), (157, .iconst 2, 1), (158, .iadd, 1), (159, .iload_n 3, 1), (160, .iastore, 1), (161, .aload_n 0, 1), (162, .getfield 22, 3), (165, .iconst 4, 1), (166, .dup2, 1), (167, .iaload, 1), (168, .iconst 1, 1), (169, .iadd, 1), (170, .iastore, 1), (171, .return_, 1)] = true := by decide +kernel
theorem dd_X10_court : dchk cX10_court [(0, .aload_n 0, 1), (1, .iconst 0, 1), (2, .putfield 62, 3), (5, .aload_n 0, 1), (6, .invokevirtual 150, 3), (9, .iconst 0, 1), (10, .istore_n 1, 1), (11, .iload_n 1, 1), (12, .bipush 46, 2), (14, .if_icmp .ge 16, 3), (17, .aload_n 0, 1), (18, .getfield 22, 3), (21, .iload_n 1, 1), (22, .iconst 0, 1), (23, .iastore, 1), (24, .iinc 1 1, 3), (27, .goto (-16), 3), (30, .aload_n 0, 1), (31, .aload_n 0, 1), (32, .bipush 106, 2), (34, .invokevirtual 137, 3), (37, .invokevirtual 127, 3), (40, .aload_n 0, 1), (41, .getfield 22, 3), (44, .iconst 0, 1), (45, .aload_n 0, 1), (46, .iconst 3, 1), (47, .bipush 8, 2), (49, .invokevirtual 140, 3), (52, .iastore, 1), (53, .aload_n 0, 1), (54, .bipush 44, 2), (56, .invokevirtual 147, 3), (59, .aload_n 0, 1), (60, .getfield 22, 3), (63, .iconst 1, 1), (64, .aload_n 0, 1), (65, .iconst 0, 1), (66, .bipush 8, 2), (68, .invokevirtual 140, 3), (71, .iastore, 1), (72, .aload_n 0, 1), (73, .bipush 44, 2), (75, .invokevirtual 147, 3), (78, .aload_n 0, 1), (79, .getfield 22, 3), (82, .iconst 2, 1), (83, .aload_n 0, 1), (84, .iconst 1, 1), (85, .bipush 9, 2), (87, .invokevirtual 140, 3), (90, .iastore, 1), (91, .aload_n 0, 1), (92, .bipush 59, 2), (94, .invokevirtual 147, 3), (97, .aload_n 0, 1), (98, .invokevirtual 153, 3), (101, .aload_n 0, 1), (102, .invokevirtual 156, 3), (105, .ifCond .ne 8, 3), (108, .aload_n 0, 1), (109, .iconst 1, 1), (110, .invokevirtual 120, 3), (113, .aload_n 0, 1), (114, .invokevirtual 156, 3), (117, .ifCond .eq 10, 3), (120, .aload_n 0, 1), (121, .invokevirtual 160, 3), (124, .goto (-11), 3), (127, .aload_n 0, 1), (128, .bipush 118, 2), (130, .invokevirtual 137, 3), (133, .ifCond .eq 10, 3), (136, .aload_n 0, 1), (137, .invokevirtual 163, 3), (140, .goto (-13), 3), (143, .aload_n 0, 1), (144, .invokevirtual 166, 3), (147, .ifCond .eq 11, 3), (150, .ldc 169, 2), (152, .aload_n 0, 1), (153, .getfield 99, 3), (156, .isub, 1), (157, .ireturn, 1), (158, .aload_n 0, 1), (159, .iconst 0, 1), (160, .putfield 170, 3), (163, .iconst 0, 1), (164, .istore_n 1, 1), (165, .iload_n 1, 1), (166, .bipush 46, 2), (168, .if_icmp .ge 21, 3), (171, .aload_n 0, 1), (172, .getfield 19, 3), (175, .iload_n 1, 1), (176, .aload_n 0, 1), (177, .getfield 22, 3), (180, .iload_n 1, 1), (181, .iaload, 1), (182, .iastore, 1), (183, .iinc 1 1, 3), (186, .goto (-21), 3), (189, .aload_n 0, 1), (190, .getfield 19, 3), (193, .iconst 3, 1), (194, .iaload, 1), (195, .ireturn, 1)] = true := by decide +kernel
theorem dd_X10_isThere : dchk cX10_isThere [(0, .aload_n 0, 1), (1, .getfield 19, 3), (4, .iconst 0, 1), (5, .iaload, 1), (6, .ifCond .le 7, 3), (9, .iconst 1, 1), (10, .goto 4, 3), (13, .iconst 0, 1), (14, .ireturn, 1)] = true := by decide +kernel
theorem dd_X10_isHum : dchk cX10_isHum [(0, .iload_n 1, 1), (1, .i2l, 1), (2, .lconst 0, 1), (3, .aload_n 0, 1), (4, .getfield 19, 3), (7, .iconst 3, 1), (8, .iaload, 1), (9, .iconst 1, 1), (10, .isub, 1), (11, .i2l, 1), (12, .invokestatic 72, 3), (15, .ireturn, 1)] = true := by decide +kernel
theorem dd_X10_isCase : dchk cX10_isCase [(0, .iload_n 1, 1), (1, .i2l, 1), (2, .lconst 0, 1), (3, .aload_n 0, 1), (4, .getfield 19, 3), (7, .iconst 4, 1), (8, .iaload, 1), (9, .iconst 1, 1), (10, .isub, 1), (11, .i2l, 1), (12, .invokestatic 72, 3), (15, .ireturn, 1)] = true := by decide +kernel
theorem dd_X10_isThing : dchk cX10_isThing [(0, .iload_n 1, 1), (1, .i2l, 1), (2, .lconst 0, 1), (3, .aload_n 0, 1), (4, .getfield 19, 3), (7, .iconst 0, 1), (8, .iaload, 1), (9, .iconst 1, 1), (10, .isub, 1), (11, .i2l, 1), (12, .invokestatic 72, 3), (15, .ireturn, 1)] = true := by decide +kernel
theorem dd_X10_allDreams : dchk cX10_allDreams [(0, .iconst 1, 1), (1, .aload_n 0, 1), (2, .getfield 19, 3), (5, .iconst 0, 1), (6, .iaload, 1), (7, .ishl, 1), (8, .ireturn, 1)] = true := by decide +kernel
theorem dd_X10_areThings : dchk cX10_areThings [(0, .iload_n 1, 1), (1, .i2l, 1), (2, .lconst 0, 1), (3, .aload_n 0, 1), (4, .invokevirtual 173, 3), (7, .iconst 1, 1), (8, .isub, 1), (9, .i2l, 1), (10, .invokestatic 72, 3), (13, .ireturn, 1)] = true := by decide +kernel
theorem dd_X10_bits : dchk cX10_bits [(0, .iconst 0, 1), (1, .istore_n 1, 1), (2, .iconst 0, 1), (3, .istore_n 2, 1), (4, .iload_n 2, 1), (5, .bipush 8, 2), (7, .if_icmp .ge 17, 3), (10, .iload_n 1, 1), (11, .iload_n 0, 1), (12, .iload_n 2, 1), (13, .ishr, 1), (14, .iconst 1, 1), (15, .iand, 1), (16, .iadd, 1), (17, .istore_n 1, 1), (18, .iinc 2 1, 3), (21, .goto (-17), 3), (24, .iload_n 1, 1), (25, .ireturn, 1)] = true := by decide +kernel
theorem dd_X10_has : dchk cX10_has [(0, .iload_n 0, 1), (1, .iload_n 1, 1), (2, .ishr, 1), (3, .iconst 1, 1), (4, .iand, 1), (5, .iconst 1, 1), (6, .if_icmp .ne 7, 3), (9, .iconst 1, 1), (10, .goto 4, 3), (13, .iconst 0, 1), (14, .ireturn, 1)] = true := by decide +kernel
theorem dd_X10_of : dchk cX10_of [(0, .aload_n 0, 1), (1, .bipush 8, 2), (3, .iconst 3, 1), (4, .iload_n 1, 1), (5, .imul, 1), (6, .iadd, 1), (7, .iload_n 2, 1), (8, .iadd, 1), (9, .iaload, 1), (10, .ireturn, 1)] = true := by decide +kernel
theorem dd_X10_its : dchk cX10_its [(0, .aload_n 0, 1), (1, .bipush 26, 2), (3, .iconst 4, 1), (4, .iload_n 1, 1), (5, .imul, 1), (6, .iadd, 1), (7, .iload_n 2, 1), (8, .iadd, 1), (9, .iaload, 1), (10, .ireturn, 1)] = true := by decide +kernel
theorem dd_X10_hummed : dchk cX10_hummed [(0, .iconst 1, 1), (1, .aload_n 0, 1), (2, .iload_n 1, 1), (3, .iconst 1, 1), (4, .invokestatic 177, 3), (7, .ishl, 1), (8, .istore_n 3, 1), (9, .aload_n 0, 1), (10, .iload_n 1, 1), (11, .iconst 2, 1), (12, .invokestatic 177, 3), (15, .istore 4, 2), (17, .aload_n 0, 1), (18, .iload_n 1, 1), (19, .iconst 0, 1), (20, .invokestatic 177, 3), (23, .tableswitch 78 1 4 #[29, 33, 52, 69], 29), (52, .iload_n 2, 1), (53, .iload_n 3, 1), (54, .ior, 1), (55, .ireturn, 1), (56, .iload_n 2, 1), (57, .iload_n 3, 1), (58, .ior, 1), (59, .iconst 1, 1), (60, .aload_n 0, 1), (61, .iload_n 1, 1), (62, .iconst 1, 1), (63, .invokestatic 177, 3), (66, .iconst 1, 1), (67, .iadd, 1), (68, .aload_n 0, 1), (69, .iconst 0, 1), (70, .iaload, 1), (71, .irem, 1), (72, .ishl, 1), (73, .ior, 1), (74, .ireturn, 1), (75, .iload_n 2, 1), (76, .iload 4, 2), (78, .invokestatic 181, 3), (81, .ifCond .eq 9, 3), (84, .iload_n 2, 1), (85, .iload_n 3, 1), (86, .ior, 1), (87, .goto 4, 3), (90, .iload_n 2, 1), (91, .ireturn, 1), (92, .iload_n 2, 1), (93, .iconst 1, 1), (94, .iload 4, 2), (96, .ishl, 1), (97, .iconst (-1), 1), (98, .ixor, 1), (99, .iand, 1), (100, .ireturn, 1), (101, .iload_n 2, 1), (102, .iload 4, 2), (104, .invokestatic 181, 3), (107, .ifCond .eq 16, 3), (110, .iload_n 2, 1), (111, .iconst 1, 1), (112, .iload 4, 2), (114, .ishl, 1), (115, .iconst (-1), 1), (116, .ixor, 1), (117, .iand, 1), (118, .iload_n 3, 1), (119, .ior, 1), (120, .goto 4, 3), (123, .iload_n 2, 1), (124, .ireturn, 1)] = true := by decide +kernel
theorem dd_X10_worn : dchk cX10_worn [(0, .iconst 0, 1), (1, .istore_n 2, 1), (2, .iconst 0, 1), (3, .istore_n 3, 1), (4, .iload_n 3, 1), (5, .bipush 8, 2), (7, .if_icmp .ge 37, 3), (10, .iload_n 2, 1), (11, .iload_n 1, 1), (12, .iload_n 3, 1), (13, .invokestatic 181, 3), (16, .ifCond .eq 19, 3), (19, .iload_n 2, 1), (20, .invokestatic 185, 3), (23, .aload_n 0, 1), (24, .iconst 1, 1), (25, .iaload, 1), (26, .if_icmp .ge 9, 3), (29, .iconst 1, 1), (30, .iload_n 3, 1), (31, .ishl, 1), (32, .goto 4, 3), (35, .iconst 0, 1), (36, .ior, 1), (37, .istore_n 2, 1), (38, .iinc 3 1, 3), (41, .goto (-37), 3), (44, .iload_n 2, 1), (45, .ireturn, 1)] = true := by decide +kernel
theorem dd_X10_verdict : dchk cX10_verdict [(0, .aload_n 0, 1), (1, .aload_n 0, 1), (2, .iload_n 1, 1), (3, .iconst 0, 1), (4, .invokestatic 188, 3), (7, .iload_n 2, 1), (8, .invokestatic 191, 3), (11, .istore_n 3, 1), (12, .iload_n 3, 1), (13, .aload_n 0, 1), (14, .iload_n 1, 1), (15, .iconst 1, 1), (16, .invokestatic 188, 3), (19, .invokestatic 181, 3), (22, .ifCond .eq 7, 3), (25, .iconst 2, 1), (26, .goto 21, 3), (29, .iload_n 3, 1), (30, .aload_n 0, 1), (31, .iload_n 1, 1), (32, .iconst 2, 1), (33, .invokestatic 188, 3), (36, .invokestatic 181, 3), (39, .ifCond .eq 7, 3), (42, .iconst 1, 1), (43, .goto 4, 3), (46, .iconst 0, 1), (47, .ireturn, 1)] = true := by decide +kernel
theorem dd_X10_heard : dchk cX10_heard [(0, .aload_n 0, 1), (1, .iload_n 1, 1), (2, .aload_n 0, 1), (3, .bipush 6, 2), (5, .iaload, 1), (6, .invokestatic 194, 3), (9, .istore_n 2, 1), (10, .aload_n 0, 1), (11, .bipush 6, 2), (13, .aload_n 0, 1), (14, .aload_n 0, 1), (15, .aload_n 0, 1), (16, .iload_n 1, 1), (17, .iconst 0, 1), (18, .invokestatic 188, 3), (21, .aload_n 0, 1), (22, .bipush 6, 2), (24, .iaload, 1), (25, .invokestatic 191, 3), (28, .invokestatic 197, 3), (31, .iastore, 1), (32, .aload_n 0, 1), (33, .bipush 26, 2), (35, .iconst 4, 1), (36, .iload_n 1, 1), (37, .imul, 1), (38, .iadd, 1), (39, .iconst 3, 1), (40, .iadd, 1), (41, .iload_n 2, 1), (42, .iastore, 1), (43, .aload_n 0, 1), (44, .iconst 5, 1), (45, .dup2, 1), (46, .iaload, 1), (47, .iconst 1, 1), (48, .iadd, 1), (49, .iastore, 1), (50, .aload_n 0, 1), (51, .bipush 7, 2), (53, .iconst 0, 1), (54, .iastore, 1), (55, .iload_n 2, 1), (56, .ireturn, 1)] = true := by decide +kernel
theorem dd_X10_those : dchk cX10_those [(0, .iconst 0, 1), (1, .istore_n 2, 1), (2, .iconst 0, 1), (3, .istore_n 3, 1), (4, .iload_n 3, 1), (5, .aload_n 0, 1), (6, .iconst 4, 1), (7, .iaload, 1), (8, .if_icmp .ge 29, 3), (11, .iload_n 2, 1), (12, .aload_n 0, 1), (13, .iload_n 3, 1), (14, .iconst 3, 1), (15, .invokestatic 188, 3), (18, .iload_n 1, 1), (19, .if_icmp .ne 9, 3), (22, .iconst 1, 1), (23, .iload_n 3, 1), (24, .ishl, 1), (25, .goto 4, 3), (28, .iconst 0, 1), (29, .ior, 1), (30, .istore_n 2, 1), (31, .iinc 3 1, 3), (34, .goto (-30), 3), (37, .iload_n 2, 1), (38, .ireturn, 1)] = true := by decide +kernel
theorem dd_X10_layThen : dchk cX10_layThen [(0, .iconst 0, 1), (1, .istore_n 1, 1), (2, .iload_n 1, 1), (3, .bipush 46, 2), (5, .if_icmp .ge 21, 3), (8, .aload_n 0, 1), (9, .getfield 25, 3), (12, .iload_n 1, 1), (13, .aload_n 0, 1), (14, .getfield 19, 3), (17, .iload_n 1, 1), (18, .iaload, 1), (19, .iastore, 1), (20, .iinc 1 1, 3), (23, .goto (-21), 3), (26, .return_, 1)] = true := by decide +kernel
theorem dd_X10_keep : dchk cX10_keep [(0, .aload_n 0, 1), (1, .getfield 170, 3), (4, .bipush 24, 2), (6, .if_icmp .ne 43, 3), (9, .iconst 0, 1), (10, .istore_n 1, 1), (11, .iload_n 1, 1), (12, .sipush 1058, 3), (15, .if_icmp .ge 24, 3), (18, .aload_n 0, 1), (19, .getfield 28, 3), (22, .iload_n 1, 1), (23, .aload_n 0, 1), (24, .getfield 28, 3), (27, .iload_n 1, 1), (28, .bipush 46, 2), (30, .iadd, 1), (31, .iaload, 1), (32, .iastore, 1), (33, .iinc 1 1, 3), (36, .goto (-25), 3), (39, .aload_n 0, 1), (40, .dup, 1), (41, .getfield 170, 3), (44, .iconst 1, 1), (45, .isub, 1), (46, .putfield 170, 3), (49, .iconst 0, 1), (50, .istore_n 1, 1), (51, .iload_n 1, 1), (52, .bipush 46, 2), (54, .if_icmp .ge 29, 3), (57, .aload_n 0, 1), (58, .getfield 28, 3), (61, .bipush 46, 2), (63, .aload_n 0, 1), (64, .getfield 170, 3), (67, .imul, 1), (68, .iload_n 1, 1), (69, .iadd, 1), (70, .aload_n 0, 1), (71, .getfield 19, 3), (74, .iload_n 1, 1), (75, .iaload, 1), (76, .iastore, 1), (77, .iinc 1 1, 3), (80, .goto (-29), 3), (83, .aload_n 0, 1), (84, .dup, 1), (85, .getfield 170, 3), (88, .iconst 1, 1), (89, .iadd, 1), (90, .putfield 170, 3), (93, .return_, 1)] = true := by decide +kernel
theorem dd_X10_hum : dchk cX10_hum [(0, .aload_n 0, 1), (1, .iconst 0, 1), (2, .putfield 62, 3), (5, .aload_n 0, 1), (6, .iload_n 1, 1), (7, .invokevirtual 201, 3), (10, .ifCond .ne 6, 3), (13, .ldc 82, 2), (15, .ireturn, 1), (16, .aload_n 0, 1), (17, .getfield 19, 3), (20, .bipush 7, 2), (22, .iaload, 1), (23, .aload_n 0, 1), (24, .getfield 19, 3), (27, .iconst 2, 1), (28, .iaload, 1), (29, .if_icmp .ne 6, 3), (32, .ldc 92, 2), (34, .ireturn, 1), (35, .aload_n 0, 1), (36, .invokevirtual 204, 3), (39, .aload_n 0, 1), (40, .getfield 19, 3), (43, .bipush 6, 2), (45, .aload_n 0, 1), (46, .getfield 19, 3), (49, .iload_n 1, 1), (50, .aload_n 0, 1), (51, .getfield 19, 3), (54, .bipush 6, 2), (56, .iaload, 1), (57, .invokestatic 191, 3), (60, .iastore, 1), (61, .aload_n 0, 1), (62, .getfield 19, 3), (65, .bipush 7, 2), (67, .dup2, 1), (68, .iaload, 1), (69, .iconst 1, 1), (70, .iadd, 1), (71, .iastore, 1), (72, .aload_n 0, 1), (73, .getfield 19, 3), (76, .bipush 6, 2), (78, .iaload, 1), (79, .ireturn, 1)] = true := by decide +kernel
theorem dd_X10_hear : dchk cX10_hear [(0, .aload_n 0, 1), (1, .iconst 0, 1), (2, .putfield 62, 3), (5, .aload_n 0, 1), (6, .iload_n 1, 1), (7, .invokevirtual 207, 3), (10, .ifCond .ne 6, 3), (13, .ldc 82, 2), (15, .ireturn, 1), (16, .aload_n 0, 1), (17, .getfield 19, 3), (20, .iload_n 1, 1), (21, .iconst 3, 1), (22, .invokestatic 188, 3), (25, .ifCond .eq 6, 3), (28, .ldc 210, 2), (30, .ireturn, 1), (31, .aload_n 0, 1), (32, .invokevirtual 204, 3), (35, .aload_n 0, 1), (36, .getfield 19, 3), (39, .iload_n 1, 1), (40, .invokestatic 211, 3), (43, .ireturn, 1)] = true := by decide +kernel
theorem dd_X10_appeal : dchk cX10_appeal [(0, .aload_n 0, 1), (1, .iconst 0, 1), (2, .putfield 62, 3), (5, .aload_n 0, 1), (6, .iload_n 1, 1), (7, .invokevirtual 207, 3), (10, .ifCond .ne 6, 3), (13, .ldc 82, 2), (15, .ireturn, 1), (16, .aload_n 0, 1), (17, .getfield 19, 3), (20, .iload_n 1, 1), (21, .iconst 3, 1), (22, .invokestatic 188, 3), (25, .iconst 2, 1), (26, .if_icmp .eq 6, 3), (29, .ldc 210, 2), (31, .ireturn, 1), (32, .aload_n 0, 1), (33, .invokevirtual 204, 3), (36, .aload_n 0, 1), (37, .getfield 19, 3), (40, .bipush 6, 2), (42, .iaload, 1), (43, .aload_n 0, 1), (44, .getfield 19, 3), (47, .iload_n 1, 1), (48, .iconst 2, 1), (49, .invokestatic 188, 3), (52, .invokestatic 181, 3), (55, .ifCond .eq 29, 3), (58, .aload_n 0, 1), (59, .getfield 19, 3), (62, .bipush 6, 2), (64, .iaload, 1), (65, .aload_n 0, 1), (66, .getfield 19, 3), (69, .iload_n 1, 1), (70, .iconst 1, 1), (71, .invokestatic 188, 3), (74, .invokestatic 181, 3), (77, .ifCond .ne 7, 3), (80, .iconst 1, 1), (81, .goto 4, 3), (84, .iconst 0, 1), (85, .istore_n 2, 1), (86, .aload_n 0, 1), (87, .getfield 19, 3), (90, .bipush 26, 2), (92, .iconst 4, 1), (93, .iload_n 1, 1), (94, .imul, 1), (95, .iadd, 1), (96, .iconst 3, 1), (97, .iadd, 1), (98, .iload_n 2, 1), (99, .ifCond .eq 7, 3), (102, .iconst 0, 1), (103, .goto 4, 3), (106, .iconst 3, 1), (107, .iastore, 1), (108, .iload_n 2, 1), (109, .ifCond .eq 7, 3), (112, .iconst 1, 1), (113, .goto 4, 3), (116, .iconst 0, 1), (117, .ireturn, 1)] = true := by decide +kernel
theorem dd_X10_forget : dchk cX10_forget [(0, .aload_n 0, 1), (1, .iconst 0, 1), (2, .putfield 62, 3), (5, .aload_n 0, 1), (6, .iload_n 1, 1), (7, .invokevirtual 214, 3), (10, .ifCond .ne 6, 3), (13, .ldc 82, 2), (15, .ireturn, 1), (16, .aload_n 0, 1), (17, .getfield 19, 3), (20, .bipush 6, 2), (22, .iaload, 1), (23, .iload_n 1, 1), (24, .invokestatic 181, 3), (27, .ifCond .ne 6, 3), (30, .ldc 210, 2), (32, .ireturn, 1), (33, .aload_n 0, 1), (34, .invokevirtual 204, 3), (37, .aload_n 0, 1), (38, .getfield 19, 3), (41, .bipush 6, 2), (43, .dup2, 1), (44, .iaload, 1), (45, .iconst 1, 1), (46, .iload_n 1, 1), (47, .ishl, 1), (48, .iconst (-1), 1), (49, .ixor, 1), (50, .iand, 1), (51, .iastore, 1), (52, .aload_n 0, 1), (53, .getfield 19, 3), (56, .bipush 6, 2), (58, .iaload, 1), (59, .ireturn, 1)] = true := by decide +kernel
theorem dd_X10_learn : dchk cX10_learn [(0, .aload_n 0, 1), (1, .iconst 0, 1), (2, .putfield 62, 3), (5, .aload_n 0, 1), (6, .iload_n 1, 1), (7, .invokevirtual 201, 3), (10, .ifCond .eq 11, 3), (13, .aload_n 0, 1), (14, .iload_n 2, 1), (15, .invokevirtual 214, 3), (18, .ifCond .ne 6, 3), (21, .ldc 82, 2), (23, .ireturn, 1), (24, .aload_n 0, 1), (25, .invokevirtual 204, 3), (28, .aload_n 0, 1), (29, .getfield 19, 3), (32, .iload_n 1, 1), (33, .iconst 1, 1), (34, .invokestatic 177, 3), (37, .istore_n 3, 1), (38, .aload_n 0, 1), (39, .getfield 19, 3), (42, .bipush 8, 2), (44, .iconst 3, 1), (45, .iload_n 1, 1), (46, .imul, 1), (47, .iadd, 1), (48, .iconst 1, 1), (49, .iadd, 1), (50, .iload_n 2, 1), (51, .iastore, 1), (52, .iload_n 3, 1), (53, .ireturn, 1)] = true := by decide +kernel
theorem dd_X10_undo : dchk cX10_undo [(0, .aload_n 0, 1), (1, .iconst 0, 1), (2, .putfield 62, 3), (5, .aload_n 0, 1), (6, .getfield 170, 3), (9, .ifCond .ne 6, 3), (12, .ldc 210, 2), (14, .ireturn, 1), (15, .aload_n 0, 1), (16, .dup, 1), (17, .getfield 170, 3), (20, .iconst 1, 1), (21, .isub, 1), (22, .putfield 170, 3), (25, .iconst 0, 1), (26, .istore_n 1, 1), (27, .iload_n 1, 1), (28, .bipush 46, 2), (30, .if_icmp .ge 29, 3), (33, .aload_n 0, 1), (34, .getfield 19, 3), (37, .iload_n 1, 1), (38, .aload_n 0, 1), (39, .getfield 28, 3), (42, .bipush 46, 2), (44, .aload_n 0, 1), (45, .getfield 170, 3), (48, .imul, 1), (49, .iload_n 1, 1), (50, .iadd, 1), (51, .iaload, 1), (52, .iastore, 1), (53, .iinc 1 1, 3), (56, .goto (-29), 3), (59, .aload_n 0, 1), (60, .getfield 170, 3), (63, .ireturn, 1)] = true := by decide +kernel
theorem dd_X10_ofHum : dchk cX10_ofHum [(0, .aload_n 0, 1), (1, .iconst 0, 1), (2, .putfield 62, 3), (5, .aload_n 0, 1), (6, .iload_n 1, 1), (7, .invokevirtual 201, 3), (10, .ifCond .eq 15, 3), (13, .iload_n 2, 1), (14, .i2l, 1), (15, .lconst 0, 1), (16, .ldc2_w 80, 3), (19, .invokestatic 72, 3), (22, .ifCond .ne 6, 3), (25, .ldc 82, 2), (27, .ireturn, 1), (28, .iload_n 2, 1), (29, .iconst 2, 1), (30, .if_icmp .ge 17, 3), (33, .aload_n 0, 1), (34, .getfield 19, 3), (37, .iload_n 1, 1), (38, .iconst 1, 1), (39, .iload_n 2, 1), (40, .iadd, 1), (41, .invokestatic 177, 3), (44, .goto 18, 3), (47, .aload_n 0, 1), (48, .getfield 19, 3), (51, .iload_n 1, 1), (52, .aload_n 0, 1), (53, .getfield 19, 3), (56, .bipush 6, 2), (58, .iaload, 1), (59, .invokestatic 191, 3), (62, .ireturn, 1)] = true := by decide +kernel
theorem dd_X10_ofCase : dchk cX10_ofCase [(0, .aload_n 0, 1), (1, .iconst 0, 1), (2, .putfield 62, 3), (5, .aload_n 0, 1), (6, .iload_n 1, 1), (7, .invokevirtual 207, 3), (10, .ifCond .eq 15, 3), (13, .iload_n 2, 1), (14, .i2l, 1), (15, .lconst 0, 1), (16, .ldc2_w 217, 3), (19, .invokestatic 72, 3), (22, .ifCond .ne 6, 3), (25, .ldc 82, 2), (27, .ireturn, 1), (28, .iload_n 2, 1), (29, .iconst 4, 1), (30, .if_icmp .ge 15, 3), (33, .aload_n 0, 1), (34, .getfield 19, 3), (37, .iload_n 1, 1), (38, .iload_n 2, 1), (39, .invokestatic 188, 3), (42, .goto 18, 3), (45, .aload_n 0, 1), (46, .getfield 19, 3), (49, .iload_n 1, 1), (50, .aload_n 0, 1), (51, .getfield 19, 3), (54, .bipush 6, 2), (56, .iaload, 1), (57, .invokestatic 194, 3), (60, .ireturn, 1)] = true := by decide +kernel
theorem dd_X10_stand : dchk cX10_stand [(0, .aload_n 0, 1), (1, .iconst 0, 1), (2, .putfield 62, 3), (5, .aload_n 0, 1), (6, .invokevirtual 219, 3), (9, .ifCond .ne 6, 3), (12, .ldc 210, 2), (14, .ireturn, 1), (15, .iload_n 1, 1), (16, .tableswitch 88 0 4 #[36, 44, 52, 61, 70], 36), (52, .aload_n 0, 1), (53, .getfield 19, 3), (56, .bipush 6, 2), (58, .iaload, 1), (59, .ireturn, 1), (60, .aload_n 0, 1), (61, .getfield 19, 3), (64, .bipush 7, 2), (66, .iaload, 1), (67, .ireturn, 1), (68, .aload_n 0, 1), (69, .getfield 19, 3), (72, .iconst 0, 1), (73, .invokestatic 222, 3), (76, .ireturn, 1), (77, .aload_n 0, 1), (78, .getfield 19, 3), (81, .iconst 1, 1), (82, .invokestatic 222, 3), (85, .ireturn, 1), (86, .aload_n 0, 1), (87, .getfield 19, 3), (90, .iconst 2, 1), (91, .invokestatic 222, 3), (94, .aload_n 0, 1), (95, .getfield 19, 3), (98, .iconst 3, 1), (99, .invokestatic 222, 3), (102, .ior, 1), (103, .ireturn, 1), (104, .ldc 82, 2), (106, .ireturn, 1)] = true := by decide +kernel
theorem dd_X10_rowFound : dchk cX10_rowFound [(0, .aload_n 0, 1), (1, .getfield 7, 3), (4, .iload_n 1, 1), (5, .iaload, 1), (6, .ifCond .ge 9, 3), (9, .aload_n 0, 1), (10, .iconst 1, 1), (11, .invokevirtual 83, 3), (14, .ireturn, 1), (15, .iload_n 2, 1), (16, .ifCond .lt 19, 3), (19, .iload_n 2, 1), (20, .i2l, 1), (21, .iload_n 3, 1), (22, .i2l, 1), (23, .ladd, 1), (24, .aload_n 0, 1), (25, .getfield 13, 3), (28, .iload_n 1, 1), (29, .iaload, 1), (30, .i2l, 1), (31, .lcmp, 1), (32, .ifCond .le 9, 3), (35, .aload_n 0, 1), (36, .iconst 2, 1), (37, .invokevirtual 83, 3), (40, .ireturn, 1), (41, .aload_n 0, 1), (42, .iconst 0, 1), (43, .putfield 66, 3), (46, .iconst 0, 1), (47, .ireturn, 1)] = true := by decide +kernel
theorem dd_X10_humsFound : dchk cX10_humsFound [(0, .aload_n 0, 1), (1, .iload_n 1, 1), (2, .iload_n 2, 1), (3, .iload_n 3, 1), (4, .invokevirtual 225, 3), (7, .istore 4, 2), (9, .iconst 0, 1), (10, .istore 5, 2), (12, .iload 5, 2), (14, .iload_n 3, 1), (15, .if_icmp .ge 46, 3), (18, .iload 4, 2), (20, .ifCond .ne 41, 3), (23, .aload_n 0, 1), (24, .aload_n 0, 1), (25, .getfield 16, 3), (28, .bipush 40, 2), (30, .iload_n 1, 1), (31, .imul, 1), (32, .iload_n 2, 1), (33, .iadd, 1), (34, .iload 5, 2), (36, .iadd, 1), (37, .iaload, 1), (38, .invokevirtual 201, 3), (41, .ifCond .eq 7, 3), (44, .iconst 0, 1), (45, .goto 8, 3), (48, .aload_n 0, 1), (49, .iconst 3, 1), (50, .invokevirtual 83, 3), (53, .istore 4, 2), (55, .iinc 5 1, 3), (58, .goto (-46), 3), (61, .iload 4, 2), (63, .ireturn, 1)] = true := by decide +kernel
theorem dd_X10_sleep : dchk cX10_sleep [(0, .aload_n 0, 1), (1, .iconst 0, 1), (2, .putfield 62, 3), (5, .aload_n 0, 1), (6, .invokevirtual 219, 3), (9, .ifCond .ne 6, 3), (12, .ldc 210, 2), (14, .ireturn, 1), (15, .iload_n 1, 1), (16, .invokestatic 76, 3), (19, .ifCond .eq 15, 3), (22, .iload_n 3, 1), (23, .i2l, 1), (24, .lconst 1, 1), (25, .ldc2_w 229, 3), (28, .invokestatic 72, 3), (31, .ifCond .ne 6, 3), (34, .ldc 82, 2), (36, .ireturn, 1), (37, .aload_n 0, 1), (38, .iload_n 1, 1), (39, .iload_n 2, 1), (40, .iload_n 3, 1), (41, .invokevirtual 231, 3), (44, .istore 4, 2), (46, .iload 4, 2), (48, .ifCond .eq 6, 3), (51, .iload 4, 2), (53, .ireturn, 1), (54, .aload_n 0, 1), (55, .getfield 19, 3), (58, .bipush 6, 2), (60, .iaload, 1), (61, .istore 5, 2), (63, .iconst 0, 1), (64, .istore 6, 2), (66, .iload 6, 2), (68, .iload_n 3, 1), (69, .if_icmp .ge 34, 3), (72, .aload_n 0, 1), (73, .getfield 19, 3), (76, .aload_n 0, 1), (77, .getfield 16, 3), (80, .bipush 40, 2), (82, .iload_n 1, 1), (83, .imul, 1), (84, .iload_n 2, 1), (85, .iadd, 1), (86, .iload 6, 2), (88, .iadd, 1), (89, .iaload, 1), (90, .iload 5, 2), (92, .invokestatic 191, 3), (95, .istore 5, 2), (97, .iinc 6 1, 3), (100, .goto (-34), 3), (103, .iload 5, 2), (105, .ireturn, 1)] = true := by decide +kernel
theorem dd_X10_spread : dchk cX10_spread [(0, .iconst 0, 1), (1, .istore_n 2, 1), (2, .iload_n 2, 1), (3, .sipush 256, 3), (6, .if_icmp .ge 31, 3), (9, .aload_n 0, 1), (10, .getfield 34, 3), (13, .iload_n 2, 1), (14, .iload_n 2, 1), (15, .aload_n 0, 1), (16, .getfield 19, 3), (19, .bipush 6, 2), (21, .iaload, 1), (22, .if_icmp .ne 7, 3), (25, .iconst 1, 1), (26, .goto 4, 3), (29, .iconst 0, 1), (30, .bastore, 1), (31, .iinc 2 1, 3), (34, .goto (-32), 3), (37, .iconst 0, 1), (38, .istore_n 2, 1), (39, .iload_n 2, 1), (40, .iload_n 1, 1), (41, .if_icmp .ge 119, 3), (44, .iconst 0, 1), (45, .istore_n 3, 1), (46, .iload_n 3, 1), (47, .sipush 256, 3), (50, .if_icmp .ge 16, 3), (53, .aload_n 0, 1), (54, .getfield 38, 3), (57, .iload_n 3, 1), (58, .iconst 0, 1), (59, .bastore, 1), (60, .iinc 3 1, 3), (63, .goto (-17), 3), (66, .iconst 0, 1), (67, .istore_n 3, 1), (68, .iload_n 3, 1), (69, .aload_n 0, 1), (70, .invokevirtual 173, 3), (73, .if_icmp .ge 54, 3), (76, .iconst 0, 1), (77, .istore 4, 2), (79, .iload 4, 2), (81, .aload_n 0, 1), (82, .getfield 19, 3), (85, .iconst 3, 1), (86, .iaload, 1), (87, .if_icmp .ge 34, 3), (90, .aload_n 0, 1), (91, .getfield 34, 3), (94, .iload_n 3, 1), (95, .baload, 1), (96, .ifCond .eq 25, 3), (99, .aload_n 0, 1), (100, .getfield 38, 3), (103, .aload_n 0, 1), (104, .getfield 19, 3), (107, .iload 4, 2), (109, .iload_n 3, 1), (110, .invokestatic 191, 3), (113, .iconst 1, 1), (114, .bastore, 1), (115, .iinc 4 1, 3), (118, .goto (-39), 3), (121, .iinc 3 1, 3), (124, .goto (-56), 3), (127, .iconst 0, 1), (128, .istore_n 3, 1), (129, .iload_n 3, 1), (130, .sipush 256, 3), (133, .if_icmp .ge 21, 3), (136, .aload_n 0, 1), (137, .getfield 34, 3), (140, .iload_n 3, 1), (141, .aload_n 0, 1), (142, .getfield 38, 3), (145, .iload_n 3, 1), (146, .baload, 1), (147, .bastore, 1), (148, .iinc 3 1, 3), (151, .goto (-22), 3), (154, .iinc 2 1, 3), (157, .goto (-118), 3), (160, .return_, 1)] = true := by decide +kernel
theorem dd_X10_dreams : dchk cX10_dreams [(0, .aload_n 0, 1), (1, .iconst 0, 1), (2, .putfield 62, 3), (5, .aload_n 0, 1), (6, .invokevirtual 219, 3), (9, .ifCond .ne 6, 3), (12, .ldc 210, 2), (14, .ireturn, 1), (15, .iload_n 1, 1), (16, .i2l, 1), (17, .lconst 0, 1), (18, .ldc2_w 234, 3), (21, .invokestatic 72, 3), (24, .ifCond .eq 15, 3), (27, .iload_n 2, 1), (28, .i2l, 1), (29, .lconst 0, 1), (30, .ldc2_w 217, 3), (33, .invokestatic 72, 3), (36, .ifCond .ne 6, 3), (39, .ldc 82, 2), (41, .ireturn, 1), (42, .aload_n 0, 1), (43, .iload_n 1, 1), (44, .invokevirtual 236, 3), (47, .iconst 0, 1), (48, .istore_n 3, 1), (49, .aload_n 0, 1), (50, .invokevirtual 173, 3), (53, .iconst 1, 1), (54, .isub, 1), (55, .istore 4, 2), (57, .iconst 0, 1), (58, .istore 5, 2), (60, .ldc 105, 2), (62, .istore 6, 2), (64, .ldc 105, 2), (66, .istore 7, 2), (68, .iconst 0, 1), (69, .istore 8, 2), (71, .iload 8, 2), (73, .aload_n 0, 1), (74, .invokevirtual 173, 3), (77, .if_icmp .ge 56, 3), (80, .aload_n 0, 1), (81, .getfield 34, 3), (84, .iload 8, 2), (86, .baload, 1), (87, .ifCond .eq 40, 3), (90, .iinc 3 1, 3), (93, .iload 4, 2), (95, .iload 8, 2), (97, .iand, 1), (98, .istore 4, 2), (100, .iload 5, 2), (102, .iload 8, 2), (104, .ior, 1), (105, .istore 5, 2), (107, .iload 6, 2), (109, .ldc 105, 2), (111, .if_icmp .ne 8, 3), (114, .iload 8, 2), (116, .goto 5, 3), (119, .iload 6, 2), (121, .istore 6, 2), (123, .iload 8, 2), (125, .istore 7, 2), (127, .iinc 8 1, 3), (130, .goto (-59), 3), (133, .iload_n 2, 1), (134, .ifCond .ne 7, 3), (137, .iload_n 3, 1), (138, .goto 35, 3), (141, .iload_n 2, 1), (142, .iconst 1, 1), (143, .if_icmp .ne 8, 3), (146, .iload 4, 2), (148, .goto 25, 3), (151, .iload_n 2, 1), (152, .iconst 2, 1), (153, .if_icmp .ne 8, 3), (156, .iload 5, 2), (158, .goto 15, 3), (161, .iload_n 2, 1), (162, .iconst 3, 1), (163, .if_icmp .ne 8, 3), (166, .iload 6, 2), (168, .goto 5, 3), (171, .iload 7, 2), (173, .ireturn, 1)] = true := by decide +kernel
theorem dd_X10_measure : dchk cX10_measure [(0, .iconst 1, 1), (1, .istore_n 1, 1), (2, .iload_n 1, 1), (3, .bipush 12, 2), (5, .if_icmp .gt 86, 3), (8, .iconst 0, 1), (9, .istore_n 2, 1), (10, .iload_n 2, 1), (11, .aload_n 0, 1), (12, .invokevirtual 173, 3), (15, .if_icmp .ge 70, 3), (18, .iconst 0, 1), (19, .istore_n 3, 1), (20, .iload_n 3, 1), (21, .aload_n 0, 1), (22, .getfield 19, 3), (25, .iconst 3, 1), (26, .iaload, 1), (27, .if_icmp .ge 52, 3), (30, .aload_n 0, 1), (31, .getfield 41, 3), (34, .iload_n 2, 1), (35, .iaload, 1), (36, .ldc 105, 2), (38, .if_icmp .ne 41, 3), (41, .aload_n 0, 1), (42, .getfield 41, 3), (45, .iload_n 2, 1), (46, .aload_n 0, 1), (47, .getfield 41, 3), (50, .aload_n 0, 1), (51, .getfield 19, 3), (54, .iload_n 3, 1), (55, .iload_n 2, 1), (56, .invokestatic 191, 3), (59, .iaload, 1), (60, .iload_n 1, 1), (61, .iconst 1, 1), (62, .isub, 1), (63, .if_icmp .ne 7, 3), (66, .iload_n 1, 1), (67, .goto 5, 3), (70, .ldc 105, 2), (72, .iastore, 1), (73, .iinc 3 1, 3), (76, .goto (-56), 3), (79, .iinc 2 1, 3), (82, .goto (-72), 3), (85, .iinc 1 1, 3), (88, .goto (-86), 3), (91, .return_, 1)] = true := by decide +kernel
theorem dd_X10_wayOf : dchk cX10_wayOf [(0, .aload_n 0, 1), (1, .getfield 19, 3), (4, .bipush 6, 2), (6, .iaload, 1), (7, .istore_n 2, 1), (8, .aload_n 0, 1), (9, .getfield 41, 3), (12, .iload_n 2, 1), (13, .iaload, 1), (14, .istore_n 3, 1), (15, .iload_n 3, 1), (16, .ldc 105, 2), (18, .if_icmp .eq 8, 3), (21, .iload_n 1, 1), (22, .iconst (-1), 1), (23, .if_icmp .ne 5, 3), (26, .iload_n 3, 1), (27, .ireturn, 1), (28, .ldc 105, 2), (30, .istore 4, 2), (32, .iconst 0, 1), (33, .istore 5, 2), (35, .iload 5, 2), (37, .iload_n 3, 1), (38, .if_icmp .ge 86, 3), (41, .iload 5, 2), (43, .iload_n 1, 1), (44, .if_icmp .gt 80, 3), (47, .ldc 105, 2), (49, .istore 4, 2), (51, .aload_n 0, 1), (52, .getfield 19, 3), (55, .iconst 3, 1), (56, .iaload, 1), (57, .iconst 1, 1), (58, .isub, 1), (59, .istore 6, 2), (61, .iload 6, 2), (63, .ifCond .lt 44, 3), (66, .aload_n 0, 1), (67, .getfield 41, 3), (70, .aload_n 0, 1), (71, .getfield 19, 3), (74, .iload 6, 2), (76, .iload_n 2, 1), (77, .invokestatic 191, 3), (80, .iaload, 1), (81, .aload_n 0, 1), (82, .getfield 41, 3), (85, .iload_n 2, 1), (86, .iaload, 1), (87, .iconst 1, 1), (88, .isub, 1), (89, .if_icmp .ne 8, 3), (92, .iload 6, 2), (94, .goto 5, 3), (97, .iload 4, 2), (99, .istore 4, 2), (101, .iinc 6 (-1), 3), (104, .goto (-43), 3), (107, .aload_n 0, 1), (108, .getfield 19, 3), (111, .iload 4, 2), (113, .iload_n 2, 1), (114, .invokestatic 191, 3), (117, .istore_n 2, 1), (118, .iinc 5 1, 3), (121, .goto (-86), 3), (124, .iload_n 1, 1), (125, .iload_n 3, 1), (126, .if_icmp .ge 8, 3), (129, .iload 4, 2), (131, .goto 5, 3), (134, .ldc 105, 2), (136, .ireturn, 1)] = true := by decide +kernel
theorem dd_X10_least : dchk cX10_least [(0, .aload_n 0, 1), (1, .iconst 0, 1), (2, .putfield 62, 3), (5, .aload_n 0, 1), (6, .invokevirtual 219, 3), (9, .ifCond .ne 6, 3), (12, .ldc 210, 2), (14, .ireturn, 1), (15, .aload_n 0, 1), (16, .iload_n 1, 1), (17, .invokevirtual 239, 3), (20, .ifCond .eq 16, 3), (23, .aload_n 0, 1), (24, .iload_n 2, 1), (25, .invokevirtual 239, 3), (28, .ifCond .eq 8, 3), (31, .iload_n 3, 1), (32, .iconst (-1), 1), (33, .if_icmp .ge 6, 3), (36, .ldc 82, 2), (38, .ireturn, 1), (39, .iconst 0, 1), (40, .istore 4, 2), (42, .iload 4, 2), (44, .sipush 256, 3), (47, .if_icmp .ge 46, 3), (50, .aload_n 0, 1), (51, .getfield 41, 3), (54, .iload 4, 2), (56, .iload 4, 2), (58, .aload_n 0, 1), (59, .invokevirtual 173, 3), (62, .if_icmp .ge 22, 3), (65, .iload 4, 2), (67, .iload_n 1, 1), (68, .iand, 1), (69, .iload_n 1, 1), (70, .if_icmp .ne 14, 3), (73, .iload 4, 2), (75, .iload_n 2, 1), (76, .iand, 1), (77, .ifCond .ne 7, 3), (80, .iconst 0, 1), (81, .goto 5, 3), (84, .ldc 105, 2), (86, .iastore, 1), (87, .iinc 4 1, 3), (90, .goto (-48), 3), (93, .aload_n 0, 1), (94, .invokevirtual 242, 3), (97, .aload_n 0, 1), (98, .iload_n 3, 1), (99, .invokevirtual 245, 3), (102, .ireturn, 1)] = true := by decide +kernel
theorem dd_X10_save : dchk cX10_save [(0, .aload_n 0, 1), (1, .iconst 0, 1), (2, .putfield 62, 3), (5, .aload_n 0, 1), (6, .iload_n 1, 1), (7, .invokevirtual 207, 3), (10, .ifCond .eq 8, 3), (13, .iload_n 2, 1), (14, .iconst (-1), 1), (15, .if_icmp .ge 6, 3), (18, .ldc 82, 2), (20, .ireturn, 1), (21, .iconst 0, 1), (22, .istore_n 3, 1), (23, .iload_n 3, 1), (24, .sipush 256, 3), (27, .if_icmp .ge 42, 3), (30, .aload_n 0, 1), (31, .getfield 41, 3), (34, .iload_n 3, 1), (35, .iload_n 3, 1), (36, .aload_n 0, 1), (37, .invokevirtual 173, 3), (40, .if_icmp .ge 20, 3), (43, .aload_n 0, 1), (44, .getfield 19, 3), (47, .iload_n 1, 1), (48, .iload_n 3, 1), (49, .invokestatic 194, 3), (52, .iconst 1, 1), (53, .if_icmp .ne 7, 3), (56, .iconst 0, 1), (57, .goto 5, 3), (60, .ldc 105, 2), (62, .iastore, 1), (63, .iinc 3 1, 3), (66, .goto (-43), 3), (69, .aload_n 0, 1), (70, .invokevirtual 242, 3), (73, .aload_n 0, 1), (74, .iload_n 2, 1), (75, .invokevirtual 245, 3), (78, .ireturn, 1)] = true := by decide +kernel
theorem dd_X10_can : dchk cX10_can [(0, .aload_n 0, 1), (1, .iconst 0, 1), (2, .putfield 62, 3), (5, .aload_n 0, 1), (6, .iload_n 1, 1), (7, .invokevirtual 207, 3), (10, .ifCond .eq 15, 3), (13, .iload_n 2, 1), (14, .i2l, 1), (15, .lconst 0, 1), (16, .ldc2_w 234, 3), (19, .invokestatic 72, 3), (22, .ifCond .ne 6, 3), (25, .ldc 82, 2), (27, .ireturn, 1), (28, .iconst 0, 1), (29, .istore_n 3, 1), (30, .iconst 0, 1), (31, .istore 4, 2), (33, .iload 4, 2), (35, .iload_n 2, 1), (36, .if_icmp .gt 62, 3), (39, .aload_n 0, 1), (40, .iload 4, 2), (42, .invokevirtual 236, 3), (45, .iconst 0, 1), (46, .istore 5, 2), (48, .iload 5, 2), (50, .aload_n 0, 1), (51, .invokevirtual 173, 3), (54, .if_icmp .ge 38, 3), (57, .iload_n 3, 1), (58, .aload_n 0, 1), (59, .getfield 34, 3), (62, .iload 5, 2), (64, .baload, 1), (65, .ifCond .eq 18, 3), (68, .iconst 1, 1), (69, .aload_n 0, 1), (70, .getfield 19, 3), (73, .iload_n 1, 1), (74, .iload 5, 2), (76, .invokestatic 194, 3), (79, .ishl, 1), (80, .goto 4, 3), (83, .iconst 0, 1), (84, .ior, 1), (85, .istore_n 3, 1), (86, .iinc 5 1, 3), (89, .goto (-41), 3), (92, .iinc 4 1, 3), (95, .goto (-62), 3), (98, .iload_n 3, 1), (99, .ireturn, 1)] = true := by decide +kernel
theorem dd_X10_nextRow : dchk cX10_nextRow [(0, .iload_n 1, 1), (1, .iconst 2, 1), (2, .isub, 1), (3, .istore_n 2, 1), (4, .iload_n 2, 1), (5, .ifCond .lt 26, 3), (8, .aload_n 0, 1), (9, .getfield 44, 3), (12, .iload_n 2, 1), (13, .iaload, 1), (14, .aload_n 0, 1), (15, .getfield 44, 3), (18, .iload_n 2, 1), (19, .iconst 1, 1), (20, .iadd, 1), (21, .iaload, 1), (22, .if_icmp .le 9, 3), (25, .iinc 2 (-1), 3), (28, .goto (-24), 3), (31, .iload_n 2, 1), (32, .ifCond .ge 5, 3), (35, .iconst 0, 1), (36, .ireturn, 1), (37, .iload_n 1, 1), (38, .iconst 1, 1), (39, .isub, 1), (40, .istore_n 3, 1), (41, .aload_n 0, 1), (42, .getfield 44, 3), (45, .iload_n 3, 1), (46, .iaload, 1), (47, .aload_n 0, 1), (48, .getfield 44, 3), (51, .iload_n 2, 1), (52, .iaload, 1), (53, .if_icmp .ge 9, 3), (56, .iinc 3 (-1), 3), (59, .goto (-18), 3), (62, .aload_n 0, 1), (63, .getfield 44, 3), (66, .iload_n 2, 1), (67, .iaload, 1), (68, .istore 4, 2), (70, .aload_n 0, 1), (71, .getfield 44, 3), (74, .iload_n 2, 1), (75, .aload_n 0, 1), (76, .getfield 44, 3), (79, .iload_n 3, 1), (80, .iaload, 1), (81, .iastore, 1), (82, .aload_n 0, 1), (83, .getfield 44, 3), (86, .iload_n 3, 1), (87, .iload 4, 2), (89, .iastore, 1), (90, .iload_n 2, 1), (91, .iconst 1, 1), (92, .iadd, 1), (93, .istore 5, 2), (95, .iload_n 1, 1), (96, .iconst 1, 1), (97, .isub, 1), (98, .istore 6, 2), (100, .iload 5, 2), (102, .iload 6, 2), (104, .if_icmp .ge 44, 3), (107, .aload_n 0, 1), (108, .getfield 44, 3), (111, .iload 5, 2), (113, .iaload, 1), (114, .istore 4, 2), (116, .aload_n 0, 1), (117, .getfield 44, 3), (120, .iload 5, 2), (122, .aload_n 0, 1), (123, .getfield 44, 3), (126, .iload 6, 2), (128, .iaload, 1), (129, .iastore, 1), (130, .aload_n 0, 1), (131, .getfield 44, 3), (134, .iload 6, 2), (136, .iload 4, 2), (138, .iastore, 1), (139, .iinc 5 1, 3), (142, .iinc 6 (-1), 3), (145, .goto (-45), 3), (148, .iconst 1, 1), (149, .ireturn, 1)] = true := by decide +kernel
theorem dd_X10_tryOrders : dchk cX10_tryOrders [(0, .aload_n 0, 1), (1, .getfield 19, 3), (4, .iconst 0, 1), (5, .invokestatic 222, 3), (8, .istore_n 1, 1), (9, .iconst 0, 1), (10, .istore_n 2, 1), (11, .iconst 0, 1), (12, .istore_n 3, 1), (13, .iload_n 3, 1), (14, .iconst 5, 1), (15, .if_icmp .ge 35, 3), (18, .aload_n 0, 1), (19, .getfield 50, 3), (22, .iload_n 3, 1), (23, .ldc 105, 2), (25, .iastore, 1), (26, .iload_n 1, 1), (27, .iload_n 3, 1), (28, .invokestatic 181, 3), (31, .ifCond .eq 13, 3), (34, .aload_n 0, 1), (35, .getfield 44, 3), (38, .iload_n 2, 1), (39, .iload_n 3, 1), (40, .iastore, 1), (41, .iinc 2 1, 3), (44, .iinc 3 1, 3), (47, .goto (-34), 3), (50, .aload_n 0, 1), (51, .ldc 105, 2), (53, .putfield 248, 3), (56, .iconst 1, 1), (57, .istore_n 3, 1), (58, .iload_n 3, 1), (59, .ifCond .eq 195, 3), (62, .aload_n 0, 1), (63, .invokevirtual 251, 3), (66, .iconst 0, 1), (67, .istore 4, 2), (69, .iconst 0, 1), (70, .istore 5, 2), (72, .iconst 0, 1), (73, .istore 6, 2), (75, .iload 6, 2), (77, .iload_n 2, 1), (78, .if_icmp .ge 57, 3), (81, .aload_n 0, 1), (82, .getfield 25, 3), (85, .aload_n 0, 1), (86, .getfield 44, 3), (89, .iload 6, 2), (91, .iaload, 1), (92, .invokestatic 211, 3), (95, .istore 7, 2), (97, .iload 4, 2), (99, .iload 7, 2), (101, .iconst 1, 1), (102, .if_icmp .ne 7, 3), (105, .iconst 1, 1), (106, .goto 4, 3), (109, .iconst 0, 1), (110, .iadd, 1), (111, .istore 4, 2), (113, .iload 5, 2), (115, .iload 7, 2), (117, .iconst 2, 1), (118, .if_icmp .ne 7, 3), (121, .iconst 1, 1), (122, .goto 4, 3), (125, .iconst 0, 1), (126, .iadd, 1), (127, .istore 5, 2), (129, .iinc 6 1, 3), (132, .goto (-57), 3), (135, .iload_n 2, 1), (136, .ifCond .le 32, 3), (139, .iload 4, 2), (141, .aload_n 0, 1), (142, .getfield 50, 3), (145, .aload_n 0, 1), (146, .getfield 44, 3), (149, .iconst 0, 1), (150, .iaload, 1), (151, .iaload, 1), (152, .if_icmp .le 16, 3), (155, .aload_n 0, 1), (156, .getfield 50, 3), (159, .aload_n 0, 1), (160, .getfield 44, 3), (163, .iconst 0, 1), (164, .iaload, 1), (165, .iload 4, 2), (167, .iastore, 1), (168, .aload_n 0, 1), (169, .getfield 248, 3), (172, .ldc 105, 2), (174, .if_icmp .eq 30, 3), (177, .iload 4, 2), (179, .aload_n 0, 1), (180, .getfield 248, 3), (183, .if_icmp .gt 21, 3), (186, .iload 4, 2), (188, .aload_n 0, 1), (189, .getfield 248, 3), (192, .if_icmp .ne 53, 3), (195, .iload 5, 2), (197, .aload_n 0, 1), (198, .getfield 254, 3), (201, .if_icmp .ge 44, 3), (204, .aload_n 0, 1), (205, .iload 4, 2), (207, .putfield 248, 3), (210, .aload_n 0, 1), (211, .iload 5, 2), (213, .putfield 254, 3), (216, .iconst 0, 1), (217, .istore 6, 2), (219, .iload 6, 2), (221, .iload_n 2, 1), (222, .if_icmp .ge 23, 3), (225, .aload_n 0, 1), (226, .getfield 47, 3), (229, .iload 6, 2), (231, .aload_n 0, 1), (232, .getfield 44, 3), (235, .iload 6, 2), (237, .iaload, 1), (238, .iastore, 1), (239, .iinc 6 1, 3), (242, .goto (-23), 3), (245, .aload_n 0, 1), (246, .iload_n 2, 1), (247, .invokevirtual 257, 3), (250, .istore_n 3, 1), (251, .goto (-193), 3), (254, .iload_n 2, 1), (255, .ireturn, 1)] = true := by decide +kernel
theorem dd_X10_order : dchk cX10_order [(0, .aload_n 0, 1), (1, .iconst 0, 1), (2, .putfield 62, 3), (5, .aload_n 0, 1), (6, .invokevirtual 219, 3), (9, .ifCond .ne 6, 3), (12, .ldc 210, 2), (14, .ireturn, 1), (15, .iload_n 1, 1), (16, .bipush (-2), 2), (18, .if_icmp .ge 6, 3), (21, .ldc 82, 2), (23, .ireturn, 1), (24, .aload_n 0, 1), (25, .invokevirtual 260, 3), (28, .istore_n 2, 1), (29, .iload_n 1, 1), (30, .iconst (-1), 1), (31, .if_icmp .ne 10, 3), (34, .aload_n 0, 1), (35, .getfield 248, 3), (38, .goto 32, 3), (41, .iload_n 1, 1), (42, .bipush (-2), 2), (44, .if_icmp .ne 10, 3), (47, .aload_n 0, 1), (48, .getfield 254, 3), (51, .goto 19, 3), (54, .iload_n 1, 1), (55, .iload_n 2, 1), (56, .if_icmp .ge 12, 3), (59, .aload_n 0, 1), (60, .getfield 47, 3), (63, .iload_n 1, 1), (64, .iaload, 1), (65, .goto 5, 3), (68, .ldc 105, 2), (70, .ireturn, 1)] = true := by decide +kernel
theorem dd_X10_first : dchk cX10_first [(0, .aload_n 0, 1), (1, .iconst 0, 1), (2, .putfield 62, 3), (5, .aload_n 0, 1), (6, .invokevirtual 219, 3), (9, .ifCond .ne 6, 3), (12, .ldc 210, 2), (14, .ireturn, 1), (15, .aload_n 0, 1), (16, .invokevirtual 260, 3), (19, .istore_n 1, 1), (20, .ldc 105, 2), (22, .istore_n 2, 1), (23, .iconst 4, 1), (24, .istore_n 3, 1), (25, .iload_n 3, 1), (26, .ifCond .lt 51, 3), (29, .iload_n 1, 1), (30, .ifCond .le 47, 3), (33, .aload_n 0, 1), (34, .getfield 50, 3), (37, .iload_n 3, 1), (38, .iaload, 1), (39, .ldc 105, 2), (41, .if_icmp .eq 28, 3), (44, .iload_n 2, 1), (45, .ldc 105, 2), (47, .if_icmp .eq 18, 3), (50, .aload_n 0, 1), (51, .getfield 50, 3), (54, .iload_n 3, 1), (55, .iaload, 1), (56, .aload_n 0, 1), (57, .getfield 50, 3), (60, .iload_n 2, 1), (61, .iaload, 1), (62, .if_icmp .lt 7, 3), (65, .iload_n 3, 1), (66, .goto 4, 3), (69, .iload_n 2, 1), (70, .istore_n 2, 1), (71, .iinc 3 (-1), 3), (74, .goto (-49), 3), (77, .iload_n 2, 1), (78, .ireturn, 1)] = true := by decide +kernel
theorem dd_X10_doClash : dchk cX10_doClash [(0, .aload_n 0, 1), (1, .getfield 19, 3), (4, .iload_n 1, 1), (5, .iconst 2, 1), (6, .invokestatic 188, 3), (9, .aload_n 0, 1), (10, .getfield 19, 3), (13, .iload_n 2, 1), (14, .iconst 1, 1), (15, .invokestatic 188, 3), (18, .if_icmp .eq 24, 3), (21, .aload_n 0, 1), (22, .getfield 19, 3), (25, .iload_n 2, 1), (26, .iconst 2, 1), (27, .invokestatic 188, 3), (30, .aload_n 0, 1), (31, .getfield 19, 3), (34, .iload_n 1, 1), (35, .iconst 1, 1), (36, .invokestatic 188, 3), (39, .if_icmp .ne 7, 3), (42, .iconst 1, 1), (43, .goto 4, 3), (46, .iconst 0, 1), (47, .ireturn, 1)] = true := by decide +kernel
theorem dd_X10_clashes : dchk cX10_clashes [(0, .aload_n 0, 1), (1, .iconst 0, 1), (2, .putfield 62, 3), (5, .aload_n 0, 1), (6, .invokevirtual 219, 3), (9, .ifCond .ne 6, 3), (12, .ldc 210, 2), (14, .ireturn, 1), (15, .iload_n 1, 1), (16, .i2l, 1), (17, .lconst 0, 1), (18, .lconst 1, 1), (19, .invokestatic 72, 3), (22, .ifCond .ne 6, 3), (25, .ldc 82, 2), (27, .ireturn, 1), (28, .iconst 0, 1), (29, .istore_n 2, 1), (30, .ldc 105, 2), (32, .istore_n 3, 1), (33, .aload_n 0, 1), (34, .getfield 19, 3), (37, .iconst 4, 1), (38, .iaload, 1), (39, .iconst 1, 1), (40, .isub, 1), (41, .istore 4, 2), (43, .iload 4, 2), (45, .ifCond .lt 75, 3), (48, .aload_n 0, 1), (49, .getfield 19, 3), (52, .iconst 4, 1), (53, .iaload, 1), (54, .iconst 1, 1), (55, .isub, 1), (56, .istore 5, 2), (58, .iload 5, 2), (60, .iload 4, 2), (62, .if_icmp .le 52, 3), (65, .iload_n 2, 1), (66, .aload_n 0, 1), (67, .iload 4, 2), (69, .iload 5, 2), (71, .invokevirtual 263, 3), (74, .ifCond .eq 7, 3), (77, .iconst 1, 1), (78, .goto 4, 3), (81, .iconst 0, 1), (82, .iadd, 1), (83, .istore_n 2, 1), (84, .aload_n 0, 1), (85, .iload 4, 2), (87, .iload 5, 2), (89, .invokevirtual 263, 3), (92, .ifCond .eq 14, 3), (95, .bipush 10, 2), (97, .iload 4, 2), (99, .imul, 1), (100, .iload 5, 2), (102, .iadd, 1), (103, .goto 4, 3), (106, .iload_n 3, 1), (107, .istore_n 3, 1), (108, .iinc 5 (-1), 3), (111, .goto (-53), 3), (114, .iinc 4 (-1), 3), (117, .goto (-74), 3), (120, .iload_n 1, 1), (121, .ifCond .ne 7, 3), (124, .iload_n 2, 1), (125, .goto 4, 3), (128, .iload_n 3, 1), (129, .ireturn, 1)] = true := by decide +kernel
theorem dd_X10_deaf : dchk cX10_deaf [(0, .aload_n 0, 1), (1, .iconst 0, 1), (2, .putfield 62, 3), (5, .aload_n 0, 1), (6, .invokevirtual 219, 3), (9, .ifCond .ne 6, 3), (12, .ldc 210, 2), (14, .ireturn, 1), (15, .iconst 0, 1), (16, .istore_n 1, 1), (17, .iconst 0, 1), (18, .istore_n 2, 1), (19, .iload_n 2, 1), (20, .aload_n 0, 1), (21, .getfield 19, 3), (24, .iconst 3, 1), (25, .iaload, 1), (26, .if_icmp .ge 44, 3), (29, .iload_n 1, 1), (30, .aload_n 0, 1), (31, .getfield 19, 3), (34, .iload_n 2, 1), (35, .aload_n 0, 1), (36, .getfield 19, 3), (39, .bipush 6, 2), (41, .iaload, 1), (42, .invokestatic 191, 3), (45, .aload_n 0, 1), (46, .getfield 19, 3), (49, .bipush 6, 2), (51, .iaload, 1), (52, .if_icmp .ne 9, 3), (55, .iconst 1, 1), (56, .iload_n 2, 1), (57, .ishl, 1), (58, .goto 4, 3), (61, .iconst 0, 1), (62, .ior, 1), (63, .istore_n 1, 1), (64, .iinc 2 1, 3), (67, .goto (-48), 3), (70, .iload_n 1, 1), (71, .ireturn, 1)] = true := by decide +kernel
theorem dd_X10_areSame : dchk cX10_areSame [(0, .iconst 1, 1), (1, .istore_n 3, 1), (2, .iconst 0, 1), (3, .istore 4, 2), (5, .iload 4, 2), (7, .aload_n 0, 1), (8, .invokevirtual 173, 3), (11, .if_icmp .ge 42, 3), (14, .iload_n 3, 1), (15, .ifCond .eq 30, 3), (18, .aload_n 0, 1), (19, .getfield 19, 3), (22, .iload_n 1, 1), (23, .iload 4, 2), (25, .invokestatic 191, 3), (28, .aload_n 0, 1), (29, .getfield 19, 3), (32, .iload_n 2, 1), (33, .iload 4, 2), (35, .invokestatic 191, 3), (38, .if_icmp .ne 7, 3), (41, .iconst 1, 1), (42, .goto 4, 3), (45, .iconst 0, 1), (46, .istore_n 3, 1), (47, .iinc 4 1, 3), (50, .goto (-45), 3), (53, .iload_n 3, 1), (54, .ireturn, 1)] = true := by decide +kernel
theorem dd_X10_same : dchk cX10_same [(0, .aload_n 0, 1), (1, .iconst 0, 1), (2, .putfield 62, 3), (5, .aload_n 0, 1), (6, .invokevirtual 219, 3), (9, .ifCond .ne 6, 3), (12, .ldc 210, 2), (14, .ireturn, 1), (15, .iload_n 1, 1), (16, .i2l, 1), (17, .lconst 0, 1), (18, .lconst 1, 1), (19, .invokestatic 72, 3), (22, .ifCond .ne 6, 3), (25, .ldc 82, 2), (27, .ireturn, 1), (28, .iconst 0, 1), (29, .istore_n 2, 1), (30, .ldc 105, 2), (32, .istore_n 3, 1), (33, .aload_n 0, 1), (34, .getfield 19, 3), (37, .iconst 3, 1), (38, .iaload, 1), (39, .iconst 1, 1), (40, .isub, 1), (41, .istore 4, 2), (43, .iload 4, 2), (45, .ifCond .lt 73, 3), (48, .aload_n 0, 1), (49, .getfield 19, 3), (52, .iconst 3, 1), (53, .iaload, 1), (54, .iconst 1, 1), (55, .isub, 1), (56, .istore 5, 2), (58, .iload 5, 2), (60, .iload 4, 2), (62, .if_icmp .le 50, 3), (65, .aload_n 0, 1), (66, .iload 4, 2), (68, .iload 5, 2), (70, .invokevirtual 266, 3), (73, .istore 6, 2), (75, .iload_n 2, 1), (76, .iload 6, 2), (78, .ifCond .eq 7, 3), (81, .iconst 1, 1), (82, .goto 4, 3), (85, .iconst 0, 1), (86, .iadd, 1), (87, .istore_n 2, 1), (88, .iload 6, 2), (90, .ifCond .eq 14, 3), (93, .bipush 10, 2), (95, .iload 4, 2), (97, .imul, 1), (98, .iload 5, 2), (100, .iadd, 1), (101, .goto 4, 3), (104, .iload_n 3, 1), (105, .istore_n 3, 1), (106, .iinc 5 (-1), 3), (109, .goto (-51), 3), (112, .iinc 4 (-1), 3), (115, .goto (-72), 3), (118, .iload_n 1, 1), (119, .ifCond .ne 7, 3), (122, .iload_n 2, 1), (123, .goto 4, 3), (126, .iload_n 3, 1), (127, .ireturn, 1)] = true := by decide +kernel
theorem dd_X10_isSo : dchk cX10_isSo [(0, .iconst 1, 1), (1, .istore 5, 2), (3, .iload_n 1, 1), (4, .istore 6, 2), (6, .iconst 0, 1), (7, .istore 7, 2), (9, .iload 7, 2), (11, .iload 4, 2), (13, .if_icmp .ge 55, 3), (16, .aload_n 0, 1), (17, .getfield 25, 3), (20, .aload_n 0, 1), (21, .getfield 16, 3), (24, .iload_n 2, 1), (25, .iload 7, 2), (27, .iadd, 1), (28, .iaload, 1), (29, .iload 6, 2), (31, .invokestatic 191, 3), (34, .istore 6, 2), (36, .iload 5, 2), (38, .ifCond .eq 21, 3), (41, .iload 6, 2), (43, .aload_n 0, 1), (44, .getfield 16, 3), (47, .iload_n 3, 1), (48, .iload 7, 2), (50, .iadd, 1), (51, .iaload, 1), (52, .if_icmp .ne 7, 3), (55, .iconst 1, 1), (56, .goto 4, 3), (59, .iconst 0, 1), (60, .istore 5, 2), (62, .iinc 7 1, 3), (65, .goto (-56), 3), (68, .iload 5, 2), (70, .ireturn, 1)] = true := by decide +kernel
theorem dd_X10_who : dchk cX10_who [(0, .aload_n 0, 1), (1, .iconst 0, 1), (2, .putfield 62, 3), (5, .aload_n 0, 1), (6, .iload_n 1, 1), (7, .invokevirtual 201, 3), (10, .ifCond .eq 43, 3), (13, .iload_n 2, 1), (14, .i2l, 1), (15, .lconst 0, 1), (16, .ldc2_w 80, 3), (19, .invokestatic 72, 3), (22, .ifCond .eq 31, 3), (25, .iload_n 3, 1), (26, .invokestatic 76, 3), (29, .ifCond .eq 24, 3), (32, .iload 5, 2), (34, .invokestatic 76, 3), (37, .ifCond .eq 16, 3), (40, .iload 7, 2), (42, .i2l, 1), (43, .lconst 1, 1), (44, .ldc2_w 229, 3), (47, .invokestatic 72, 3), (50, .ifCond .ne 6, 3), (53, .ldc 82, 2), (55, .ireturn, 1), (56, .aload_n 0, 1), (57, .iload_n 3, 1), (58, .iload 4, 2), (60, .iload 7, 2), (62, .invokevirtual 231, 3), (65, .istore 8, 2), (67, .iload 8, 2), (69, .ifCond .ne 16, 3), (72, .aload_n 0, 1), (73, .iload 5, 2), (75, .iload 6, 2), (77, .iload 7, 2), (79, .invokevirtual 225, 3), (82, .goto 5, 3), (85, .iload 8, 2), (87, .istore 8, 2), (89, .iload 8, 2), (91, .ifCond .eq 6, 3), (94, .iload 8, 2), (96, .ireturn, 1), (97, .iconst 0, 1), (98, .istore 9, 2), (100, .iload_n 2, 1), (101, .ifCond .ne 7, 3), (104, .iconst 1, 1), (105, .goto 4, 3), (108, .iconst 0, 1), (109, .istore 10, 2), (111, .iload 10, 2), (113, .iload_n 2, 1), (114, .ifCond .ne 8, 3), (117, .bipush 6, 2), (119, .goto 9, 3), (122, .aload_n 0, 1), (123, .getfield 19, 3), (126, .iconst 0, 1), (127, .iaload, 1), (128, .if_icmp .ge 72, 3), (131, .aload_n 0, 1), (132, .invokevirtual 251, 3), (135, .aload_n 0, 1), (136, .getfield 25, 3), (139, .bipush 8, 2), (141, .iconst 3, 1), (142, .iload_n 1, 1), (143, .imul, 1), (144, .iadd, 1), (145, .iload_n 2, 1), (146, .iadd, 1), (147, .iload 10, 2), (149, .iastore, 1), (150, .iload 9, 2), (152, .aload_n 0, 1), (153, .aload_n 0, 1), (154, .getfield 19, 3), (157, .bipush 6, 2), (159, .iaload, 1), (160, .bipush 40, 2), (162, .iload_n 3, 1), (163, .imul, 1), (164, .iload 4, 2), (166, .iadd, 1), (167, .bipush 40, 2), (169, .iload 5, 2), (171, .imul, 1), (172, .iload 6, 2), (174, .iadd, 1), (175, .iload 7, 2), (177, .invokevirtual 269, 3), (180, .ifCond .eq 10, 3), (183, .iconst 1, 1), (184, .iload 10, 2), (186, .ishl, 1), (187, .goto 4, 3), (190, .iconst 0, 1), (191, .ior, 1), (192, .istore 9, 2), (194, .iinc 10 1, 3), (197, .goto (-86), 3), (200, .iload 9, 2), (202, .ireturn, 1)] = true := by decide +kernel
theorem dd_X10_began : dchk cX10_began [(0, .aload_n 0, 1), (1, .iconst 0, 1), (2, .putfield 62, 3), (5, .aload_n 0, 1), (6, .invokevirtual 219, 3), (9, .ifCond .ne 6, 3), (12, .ldc 210, 2), (14, .ireturn, 1), (15, .iload_n 1, 1), (16, .i2l, 1), (17, .lconst 0, 1), (18, .lconst 1, 1), (19, .invokestatic 72, 3), (22, .ifCond .eq 31, 3), (25, .iload_n 2, 1), (26, .invokestatic 76, 3), (29, .ifCond .eq 24, 3), (32, .iload 4, 2), (34, .invokestatic 76, 3), (37, .ifCond .eq 16, 3), (40, .iload 6, 2), (42, .i2l, 1), (43, .lconst 1, 1), (44, .ldc2_w 229, 3), (47, .invokestatic 72, 3), (50, .ifCond .ne 6, 3), (53, .ldc 82, 2), (55, .ireturn, 1), (56, .aload_n 0, 1), (57, .iload_n 2, 1), (58, .iload_n 3, 1), (59, .iload 6, 2), (61, .invokevirtual 231, 3), (64, .istore 7, 2), (66, .iload 7, 2), (68, .ifCond .ne 16, 3), (71, .aload_n 0, 1), (72, .iload 4, 2), (74, .iload 5, 2), (76, .iload 6, 2), (78, .invokevirtual 225, 3), (81, .goto 5, 3), (84, .iload 7, 2), (86, .istore 7, 2), (88, .iload 7, 2), (90, .ifCond .eq 6, 3), (93, .iload 7, 2), (95, .ireturn, 1), (96, .aload_n 0, 1), (97, .invokevirtual 251, 3), (100, .iconst 0, 1), (101, .istore 8, 2), (103, .ldc 105, 2), (105, .istore 9, 2), (107, .aload_n 0, 1), (108, .invokevirtual 173, 3), (111, .iconst 1, 1), (112, .isub, 1), (113, .istore 10, 2), (115, .iload 10, 2), (117, .ifCond .lt 62, 3), (120, .aload_n 0, 1), (121, .iload 10, 2), (123, .bipush 40, 2), (125, .iload_n 2, 1), (126, .imul, 1), (127, .iload_n 3, 1), (128, .iadd, 1), (129, .bipush 40, 2), (131, .iload 4, 2), (133, .imul, 1), (134, .iload 5, 2), (136, .iadd, 1), (137, .iload 6, 2), (139, .invokevirtual 269, 3), (142, .istore 11, 2), (144, .iload 8, 2), (146, .iload 11, 2), (148, .ifCond .eq 7, 3), (151, .iconst 1, 1), (152, .goto 4, 3), (155, .iconst 0, 1), (156, .iadd, 1), (157, .istore 8, 2), (159, .iload 11, 2), (161, .ifCond .eq 8, 3), (164, .iload 10, 2), (166, .goto 5, 3), (169, .iload 9, 2), (171, .istore 9, 2), (173, .iinc 10 (-1), 3), (176, .goto (-61), 3), (179, .iload_n 1, 1), (180, .ifCond .ne 8, 3), (183, .iload 8, 2), (185, .goto 5, 3), (188, .iload 9, 2), (190, .ireturn, 1)] = true := by decide +kernel
theorem dd_X10_snored : dchk cX10_snored [(0, .aload_n 0, 1), (1, .iconst 0, 1), (2, .putfield 62, 3), (5, .aload_n 0, 1), (6, .invokevirtual 219, 3), (9, .ifCond .ne 6, 3), (12, .ldc 210, 2), (14, .ireturn, 1), (15, .aload_n 0, 1), (16, .iload_n 1, 1), (17, .invokevirtual 239, 3), (20, .ifCond .eq 23, 3), (23, .iload_n 2, 1), (24, .invokestatic 76, 3), (27, .ifCond .eq 16, 3), (30, .iload 4, 2), (32, .i2l, 1), (33, .lconst 1, 1), (34, .ldc2_w 229, 3), (37, .invokestatic 72, 3), (40, .ifCond .ne 6, 3), (43, .ldc 82, 2), (45, .ireturn, 1), (46, .aload_n 0, 1), (47, .iload_n 2, 1), (48, .iload_n 3, 1), (49, .iload 4, 2), (51, .invokevirtual 231, 3), (54, .istore 5, 2), (56, .iload 5, 2), (58, .ifCond .eq 6, 3), (61, .iload 5, 2), (63, .ireturn, 1), (64, .iconst 0, 1), (65, .istore 6, 2), (67, .iconst 0, 1), (68, .istore 7, 2), (70, .iload 7, 2), (72, .iload 4, 2), (74, .if_icmp .gt 103, 3), (77, .aload_n 0, 1), (78, .getfield 19, 3), (81, .bipush 6, 2), (83, .iaload, 1), (84, .istore 8, 2), (86, .iconst 0, 1), (87, .istore 9, 2), (89, .iload 9, 2), (91, .iload 4, 2), (93, .if_icmp .ge 46, 3), (96, .iload 9, 2), (98, .iload 7, 2), (100, .if_icmp .ne 8, 3), (103, .iload 8, 2), (105, .goto 26, 3), (108, .aload_n 0, 1), (109, .getfield 19, 3), (112, .aload_n 0, 1), (113, .getfield 16, 3), (116, .bipush 40, 2), (118, .iload_n 2, 1), (119, .imul, 1), (120, .iload_n 3, 1), (121, .iadd, 1), (122, .iload 9, 2), (124, .iadd, 1), (125, .iaload, 1), (126, .iload 8, 2), (128, .invokestatic 191, 3), (131, .istore 8, 2), (133, .iinc 9 1, 3), (136, .goto (-47), 3), (139, .iload 6, 2), (141, .iload 8, 2), (143, .iload_n 1, 1), (144, .if_icmp .ne 23, 3), (147, .iload 7, 2), (149, .iload 4, 2), (151, .if_icmp .ge 10, 3), (154, .iconst 1, 1), (155, .iload 7, 2), (157, .ishl, 1), (158, .goto 10, 3), (161, .sipush 4096, 3), (164, .goto 4, 3), (167, .iconst 0, 1), (168, .ior, 1), (169, .istore 6, 2), (171, .iinc 7 1, 3), (174, .goto (-104), 3), (177, .iload 6, 2), (179, .ireturn, 1)] = true := by decide +kernel
theorem dd_X10_gone : dchk cX10_gone [(0, .aload_n 0, 1), (1, .iconst 0, 1), (2, .putfield 62, 3), (5, .aload_n 0, 1), (6, .iload_n 1, 1), (7, .invokevirtual 207, 3), (10, .ifCond .eq 25, 3), (13, .iload_n 2, 1), (14, .i2l, 1), (15, .lconst 0, 1), (16, .ldc2_w 273, 3), (19, .invokestatic 72, 3), (22, .ifCond .eq 13, 3), (25, .iload_n 3, 1), (26, .i2l, 1), (27, .lconst 0, 1), (28, .lconst 1, 1), (29, .invokestatic 72, 3), (32, .ifCond .ne 7, 3), (35, .ldc2_w 275, 3), (38, .lreturn, 1), (39, .aload_n 0, 1), (40, .getfield 19, 3), (43, .bipush 6, 2), (45, .iaload, 1), (46, .istore 4, 2), (48, .lconst 0, 1), (49, .lstore 5, 2), (51, .lconst 0, 1), (52, .lstore 7, 2), (54, .iconst 0, 1), (55, .istore 9, 2), (57, .iload 9, 2), (59, .iload 4, 2), (61, .if_icmp .gt 119, 3), (64, .iload 9, 2), (66, .iload 4, 2), (68, .iconst (-1), 1), (69, .ixor, 1), (70, .iand, 1), (71, .ifCond .ne 103, 3), (74, .lconst 1, 1), (75, .lstore 10, 2), (77, .iconst 0, 1), (78, .istore 12, 2), (80, .iload 12, 2), (82, .aload_n 0, 1), (83, .getfield 19, 3), (86, .iconst 0, 1), (87, .iaload, 1), (88, .if_icmp .ge 49, 3), (91, .lload 10, 2), (93, .iload 4, 2), (95, .iload 12, 2), (97, .invokestatic 181, 3), (100, .ifCond .ne 7, 3), (103, .lconst 1, 1), (104, .goto 24, 3), (107, .iload 9, 2), (109, .iload 12, 2), (111, .invokestatic 181, 3), (114, .ifCond .eq 8, 3), (117, .iload_n 2, 1), (118, .i2l, 1), (119, .goto 9, 3), (122, .ldc2_w 273, 3), (125, .iload_n 2, 1), (126, .i2l, 1), (127, .lsub, 1), (128, .lmul, 1), (129, .lstore 10, 2), (131, .iinc 12 1, 3), (134, .goto (-54), 3), (137, .lload 7, 2), (139, .lload 10, 2), (141, .ladd, 1), (142, .lstore 7, 2), (144, .lload 5, 2), (146, .aload_n 0, 1), (147, .getfield 19, 3), (150, .iload_n 1, 1), (151, .iload 4, 2), (153, .iload 9, 2), (155, .iconst (-1), 1), (156, .ixor, 1), (157, .iand, 1), (158, .invokestatic 194, 3), (161, .iconst 1, 1), (162, .if_icmp .ne 8, 3), (165, .lload 10, 2), (167, .goto 4, 3), (170, .lconst 0, 1), (171, .ladd, 1), (172, .lstore 5, 2), (174, .iinc 9 1, 3), (177, .goto (-120), 3), (180, .lload 5, 2), (182, .lstore 9, 2), (184, .lload 7, 2), (186, .lstore 11, 2), (188, .lload 11, 2), (190, .lconst 0, 1), (191, .lcmp, 1), (192, .ifCond .eq 21, 3), (195, .lload 9, 2), (197, .lload 11, 2), (199, .lrem, 1), (200, .lstore 13, 2), (202, .lload 11, 2), (204, .lstore 9, 2), (206, .lload 13, 2), (208, .lstore 11, 2), (210, .goto (-22), 3), (213, .iload_n 3, 1), (214, .ifCond .ne 8, 3), (217, .lload 5, 2), (219, .goto 5, 3), (222, .lload 7, 2), (224, .lload 9, 2), (226, .ldiv, 1), (227, .lreturn, 1)] = true := by decide +kernel
theorem dd_X10_drawn : dchk cX10_drawn [(0, .aload_n 0, 1), (1, .iconst 0, 1), (2, .putfield 62, 3), (5, .aload_n 0, 1), (6, .invokevirtual 219, 3), (9, .ifCond .ne 6, 3), (12, .ldc 210, 2), (14, .ireturn, 1), (15, .iload_n 1, 1), (16, .i2l, 1), (17, .lconst 0, 1), (18, .ldc2_w 277, 3), (21, .invokestatic 72, 3), (24, .ifCond .eq 25, 3), (27, .iload_n 2, 1), (28, .i2l, 1), (29, .lconst 1, 1), (30, .ldc2_w 279, 3), (33, .invokestatic 72, 3), (36, .ifCond .eq 13, 3), (39, .iload_n 3, 1), (40, .i2l, 1), (41, .lconst 0, 1), (42, .lconst 1, 1), (43, .invokestatic 72, 3), (46, .ifCond .ne 6, 3), (49, .ldc 82, 2), (51, .ireturn, 1), (52, .aload_n 0, 1), (53, .invokevirtual 251, 3), (56, .iload_n 2, 1), (57, .i2l, 1), (58, .lstore 4, 2), (60, .iconst 0, 1), (61, .istore 6, 2), (63, .iload 6, 2), (65, .iload_n 1, 1), (66, .if_icmp .ge 113, 3), (69, .lload 4, 2), (71, .ldc2_w 281, 3), (74, .lmul, 1), (75, .ldc2_w 283, 3), (78, .lrem, 1), (79, .lstore 4, 2), (81, .lload 4, 2), (83, .ldc2_w 217, 3), (86, .lrem, 1), (87, .lconst 0, 1), (88, .lcmp, 1), (89, .ifCond .ne 52, 3), (92, .aload_n 0, 1), (93, .getfield 25, 3), (96, .iconst 4, 1), (97, .iaload, 1), (98, .ifCond .le 43, 3), (101, .lload 4, 2), (103, .aload_n 0, 1), (104, .getfield 25, 3), (107, .iconst 4, 1), (108, .iaload, 1), (109, .i2l, 1), (110, .lrem, 1), (111, .l2i, 1), (112, .istore 7, 2), (114, .aload_n 0, 1), (115, .getfield 25, 3), (118, .iload 7, 2), (120, .iconst 3, 1), (121, .invokestatic 188, 3), (124, .ifCond .ne 14, 3), (127, .aload_n 0, 1), (128, .getfield 25, 3), (131, .iload 7, 2), (133, .invokestatic 211, 3), (136, .istore 8, 2), (138, .goto 35, 3), (141, .aload_n 0, 1), (142, .getfield 25, 3), (145, .bipush 6, 2), (147, .aload_n 0, 1), (148, .getfield 25, 3), (151, .lload 4, 2), (153, .aload_n 0, 1), (154, .getfield 25, 3), (157, .iconst 3, 1), (158, .iaload, 1), (159, .i2l, 1), (160, .lrem, 1), (161, .l2i, 1), (162, .aload_n 0, 1), (163, .getfield 25, 3), (166, .bipush 6, 2), (168, .iaload, 1), (169, .invokestatic 191, 3), (172, .iastore, 1), (173, .iinc 6 1, 3), (176, .goto (-113), 3), (179, .iload_n 3, 1), (180, .ifCond .ne 17, 3), (183, .aload_n 0, 1), (184, .getfield 25, 3), (187, .iconst 1, 1), (188, .invokestatic 222, 3), (191, .invokestatic 185, 3), (194, .goto 10, 3), (197, .aload_n 0, 1), (198, .getfield 25, 3), (201, .bipush 6, 2), (203, .iaload, 1), (204, .ireturn, 1)] = true := by decide +kernel
theorem dd_X10_image : dchk cX10_image [(0, .aload_n 0, 1), (1, .iconst 0, 1), (2, .putfield 62, 3), (5, .iload_n 1, 1), (6, .i2l, 1), (7, .lconst 0, 1), (8, .lconst 1, 1), (9, .invokestatic 72, 3), (12, .ifCond .ne 6, 3), (15, .ldc 82, 2), (17, .ireturn, 1), (18, .aload_n 0, 1), (19, .invokevirtual 219, 3), (22, .ifCond .ne 6, 3), (25, .ldc 210, 2), (27, .ireturn, 1), (28, .iconst 0, 1), (29, .istore_n 2, 1), (30, .iload_n 2, 1), (31, .bipush 46, 2), (33, .if_icmp .ge 26, 3), (36, .aload_n 0, 1), (37, .getfield 56, 3), (40, .bipush 46, 2), (42, .iload_n 1, 1), (43, .imul, 1), (44, .iload_n 2, 1), (45, .iadd, 1), (46, .aload_n 0, 1), (47, .getfield 19, 3), (50, .iload_n 2, 1), (51, .iaload, 1), (52, .iastore, 1), (53, .iinc 2 1, 3), (56, .goto (-26), 3), (59, .aload_n 0, 1), (60, .getfield 53, 3), (63, .iload_n 1, 1), (64, .iconst 1, 1), (65, .bastore, 1), (66, .iconst 1, 1), (67, .ireturn, 1)] = true := by decide +kernel
theorem dd_X10_restore : dchk cX10_restore [(0, .aload_n 0, 1), (1, .iconst 0, 1), (2, .putfield 62, 3), (5, .iload_n 1, 1), (6, .i2l, 1), (7, .lconst 0, 1), (8, .lconst 1, 1), (9, .invokestatic 72, 3), (12, .ifCond .ne 6, 3), (15, .ldc 82, 2), (17, .ireturn, 1), (18, .aload_n 0, 1), (19, .getfield 53, 3), (22, .iload_n 1, 1), (23, .baload, 1), (24, .ifCond .ne 6, 3), (27, .ldc 210, 2), (29, .ireturn, 1), (30, .iconst 0, 1), (31, .istore_n 2, 1), (32, .iload_n 2, 1), (33, .bipush 46, 2), (35, .if_icmp .ge 26, 3), (38, .aload_n 0, 1), (39, .getfield 19, 3), (42, .iload_n 2, 1), (43, .aload_n 0, 1), (44, .getfield 56, 3), (47, .bipush 46, 2), (49, .iload_n 1, 1), (50, .imul, 1), (51, .iload_n 2, 1), (52, .iadd, 1), (53, .iaload, 1), (54, .iastore, 1), (55, .iinc 2 1, 3), (58, .goto (-26), 3), (61, .aload_n 0, 1), (62, .iconst 0, 1), (63, .putfield 170, 3), (66, .iconst 1, 1), (67, .ireturn, 1)] = true := by decide +kernel
theorem dd_X10_isOf : dchk cX10_isOf [(0, .iload_n 1, 1), (1, .ifCond .eq 28, 3), (4, .iload_n 0, 1), (5, .iload_n 1, 1), (6, .if_icmp .eq 23, 3), (9, .iload_n 1, 1), (10, .iconst 1, 1), (11, .if_icmp .ne 8, 3), (14, .iload_n 0, 1), (15, .iconst 4, 1), (16, .if_icmp .lt 13, 3), (19, .iload_n 1, 1), (20, .iconst 4, 1), (21, .if_icmp .ne 12, 3), (24, .iload_n 0, 1), (25, .iconst 5, 1), (26, .if_icmp .ne 7, 3), (29, .iconst 1, 1), (30, .goto 4, 3), (33, .iconst 0, 1), (34, .ireturn, 1)] = true := by decide +kernel
theorem dd_X10_kind : dchk cX10_kind [(0, .aload_n 0, 1), (1, .iconst 0, 1), (2, .putfield 62, 3), (5, .aload_n 0, 1), (6, .iload_n 1, 1), (7, .invokevirtual 201, 3), (10, .ifCond .eq 15, 3), (13, .aload_n 0, 1), (14, .getfield 19, 3), (17, .iload_n 1, 1), (18, .iconst 0, 1), (19, .invokestatic 177, 3), (22, .goto 5, 3), (25, .ldc 82, 2), (27, .ireturn, 1)] = true := by decide +kernel
theorem dd_X10_as : dchk cX10_as [(0, .aload_n 0, 1), (1, .iconst 0, 1), (2, .putfield 62, 3), (5, .aload_n 0, 1), (6, .iload_n 1, 1), (7, .invokevirtual 201, 3), (10, .ifCond .eq 15, 3), (13, .iload_n 2, 1), (14, .i2l, 1), (15, .lconst 0, 1), (16, .ldc2_w 285, 3), (19, .invokestatic 72, 3), (22, .ifCond .ne 6, 3), (25, .ldc 82, 2), (27, .ireturn, 1), (28, .aload_n 0, 1), (29, .iconst 0, 1), (30, .putfield 66, 3), (33, .aload_n 0, 1), (34, .getfield 19, 3), (37, .iload_n 1, 1), (38, .iconst 0, 1), (39, .invokestatic 177, 3), (42, .iload_n 2, 1), (43, .invokestatic 287, 3), (46, .ifCond .eq 7, 3), (49, .iload_n 1, 1), (50, .goto 8, 3), (53, .aload_n 0, 1), (54, .iconst 3, 1), (55, .invokevirtual 83, 3), (58, .ireturn, 1)] = true := by decide +kernel
theorem dd_X10_began0 : dchk cX10_began0 [(0, .aload_n 0, 1), (1, .getfield 290, 3), (4, .bipush 16, 2), (6, .if_icmp .ge 23, 3), (9, .aload_n 0, 1), (10, .getfield 59, 3), (13, .aload_n 0, 1), (14, .getfield 290, 3), (17, .iload_n 1, 1), (18, .iastore, 1), (19, .aload_n 0, 1), (20, .dup, 1), (21, .getfield 290, 3), (24, .iconst 1, 1), (25, .iadd, 1), (26, .putfield 290, 3), (29, .return_, 1)] = true := by decide +kernel
theorem dd_X10_plainSize : dchk cX10_plainSize [(0, .aload_n 0, 1), (1, .bipush 10, 2), (3, .invokevirtual 293, 3), (6, .aload_n 0, 1), (7, .getfield 19, 3), (10, .iload_n 1, 1), (11, .iconst 1, 1), (12, .invokestatic 177, 3), (15, .ireturn, 1)] = true := by decide +kernel
theorem dd_X10_rainSize : dchk cX10_rainSize [(0, .aload_n 0, 1), (1, .getfield 19, 3), (4, .iload_n 1, 1), (5, .iconst 0, 1), (6, .invokestatic 177, 3), (9, .iconst 5, 1), (10, .if_icmp .ne 7, 3), (13, .iconst 1, 1), (14, .goto 4, 3), (17, .iconst 0, 1), (18, .istore_n 2, 1), (19, .iload_n 2, 1), (20, .ifCond .eq 9, 3), (23, .aload_n 0, 1), (24, .bipush 14, 2), (26, .invokevirtual 293, 3), (29, .aload_n 0, 1), (30, .bipush 13, 2), (32, .invokevirtual 293, 3), (35, .aload_n 0, 1), (36, .iload_n 1, 1), (37, .invokevirtual 296, 3), (40, .bipush 100, 2), (42, .isub, 1), (43, .istore_n 3, 1), (44, .iload_n 2, 1), (45, .ifCond .eq 9, 3), (48, .iconst 2, 1), (49, .iload_n 3, 1), (50, .imul, 1), (51, .goto 4, 3), (54, .iload_n 3, 1), (55, .ireturn, 1)] = true := by decide +kernel
theorem dd_X10_markOf : dchk cX10_markOf [(0, .aload_n 0, 1), (1, .getfield 19, 3), (4, .iload_n 1, 1), (5, .iconst 0, 1), (6, .invokestatic 177, 3), (9, .istore_n 2, 1), (10, .iload_n 2, 1), (11, .iconst 4, 1), (12, .if_icmp .lt 23, 3), (15, .aload_n 0, 1), (16, .bipush 23, 2), (18, .invokevirtual 293, 3), (21, .aload_n 0, 1), (22, .bipush 20, 2), (24, .invokevirtual 293, 3), (27, .iload_n 1, 1), (28, .aload_n 0, 1), (29, .iload_n 1, 1), (30, .invokevirtual 299, 3), (33, .isub, 1), (34, .ireturn, 1), (35, .iload_n 2, 1), (36, .iconst 1, 1), (37, .if_icmp .eq 19, 3), (40, .aload_n 0, 1), (41, .iload_n 2, 1), (42, .iconst 3, 1), (43, .if_icmp .ne 8, 3), (46, .bipush 22, 2), (48, .goto 5, 3), (51, .bipush 24, 2), (53, .invokevirtual 293, 3), (56, .aload_n 0, 1), (57, .bipush 21, 2), (59, .invokevirtual 293, 3), (62, .aload_n 0, 1), (63, .bipush 20, 2), (65, .invokevirtual 293, 3), (68, .iload_n 1, 1), (69, .aload_n 0, 1), (70, .getfield 19, 3), (73, .bipush 6, 2), (75, .iaload, 1), (76, .invokestatic 185, 3), (79, .iadd, 1), (80, .istore_n 3, 1), (81, .iload_n 2, 1), (82, .iconst 1, 1), (83, .if_icmp .ne 7, 3), (86, .iload_n 3, 1), (87, .goto 19, 3), (90, .iload_n 2, 1), (91, .iconst 3, 1), (92, .if_icmp .ne 11, 3), (95, .iload_n 3, 1), (96, .sipush 1000, 3), (99, .isub, 1), (100, .goto 6, 3), (103, .iconst 2, 1), (104, .iload_n 3, 1), (105, .imul, 1), (106, .ireturn, 1)] = true := by decide +kernel
theorem dd_X10_sizeOf : dchk cX10_sizeOf [(0, .aload_n 0, 1), (1, .getfield 19, 3), (4, .iload_n 1, 1), (5, .iconst 0, 1), (6, .invokestatic 177, 3), (9, .istore_n 2, 1), (10, .iload_n 2, 1), (11, .iconst 4, 1), (12, .if_icmp .lt 9, 3), (15, .aload_n 0, 1), (16, .iload_n 1, 1), (17, .invokevirtual 299, 3), (20, .ireturn, 1), (21, .iload_n 2, 1), (22, .iconst 2, 1), (23, .if_icmp .ne 9, 3), (26, .aload_n 0, 1), (27, .bipush 12, 2), (29, .invokevirtual 293, 3), (32, .aload_n 0, 1), (33, .bipush 11, 2), (35, .invokevirtual 293, 3), (38, .aload_n 0, 1), (39, .iload_n 1, 1), (40, .invokevirtual 296, 3), (43, .istore_n 3, 1), (44, .iload_n 3, 1), (45, .aload_n 0, 1), (46, .iload_n 1, 1), (47, .invokevirtual 302, 3), (50, .iadd, 1), (51, .istore_n 3, 1), (52, .iload_n 2, 1), (53, .iconst 2, 1), (54, .if_icmp .ne 8, 3), (57, .iload_n 3, 1), (58, .ineg, 1), (59, .goto 4, 3), (62, .iload_n 3, 1), (63, .ireturn, 1)] = true := by decide +kernel
theorem dd_X10_ask : dchk cX10_ask [(0, .aload_n 0, 1), (1, .iconst 0, 1), (2, .putfield 62, 3), (5, .aload_n 0, 1), (6, .iload_n 1, 1), (7, .invokevirtual 201, 3), (10, .ifCond .eq 13, 3), (13, .iload_n 2, 1), (14, .i2l, 1), (15, .lconst 0, 1), (16, .lconst 1, 1), (17, .invokestatic 72, 3), (20, .ifCond .ne 6, 3), (23, .ldc 82, 2), (25, .ireturn, 1), (26, .aload_n 0, 1), (27, .iconst 0, 1), (28, .putfield 290, 3), (31, .iload_n 2, 1), (32, .ifCond .ne 11, 3), (35, .aload_n 0, 1), (36, .iload_n 1, 1), (37, .invokevirtual 305, 3), (40, .goto 8, 3), (43, .aload_n 0, 1), (44, .iload_n 1, 1), (45, .invokevirtual 302, 3), (48, .ireturn, 1)] = true := by decide +kernel
theorem dd_X10_trace : dchk cX10_trace [(0, .aload_n 0, 1), (1, .iconst 0, 1), (2, .putfield 62, 3), (5, .iload_n 1, 1), (6, .i2l, 1), (7, .lconst 0, 1), (8, .aload_n 0, 1), (9, .getfield 290, 3), (12, .iconst 1, 1), (13, .isub, 1), (14, .i2l, 1), (15, .invokestatic 72, 3), (18, .ifCond .eq 12, 3), (21, .aload_n 0, 1), (22, .getfield 59, 3), (25, .iload_n 1, 1), (26, .iaload, 1), (27, .goto 5, 3), (30, .ldc 105, 2), (32, .ireturn, 1)] = true := by decide +kernel
theorem dd_X10_count : dchk cX10_count [(0, .aload_n 0, 1), (1, .iconst 0, 1), (2, .putfield 62, 3), (5, .iconst 0, 1), (6, .istore_n 2, 1), (7, .iload_n 1, 1), (8, .tableswitch 127 0 7 #[48, 81, 88, 95, 102, 109, 117, 122], 48), (56, .iconst 0, 1), (57, .istore_n 3, 1), (58, .iload_n 3, 1), (59, .bipush 8, 2), (61, .if_icmp .ge 26, 3), (64, .iload_n 2, 1), (65, .aload_n 0, 1), (66, .getfield 7, 3), (69, .iload_n 3, 1), (70, .iaload, 1), (71, .ifCond .lt 7, 3), (74, .iconst 1, 1), (75, .goto 4, 3), (78, .iconst 0, 1), (79, .iadd, 1), (80, .istore_n 2, 1), (81, .iinc 3 1, 3), (84, .goto (-26), 3), (87, .iload_n 2, 1), (88, .ireturn, 1), (89, .aload_n 0, 1), (90, .getfield 19, 3), (93, .iconst 0, 1), (94, .iaload, 1), (95, .ireturn, 1), (96, .aload_n 0, 1), (97, .getfield 19, 3), (100, .iconst 3, 1), (101, .iaload, 1), (102, .ireturn, 1), (103, .aload_n 0, 1), (104, .getfield 19, 3), (107, .iconst 4, 1), (108, .iaload, 1), (109, .ireturn, 1), (110, .aload_n 0, 1), (111, .getfield 19, 3), (114, .iconst 5, 1), (115, .iaload, 1), (116, .ireturn, 1), (117, .aload_n 0, 1), (118, .getfield 19, 3), (121, .bipush 6, 2), (123, .iaload, 1), (124, .ireturn, 1), (125, .aload_n 0, 1), (126, .getfield 170, 3), (129, .ireturn, 1), (130, .aload_n 0, 1), (131, .getfield 89, 3), (134, .ireturn, 1), (135, .ldc 82, 2), (137, .ireturn, 1)] = true := by decide +kernel
theorem dd_X10_status : dchk cX10_status [(0, .aload_n 0, 1), (1, .iconst 0, 1), (2, .putfield 62, 3), (5, .aload_n 0, 1), (6, .getfield 66, 3), (9, .ireturn, 1)] = true := by decide +kernel
theorem dd_J6_bitCount_0f7a4 : dchk cJ6_bitCount_0f7a4 [(0, .iload_n 0, 1), (1, .iload_n 0, 1), (2, .iconst 1, 1), (3, .iushr, 1), (4, .ldc_w 265, 3), (7, .iand, 1), (8, .isub, 1), (9, .istore_n 0, 1), (10, .iload_n 0, 1), (11, .ldc_w 266, 3), (14, .iand, 1), (15, .iload_n 0, 1), (16, .iconst 2, 1), (17, .iushr, 1), (18, .ldc_w 266, 3), (21, .iand, 1), (22, .iadd, 1), (23, .istore_n 0, 1), (24, .iload_n 0, 1), (25, .iload_n 0, 1), (26, .iconst 4, 1), (27, .iushr, 1), (28, .iadd, 1), (29, .ldc_w 267, 3), (32, .iand, 1), (33, .istore_n 0, 1), (34, .iload_n 0, 1), (35, .iload_n 0, 1), (36, .bipush 8, 2), (38, .iushr, 1), (39, .iadd, 1), (40, .istore_n 0, 1), (41, .iload_n 0, 1), (42, .iload_n 0, 1), (43, .bipush 16, 2), (45, .iushr, 1), (46, .iadd, 1), (47, .istore_n 0, 1), (48, .iload_n 0, 1), (49, .bipush 63, 2), (51, .iand, 1), (52, .ireturn, 1)] = true := by decide +kernel
theorem dd_J9_max_7cf53 : dchk cJ9_max_7cf53 [(0, .iload_n 0, 1), (1, .iload_n 1, 1), (2, .if_icmp .lt 7, 3), (5, .iload_n 0, 1), (6, .goto 4, 3), (9, .iload_n 1, 1), (10, .ireturn, 1)] = true := by decide +kernel
theorem dd_J9_min_7cf53 : dchk cJ9_min_7cf53 [(0, .iload_n 0, 1), (1, .iload_n 1, 1), (2, .if_icmp .gt 7, 3), (5, .iload_n 0, 1), (6, .goto 4, 3), (9, .iload_n 1, 1), (10, .ireturn, 1)] = true := by decide +kernel
theorem dd_J7_fill_53178 : dchk cJ7_fill_53178 [(0, .iconst 0, 1), (1, .istore_n 2, 1), (2, .aload_n 0, 1), (3, .arraylength, 1), (4, .istore_n 3, 1), (5, .iload_n 2, 1), (6, .iload_n 3, 1), (7, .if_icmp .ge 13, 3), (10, .aload_n 0, 1), (11, .iload_n 2, 1), (12, .iload_n 1, 1), (13, .iastore, 1), (14, .iinc 2 1, 3), (17, .goto (-12), 3), (20, .return_, 1)] = true := by decide +kernel
end
section
/-! ===== the world: cells in a fixed shape, numbers in a memory ===== -/
abbrev Vl : Type := Int32 ⊕ Int64 ⊕ Nat
abbrev Mem : Type := Nat → Nat → Int32
abbrev vI (x : Int32) : Vl := .inl x
abbrev vL (x : Int64) : Vl := .inr (.inl x)
abbrev vR (j : Nat) : Vl := .inr (.inr j)
/-- class ids, slots, addresses of cells, array classes (0 int, 1 boolean, 2 Court, 3 int rows) -/
abbrev En : Type := (Nat → ClassId) × (Nat → Nat → Nat) × (Nat → Nat) × (Nat → ClassId)
def dv (E : En) : Vl → Value
  | .inl x => .int x
  | .inr (.inl x) => .long x
  | .inr (.inr j) => .ref (E.2.2.1 j)
/-- an object: its class's number, its fields (none: an int; some j: the cell j); an array: its kind, its length, the cells -/
abbrev Sd : Type := (Nat × List (Option Nat)) ⊕ (Nat × Nat × List Nat)
def coSh (b : Nat) : List Sd := [.inl (2, [none, none, none, none, none, none, none, none, some (b + 1), some (b + 2), some (b + 3), some (b + 4), some (b + 5), some (b + 6), some (b + 7)]), .inr (0, 6, []), .inr (0, 6, []), .inr (0, 6, []), .inr (0, 5, []), .inr (0, 5, []), .inr (0, 5, []), .inr (0, 5, [])]
def Sh : List Sd := [
  .inl (9, [some 1, some 13, some 15, some 23, some 31, some 32, some 34, some 51, some 58, some 62, some 65, none, none]),
  .inl (5, [some 2, some 11, some 12]), .inr (3, 8, [3, 4, 5, 6, 7, 8, 9, 10]),
  .inr (0, 40, []), .inr (0, 40, []), .inr (0, 40, []), .inr (0, 40, []), .inr (0, 40, []), .inr (0, 40, []), .inr (0, 40, []), .inr (0, 40, []),
  .inr (0, 8, []), .inr (0, 8, []),
  .inl (6, [some 14, none]), .inr (0, 120, []),
  .inl (2, [none, none, none, none, none, none, none, none, some 16, some 17, some 18, some 19, some 20, some 21, some 22]), .inr (0, 6, []), .inr (0, 6, []), .inr (0, 6, []), .inr (0, 5, []), .inr (0, 5, []), .inr (0, 5, []), .inr (0, 5, []),
  .inl (2, [none, none, none, none, none, none, none, none, some 24, some 25, some 26, some 27, some 28, some 29, some 30]), .inr (0, 6, []), .inr (0, 6, []), .inr (0, 6, []), .inr (0, 5, []), .inr (0, 5, []), .inr (0, 5, []), .inr (0, 5, []),
  .inl (4, [some 13, some 23, none, none]),
  .inl (0, [some 33, none, none]), .inr (0, 336, []),
  .inr (2, 2, [35, 43]),
  .inl (2, [none, none, none, none, none, none, none, none, some 36, some 37, some 38, some 39, some 40, some 41, some 42]), .inr (0, 6, []), .inr (0, 6, []), .inr (0, 6, []), .inr (0, 5, []), .inr (0, 5, []), .inr (0, 5, []), .inr (0, 5, []),
  .inl (2, [none, none, none, none, none, none, none, none, some 44, some 45, some 46, some 47, some 48, some 49, some 50]), .inr (0, 6, []), .inr (0, 6, []), .inr (0, 6, []), .inr (0, 5, []), .inr (0, 5, []), .inr (0, 5, []), .inr (0, 5, []),
  .inl (8, [some 15, some 52, some 53, some 54, some 55, some 56, some 57, none]), .inr (0, 256, []), .inr (0, 256, []), .inr (0, 256, []), .inr (0, 256, []), .inr (0, 256, []), .inr (0, 256, []),
  .inl (3, [some 15, some 59, some 60, some 61, none, none, none]), .inr (0, 5, []), .inr (0, 5, []), .inr (0, 5, []),
  .inl (7, [some 15, some 63, some 64, none]), .inr (0, 12, []), .inr (0, 12, []),
  .inl (1, [some 15, some 66, none]), .inr (0, 16, []),
  .inl (10, [none, none, some 68, some 69, some 70, some 71, some 72, some 73, some 74, none, some 75, none, none, none, none, none, none, none, none, some 76, some 77, some 78, some 79, some 80, none, none, some 81, some 82, some 83, some 84, none]),
  .inr (0, 8, []), .inr (0, 8, []), .inr (0, 320, []), .inr (0, 46, []), .inr (0, 46, []), .inr (0, 46, []), .inr (0, 1104, []), .inr (0, 120, []), .inr (1, 256, []), .inr (1, 256, []), .inr (0, 256, []), .inr (0, 5, []), .inr (0, 5, []), .inr (0, 5, []), .inr (1, 2, []), .inr (0, 92, []), .inr (0, 16, [])]
def fdv (E : En) (μ : Mem) (j k : Nat) : Option Nat → Value
  | none => .int (μ j k)
  | some r => .ref (E.2.2.1 r)
def ent (E : En) (μ : Mem) (j : Nat) : Sd → va_E
  | .inl (ci, fds) => .inr (ci, fds.mapIdx (fun k o => fdv E μ j k o))
  | .inr (t, n, rs) => .inl (E.2.2.2 t, n, if t ≤ 1 then .inl (μ j) else .inr (.inr (.inr (.inr (fun i => (rs[i]?).map E.2.2.1)))))
def cells (E : En) (μ : Mem) : va_W := Sh.mapIdx (fun j d => (E.2.2.1 j, ent E μ j d))
theorem cells_at {E : En} {μ : Mem} {j : Nat} {d : Sd} (h : Sh[j]? = some d) : (cells E μ)[j]? = some (E.2.2.1 j, ent E μ j d) := by
  unfold cells; rw [List.getElem?_mapIdx, h]; rfl
theorem Sh_len : Sh.length = 85 := by decide +kernel
theorem cells_of {E : En} {μ : Mem} {j : Nat} {q : Nat × va_E} (h : (cells E μ)[j]? = some q) : j < 85 ∧ q.1 = E.2.2.1 j := by
  unfold cells at h
  rw [List.getElem?_mapIdx] at h
  cases hd : Sh[j]? with
  | none => rw [hd] at h; cases h
  | some d =>
    rw [hd] at h; cases h
    exact ⟨by rw [← Sh_len]; exact (List.getElem?_eq_some_iff.mp hd).1, rfl⟩
def Ad (E : En) : Nat → Prop := fun q => ∃ j, j < 85 ∧ q = E.2.2.1 j
def Inj (E : En) : Prop := ∀ i j, i < 85 → j < 85 → E.2.2.1 i = E.2.2.1 j → i = j
theorem cells_D {E : En} (hi : Inj E) (μ : Mem) : va_D (Ad E) (cells E μ) := by
  refine ⟨fun i j p q hp hq h => ?_, fun k q hq => ?_⟩
  · obtain ⟨h1, h2⟩ := cells_of hp
    obtain ⟨h3, h4⟩ := cells_of hq
    exact hi i j h1 h3 (by rw [← h2, ← h4, h])
  · obtain ⟨h1, h2⟩ := cells_of hq
    exact ⟨k, h1, h2⟩
abbrev tysE (E : En) : List (ClassId × FieldType) := [(E.2.2.2 0, .int), (E.2.2.2 1, .boolean), (E.2.2.2 2, .object "SleepingJudge$Court"), (E.2.2.2 3, .array .int)]
/-- one cell's numbers are others -/
def setc (μ : Mem) (j : Nat) (f : Nat → Int32) : Mem := fun a => if a = j then f else μ a
theorem setc_s {μ : Mem} {j : Nat} {f : Nat → Int32} : setc μ j f j = f := if_pos rfl
theorem setc_n {μ : Mem} {i j : Nat} {f : Nat → Int32} (h : i ≠ j) : setc μ j f i = μ i := if_neg h
theorem ent_n {E : En} {μ : Mem} {i j : Nat} {f : Nat → Int32} (h : i ≠ j) (d : Sd) : ent E (setc μ j f) i d = ent E μ i d := by
  rcases d with ⟨ci, fds⟩ | ⟨t, n, rs⟩
  · show Sum.inr _ = Sum.inr _
    congr 3
    funext k o
    cases o with
    | none => show Value.int (setc μ j f i k) = _; rw [setc_n h]; rfl
    | some r => rfl
  · show Sum.inl _ = Sum.inl _
    rw [setc_n h]
theorem cells_set {E : En} {μ : Mem} {j : Nat} {f : Nat → Int32} {d : Sd} (hs : Sh[j]? = some d) {e : va_E} (he : e = ent E (setc μ j f) j d) : (cells E μ).set j (E.2.2.1 j, e) = cells E (setc μ j f) := by
  apply List.ext_getElem?
  intro i
  by_cases h : i = j
  · subst h
    rw [List.getElem?_set_self (by unfold cells; rw [List.length_mapIdx]; exact (List.getElem?_eq_some_iff.mp hs).1), cells_at hs, he]
  · rw [List.getElem?_set_ne (Ne.symm h)]
    unfold cells
    rw [List.getElem?_mapIdx, List.getElem?_mapIdx]
    cases Sh[i]? with
    | none => rfl
    | some d => show some (E.2.2.1 i, ent E μ i d) = some (E.2.2.1 i, ent E (setc μ j f) i d); rw [ent_n h]
/-- the two static rows -/
def szB (k : Nat) : Int32 := match k with | 0 => 10 | 1 => 11 | 2 => 12 | 3 => 11 | 4 => 13 | _ => 14
def mkB (k : Nat) : Int32 := match k with | 0 => 20 | 1 => 21 | 2 => 24 | 3 => 22 | 4 => 23 | _ => 23
def Stat (E : En) (U : State) (H : Heap) : Prop :=
  (va_Z "SleepingJudge$Asking" "SIZE_BODIES" "[I" (.ref (E.2.2.1 85)) (Ad E) U H ∧ va_T .int (E.2.2.1 85) 6 (fun j => .int (szB j)) (Ad E) U H) ∧
  (va_Z "SleepingJudge$Asking" "MARK_BODIES" "[I" (.ref (E.2.2.1 86)) (Ad E) U H ∧ va_T .int (E.2.2.1 86) 6 (fun j => .int (mkB j)) (Ad E) U H)
theorem Stat.moved {E : En} {u U : State} {H : Heap} (hvm : u.vm.Alike U.vm) (h : Stat E u H) : Stat E U H :=
  ⟨⟨h.1.1.moved hvm, h.1.2.moved hvm⟩, ⟨h.2.1.moved hvm, h.2.2.moved hvm⟩⟩
theorem Stat.kept {E : En} {U : State} {H H1 : Heap} (h : Stat E U H) (hq : ∀ a : Nat, a < H.size → ¬ Ad E a → H1[a]? = H[a]?) : Stat E U H1 :=
  ⟨⟨h.1.1.kept hq, h.1.2.kept hq⟩, ⟨h.2.1.kept hq, h.2.2.kept hq⟩⟩
/-- the one call of a nest mate's private method -/
def NwP (U : State) : Prop := va_Nw (Cond.methodLinkNest RX2 108 yX9_power "SleepingJudge") U
def Wo (E : En) (μ : Mem) (U : State) : Prop := va_P (E.1, E.2.1) classes (cells E μ) U.heap ∧ va_K (E.1, E.2.1) classes (tysE E) U ∧ Inj E ∧ Stat E U U.heap ∧ NwP U
theorem Wo.at {E : En} {μ : Mem} {s U : State} {H : Heap} (hU : U.heap = H) (hP : va_P (E.1, E.2.1) classes (cells E μ) H) (hK : va_K (E.1, E.2.1) classes (tysE E) s) (hi : Inj E) (hs : Stat E s s.heap) (hn : NwP s) {locs : List Loc} (hS : va_S (Ad E) s.heap H locs) (hW : s.WarmedH U.vm) : Wo E μ U := by
  subst hU
  exact ⟨hP, hK.moved hW.alike, hi, (hs.kept hS.2.1).moved hW.alike, va_Nw.warmM hW hn⟩
theorem Wo.blind {E : En} {μ : Mem} {as : List Value} : FrameBlind (va_Pc as (Wo E μ)) := fun a U g mk q => by
  obtain ⟨q0, qP, qK, qi, qs, qn⟩ := q
  exact ⟨q0, qP, va_K.moved (u := U) (U := U.calling g mk a) (Vm.Alike.refl U.vm) qK, qi, Stat.moved (u := U) (U := U.calling g mk a) (Vm.Alike.refl U.vm) qs, va_Nw.same (u := U) (U := U.calling g mk a) rfl rfl qn⟩
/-- what a call leaves: the answer, the world, nothing else written -/
def QQ (E : En) (r : Option Vl) (μ' : Mem) : Array Value → State → Outcome → State → Prop := fun _ st oc t => oc = .returned (r.map (dv E)) ∧ Wo E μ' t ∧ va_F (Ad E) st t
def rmD (d : Nat) : Room := { frames := d + 1, cells := 0, slots := 0, locals := 256 * (d + 1) }
/-- method y, called with as in the memory μ, answers r and leaves μ' -/
def Ct (y : MethodName) (b : ByteArray) (n : Nat) (ret : Option FieldType) (d : Nat) (as : List Vl) (μ : Mem) (r : Option Vl) (μ' : Mem) : Prop :=
  ∀ (l : Launch) (E : En), Met l y (Cond.code y b n ret :: gw_tbl) (rmD d) (va_Pc (as.map (dv E)) (Wo E μ)) (QQ E r μ') 0 0 (Ad E)
/-! ===== the walk ===== -/
abbrev Cx : Type := Program × Launch × Env × Room × State × MethodId × Array Value × List Frame × Method × Code × (State → Prop) × (Nat × Nat) × En
def dl (E : En) (lv : List (Nat × Vl)) : List (Nat × Value) := lv.map (fun q => (q.1, dv E q.2))
def V (C : Cx) (pc : Nat) (lv : List (Nat × Vl)) (st : List Vl) (μ : Mem) : Prop :=
  match C with
  | (p, l, e, R, s, m, args, below, meth, c, Q, kn, E) => ∀ (H : Heap) (locs : List Loc) (ls : Array Slot), va_P (E.1, E.2.1) classes (cells E μ) H → va_S (Ad E) s.heap H locs → lv_has ls c.maxLocals (dl E lv) → W p l e R s m args below meth c H locs kn.1 kn.2 Q (F0 m pc ls (st.map (dv E)))
def G (C : Cx) (own : String) (b : ByteArray) (nL d : Nat) : Prop :=
  match C with
  | (p, _, _, R, s, m, args, _, meth, c, _, kn, E) => p.tables.exec = Jvm.exec ∧ c.code = b ∧ c.maxLocals = nL ∧ s.vm.findClass own = some m.cls ∧ (∀ w ∈ gw_tbl, w.before args s = true) ∧ va_K (E.1, E.2.1) classes (tysE E) s ∧ Inj E ∧ Stat E s s.heap ∧ NwP s ∧ (d + 1 ≤ R.frames ∧ 256 * (d + 1) ≤ R.locals) ∧ (kn.1 ≤ R.cells ∧ kn.2 ≤ R.slots) ∧ meth.locks = false
def Rt (C : Cx) (ret : Option FieldType) (r : Option Vl) (μ' : Mem) : Prop :=
  match C with
  | (_, _, _, _, s, _, args, below, meth, _, Q, kn, E) => meth.sig.returnType = ret ∧ kn = (0, 0) ∧ Q = MQ below (QQ E r μ') args s 0 0 (Ad E)
def largs : Nat → List Vl → List (Nat × Vl)
  | _, [] => []
  | i, (.inr (.inl x)) :: r => (i, vL x) :: largs (i + 2) r
  | i, (.inl x) :: r => (i, vI x) :: largs (i + 1) r
  | i, (.inr (.inr j)) :: r => (i, vR j) :: largs (i + 1) r
def cat : Vl → Nat
  | .inr (.inl _) => 2
  | _ => 1
theorem cat_eq (E : En) (v : Vl) : (dv E v).category = cat v := by rcases v with x | x | x <;> rfl
theorem largs_eq (E : En) : ∀ (as : List Vl) (i : Nat), dl E (largs i as) = lv_args i (as.map (dv E))
  | [], _ => rfl
  | (.inl x) :: r, i => by
    show (i, Value.int x) :: dl E (largs (i + 1) r) = (i, Value.int x) :: lv_args (i + 1) (r.map (dv E))
    rw [largs_eq E r]
  | (.inr (.inl x)) :: r, i => by
    show (i, Value.long x) :: dl E (largs (i + 2) r) = (i, Value.long x) :: lv_args (i + 2) (r.map (dv E))
    rw [largs_eq E r]
  | (.inr (.inr j)) :: r, i => by
    show (i, Value.ref (E.2.2.1 j)) :: dl E (largs (i + 1) r) = (i, Value.ref (E.2.2.1 j)) :: lv_args (i + 1) (r.map (dv E))
    rw [largs_eq E r]
theorem sl_len (E : En) : ∀ (as : List Vl), (lg_sl (as.map (dv E))).length = (as.map cat).sum
  | [] => rfl
  | (.inl x) :: r => by
    have := sl_len E r
    simp [lg_sl, dv, Value.category, cat] at this ⊢
    omega
  | (.inr (.inl x)) :: r => by
    have := sl_len E r
    simp [lg_sl, dv, Value.category, cat] at this ⊢
    omega
  | (.inr (.inr j)) :: r => by
    have := sl_len E r
    simp [lg_sl, dv, Value.category, cat] at this ⊢
    omega
theorem Ct.intro {y : MethodName} {b : ByteArray} {n : Nat} {ret : Option FieldType} {d : Nat} {as : List Vl} {μ : Mem} {r : Option Vl} {μ' : Mem} (hy : plainName y.cls = true) (hn : (as.map cat).sum ≤ n)
    (body : ∀ C : Cx, G C y.cls b n d → Rt C ret r μ' → V C 0 (largs 0 as) [] μ) : Ct y b n ret d as μ r μ' := by
  intro l E
  refine Met.ofW (cc := b) (maxL := n) (ret := ret) hy rfl ?_
  intro p e s m args below meth c s₁ B hml hv
  obtain ⟨rfl, hP, hK, hi, hst, hnw⟩ := hv
  have hts := atoms_spec (ws := Cond.code y b n ret :: gw_tbl) B.pre
  have hown : s.vm.findClass y.cls = some m.cls := findClass_of_methodNamed B.named
  have hl := lv_entry (as.map (dv E)) (n := n) (by rw [sl_len]; exact hn)
  rw [lg_entry_eq]
  generalize (lg_sl (as.map (dv E)) ++ List.replicate (n - (lg_sl (as.map (dv E))).length) Slot.unset).toArray = ls at hl ⊢
  exact body (p, l, e, (headSpec (Cond.code y b n ret :: gw_tbl) (rmD d)).room, s, m, (as.map (dv E)).toArray, below, meth, c, MQ below (QQ E r μ') (as.map (dv E)).toArray s 0 0 (Ad E), (0, 0), E)
    ⟨B.exec, B.bytes, hml, hown, fun w hw => hts w (List.mem_cons_of_mem _ hw), hK, hi, hst, hnw, ⟨Nat.le_refl _, Nat.le_refl _⟩, ⟨Nat.zero_le _, Nat.zero_le _⟩, B.notSynchronized⟩ ⟨B.returns, rfl, rfl⟩ s.heap [] ls hP va_S.rf (by rw [hml, largs_eq]; exact hl)
end
section
/-! ===== locals ===== -/
def lget : List (Nat × Vl) → Nat → Option Vl
  | [], _ => none
  | q :: r, i => cond (Nat.beq q.1 i) (some q.2) (lget r i)
def lins : List (Nat × Vl) → Nat → Vl → List (Nat × Vl)
  | [], i, v => [(i, v)]
  | q :: r, i, v => cond (Nat.ble i q.1) ((i, v) :: q :: r) (q :: lins r i v)
def lsto (lv : List (Nat × Vl)) (i : Nat) (v : Vl) : List (Nat × Vl) := lins (lv.filter (fun q => !(q.1 == i) && !(q.1 + 1 == i && cat q.2 == 2))) i v
def lsto2 (lv : List (Nat × Vl)) (i : Nat) (v : Vl) : List (Nat × Vl) := lins (lv.filter (fun q => !(q.1 == i) && (!(q.1 == i + 1) && !(q.1 + 1 == i && cat q.2 == 2)))) i v
theorem lget_mem : ∀ {lv : List (Nat × Vl)} {i : Nat} {v : Vl}, lget lv i = some v → (i, v) ∈ lv
  | [], i, v, h => by cases h
  | (j, w) :: r, i, v, h => by
    unfold lget at h
    cases hb : Nat.beq j i with
    | true =>
      rw [hb] at h
      have hj : j = i := Nat.eq_of_beq_eq_true hb
      subst hj
      cases h
      exact List.mem_cons_self
    | false =>
      rw [hb] at h
      exact List.mem_cons_of_mem _ (lget_mem h)
theorem lget_k {E : En} {lv : List (Nat × Vl)} {i : Nat} {v : Vl} (h : lget lv i = some v) : ∃ k : Nat, (dl E lv)[k]? = some (i, dv E v) := by
  obtain ⟨k, hk⟩ := List.getElem?_of_mem (lget_mem h)
  exact ⟨k, by unfold dl; rw [List.getElem?_map, hk]; rfl⟩
theorem lget_at {E : En} {ls : Array Slot} {nL : Nat} {lv : List (Nat × Vl)} {i : Nat} {v : Vl} (hl : lv_has ls nL (dl E lv)) (h : lget lv i = some v) : ls[i]? = some (.val (dv E v)) := by
  obtain ⟨k, hk⟩ := lget_k (E := E) h
  exact lv_at hl k hk
theorem lv_mono {ls : Array Slot} {nL : Nat} {l l' : List (Nat × Value)} (h : lv_has ls nL l) (hs : ∀ q ∈ l', q ∈ l) : lv_has ls nL l' := ⟨h.1, h.2.1, fun q hq => h.2.2 q (hs q hq)⟩
theorem lins_mem : ∀ {lv : List (Nat × Vl)} {i : Nat} {v : Vl} {q : Nat × Vl}, q ∈ lins lv i v → q = (i, v) ∨ q ∈ lv
  | [], i, v, q, h => Or.inl (List.mem_singleton.mp h)
  | a :: r, i, v, q, h => by
    unfold lins at h
    cases hb : Nat.ble i a.1 with
    | true => rw [hb] at h; exact List.mem_cons.mp h
    | false =>
      rw [hb] at h
      rcases List.mem_cons.mp h with h | h
      · exact Or.inr (h ▸ List.mem_cons_self)
      · exact (lins_mem h).imp id (List.mem_cons_of_mem _)
theorem lsto_sub {E : En} {ls : Array Slot} {nL : Nat} {lv : List (Nat × Vl)} {i : Nat} {v : Vl} (h : lv_has ls nL ((i, dv E v) :: (dl E lv).filter (fun q => !(q.1 == i) && !(q.1 + 1 == i && q.2.category == 2)))) : lv_has ls nL (dl E (lsto lv i v)) := by
  refine lv_mono h (fun q hq => ?_)
  obtain ⟨q0, h1, rfl⟩ := List.mem_map.mp hq
  rcases lins_mem h1 with rfl | h2
  · exact List.mem_cons_self
  · obtain ⟨h3, h4⟩ := List.mem_filter.mp h2
    refine List.mem_cons_of_mem _ (List.mem_filter.mpr ⟨List.mem_map.mpr ⟨q0, h3, rfl⟩, ?_⟩)
    show (!(q0.1 == i) && !(q0.1 + 1 == i && (dv E q0.2).category == 2)) = true
    rw [cat_eq]
    exact h4
theorem lsto2_sub {E : En} {ls : Array Slot} {nL : Nat} {lv : List (Nat × Vl)} {i : Nat} {v : Vl} (h : lv_has ls nL ((i, dv E v) :: (dl E lv).filter (fun q => !(q.1 == i) && (!(q.1 == i + 1) && !(q.1 + 1 == i && q.2.category == 2))))) : lv_has ls nL (dl E (lsto2 lv i v)) := by
  refine lv_mono h (fun q hq => ?_)
  obtain ⟨q0, h1, rfl⟩ := List.mem_map.mp hq
  rcases lins_mem h1 with rfl | h2
  · exact List.mem_cons_self
  · obtain ⟨h3, h4⟩ := List.mem_filter.mp h2
    refine List.mem_cons_of_mem _ (List.mem_filter.mpr ⟨List.mem_map.mpr ⟨q0, h3, rfl⟩, ?_⟩)
    show (!(q0.1 == i) && (!(q0.1 == i + 1) && !(q0.1 + 1 == i && (dv E q0.2).category == 2))) = true
    rw [cat_eq]
    exact h4
theorem cat_sum (E : En) (st : List Vl) : ((st.map (dv E)).map fun v => v.category).sum = (st.map cat).sum := by
  congr 1
  rw [List.map_map]
  exact List.map_congr_left (fun v _ => cat_eq E v)
theorem gw_ok {y : MethodName} {b : ByteArray} {n : Nat} {ret : Option FieldType} (h : Cond.code y b n ret ∈ gw_tbl) : GoodIn gw_tbl (Cond.code y b n ret :: gw_tbl) := fun w hw => by
  rcases List.mem_cons.mp hw with rfl | hw
  · exact ⟨h, good_of_word (gw_good h)⟩
  · exact ⟨hw, good_of_word (gw_good hw)⟩
theorem cls_in {ci : Nat} {Cn : String} {T : u_T} {N : Nat} (h : classes[ci]? = some (Cn, T, N)) : ∀ w ∈ u_ws Cn T N, w ∈ gw_tbl := by
  match ci, h with
  | 0, h => cases h; exact inX0
  | 1, h => cases h; exact inX1
  | 2, h => cases h; exact inX2
  | 3, h => cases h; exact inX3
  | 4, h => cases h; exact inX4
  | 5, h => cases h; exact inX5
  | 6, h => cases h; exact inX6
  | 7, h => cases h; exact inX7
  | 8, h => cases h; exact inX8
  | 9, h => cases h; exact inX9
  | 10, h => cases h; exact inX10
  | n + 11, h => simp [classes] at h
/-- an int field that isn't final -/
def fldI (ci k : Nat) : Bool := match classes[ci]? with
  | some q => decide ((q.2.1 k).2.2.1 = "I") && !(q.2.1 k).2.2.2
  | none => false
theorem cls_ty {ci : Nat} {Cn : String} {T : u_T} {N : Nat} (h : classes[ci]? = some (Cn, T, N)) : ∃ ty0 : Nat → FieldType, (∀ k, k < N → parseFieldDescriptor (T k).2.2.1 = some (ty0 k)) ∧ (∀ a, a < N → ∀ b, b < N → a ≠ b → (T a).2.1 ≠ (T b).2.1) := by
  match ci, h with
  | 0, h => cases h; exact ⟨_, tyX0_ok, nmX0⟩
  | 1, h => cases h; exact ⟨_, tyX1_ok, nmX1⟩
  | 2, h => cases h; exact ⟨_, tyX2_ok, nmX2⟩
  | 3, h => cases h; exact ⟨_, tyX3_ok, nmX3⟩
  | 4, h => cases h; exact ⟨_, tyX4_ok, nmX4⟩
  | 5, h => cases h; exact ⟨_, tyX5_ok, nmX5⟩
  | 6, h => cases h; exact ⟨_, tyX6_ok, nmX6⟩
  | 7, h => cases h; exact ⟨_, tyX7_ok, nmX7⟩
  | 8, h => cases h; exact ⟨_, tyX8_ok, nmX8⟩
  | 9, h => cases h; exact ⟨_, tyX9_ok, nmX9⟩
  | 10, h => cases h; exact ⟨_, tyX10_ok, nmX10⟩
  | n + 11, h => simp [classes] at h
theorem fldI_spec {ci k : Nat} {Cn : String} {T : u_T} {N : Nat} (h : classes[ci]? = some (Cn, T, N)) (hi : fldI ci k = true) (hk : k < N) : ∃ ty0 : Nat → FieldType, (∀ k, k < N → parseFieldDescriptor (T k).2.2.1 = some (ty0 k)) ∧ (∀ a, a < N → ∀ b, b < N → a ≠ b → (T a).2.1 ≠ (T b).2.1) ∧ (T k).2.2.2 = false ∧ parseFieldDescriptor (T k).2.2.1 = some .int := by
  obtain ⟨ty0, h1, h2⟩ := cls_ty h
  unfold fldI at hi
  rw [h] at hi
  simp only [Bool.and_eq_true, decide_eq_true_eq, Bool.not_eq_true'] at hi
  exact ⟨ty0, h1, h2, hi.2, by rw [hi.1]; decide +kernel⟩
theorem ent_put {E : En} {μ : Mem} {j ci k : Nat} {fds : List (Option Nat)} {x : Int32} (hk : fds[k]? = some none) : (Sum.inr (ci, (fds.mapIdx (fun k o => fdv E μ j k o)).set k (.int x)) : va_E) = ent E (setc μ j (upd (μ j) k x)) j (.inl (ci, fds)) := by
  show Sum.inr (ci, _) = Sum.inr (ci, _)
  congr 2
  apply List.ext_getElem?
  intro i
  by_cases h : i = k
  · subst h
    rw [List.getElem?_set_self (by rw [List.length_mapIdx]; exact (List.getElem?_eq_some_iff.mp hk).1), List.getElem?_mapIdx, hk]
    show some (Value.int x) = some (Value.int (setc μ j (upd (μ j) i x) j i))
    rw [setc_s, pk_us]
  · rw [List.getElem?_set_ne (Ne.symm h), List.getElem?_mapIdx, List.getElem?_mapIdx]
    cases fds[i]? with
    | none => rfl
    | some o =>
      cases o with
      | none => show some (Value.int _) = some (Value.int (setc μ j (upd (μ j) k x) j i)); rw [setc_s, pk_un h]
      | some r => rfl
theorem ent_arr {E : En} {μ : Mem} {j t n : Nat} {f : Nat → Int32} (ht : t ≤ 1) : (Sum.inl (E.2.2.2 t, n, .inl f) : va_E) = ent E (setc μ j f) j (.inr (t, n, [])) := by
  show _ = Sum.inl (E.2.2.2 t, n, if t ≤ 1 then Sum.inl (setc μ j f j) else _)
  rw [if_pos ht, setc_s]
theorem acopy_nat : Cond.native arraycopyName ∈ gw_tbl := tb 388 (by decide +kernel)
theorem acopy_st : Cond.static arraycopyName ∈ gw_tbl := tb 387 (by decide +kernel)
/-! ===== the rows ===== -/
theorem V_iconst {C : Cx} {own : String} {b : ByteArray} {nL d pc : Nat} {lv : List (Nat × Vl)} {st : List Vl} {μ : Mem} {n : Int} {v : Int32} (g : G C own b nL d) (hd : decode b pc = .ok (.iconst n, 1)) (hv : Int32.ofInt n = v) (k : V C (pc + 1) lv (vI v :: st) μ) : V C pc lv (st) μ := by
  obtain ⟨p, l, e, R, s, m, args, below, meth, c, Q, kn, E⟩ := C
  obtain ⟨hx, hb, hml, hown, hts, hK, hi, hst, hnw, hrm, hcs, hlk⟩ := id g
  intro H locs ls hP hS hl
  exact lv_iconst hx hb hd hv (k H locs ls hP hS hl)
theorem V_bipush {C : Cx} {own : String} {b : ByteArray} {nL d pc : Nat} {lv : List (Nat × Vl)} {st : List Vl} {μ : Mem} {n : Int} {v : Int32} (g : G C own b nL d) (hd : decode b pc = .ok (.bipush n, 2)) (hv : (Int8.ofInt n).toInt32 = v) (k : V C (pc + 2) lv (vI v :: st) μ) : V C pc lv (st) μ := by
  obtain ⟨p, l, e, R, s, m, args, below, meth, c, Q, kn, E⟩ := C
  obtain ⟨hx, hb, hml, hown, hts, hK, hi, hst, hnw, hrm, hcs, hlk⟩ := id g
  intro H locs ls hP hS hl
  exact lv_bipush hx hb hd hv (k H locs ls hP hS hl)
theorem V_sipush {C : Cx} {own : String} {b : ByteArray} {nL d pc : Nat} {lv : List (Nat × Vl)} {st : List Vl} {μ : Mem} {n : Int} {v : Int32} (g : G C own b nL d) (hd : decode b pc = .ok (.sipush n, 3)) (hv : (Int16.ofInt n).toInt32 = v) (k : V C (pc + 3) lv (vI v :: st) μ) : V C pc lv (st) μ := by
  obtain ⟨p, l, e, R, s, m, args, below, meth, c, Q, kn, E⟩ := C
  obtain ⟨hx, hb, hml, hown, hts, hK, hi, hst, hnw, hrm, hcs, hlk⟩ := id g
  intro H locs ls hP hS hl
  exact lv_sipush hx hb hd hv (k H locs ls hP hS hl)
theorem V_lconst {C : Cx} {own : String} {b : ByteArray} {nL d pc : Nat} {lv : List (Nat × Vl)} {st : List Vl} {μ : Mem} {n : Fin 2} {v : Int64} (g : G C own b nL d) (hd : decode b pc = .ok (.lconst n, 1)) (hv : Int64.ofNat (n : Nat) = v) (k : V C (pc + 1) lv (vL v :: st) μ) : V C pc lv (st) μ := by
  obtain ⟨p, l, e, R, s, m, args, below, meth, c, Q, kn, E⟩ := C
  obtain ⟨hx, hb, hml, hown, hts, hK, hi, hst, hnw, hrm, hcs, hlk⟩ := id g
  intro H locs ls hP hS hl
  exact lv_lconst hx hb hd hv (k H locs ls hP hS hl)
theorem V_ldc {C : Cx} {own : String} {b : ByteArray} {nL d pc : Nat} {lv : List (Nat × Vl)} {st : List Vl} {μ : Mem} {i : Nat} {v : Int32} (g : G C own b nL d) (hd : decode b pc = .ok (.ldc i, 2)) (hc : Cond.constant own i v ∈ gw_tbl) (k : V C (pc + 2) lv (vI v :: st) μ) : V C pc lv (st) μ := by
  obtain ⟨p, l, e, R, s, m, args, below, meth, c, Q, kn, E⟩ := C
  obtain ⟨hx, hb, hml, hown, hts, hK, hi, hst, hnw, hrm, hcs, hlk⟩ := id g
  intro H locs ls hP hS hl
  exact lv_ldc hx hb hown (hts _ hc) hd (k H locs ls hP hS hl)
theorem V_ldc_w {C : Cx} {own : String} {b : ByteArray} {nL d pc : Nat} {lv : List (Nat × Vl)} {st : List Vl} {μ : Mem} {i : Nat} {v : Int32} (g : G C own b nL d) (hd : decode b pc = .ok (.ldc_w i, 3)) (hc : Cond.constant own i v ∈ gw_tbl) (k : V C (pc + 3) lv (vI v :: st) μ) : V C pc lv (st) μ := by
  obtain ⟨p, l, e, R, s, m, args, below, meth, c, Q, kn, E⟩ := C
  obtain ⟨hx, hb, hml, hown, hts, hK, hi, hst, hnw, hrm, hcs, hlk⟩ := id g
  intro H locs ls hP hS hl
  exact lv_ldcw hx hb hown (hts _ hc) hd (k H locs ls hP hS hl)
theorem V_ldc2_w {C : Cx} {own : String} {b : ByteArray} {nL d pc : Nat} {lv : List (Nat × Vl)} {st : List Vl} {μ : Mem} {i : Nat} {v : Int64} (g : G C own b nL d) (hd : decode b pc = .ok (.ldc2_w i, 3)) (hc : Cond.constantLong own i v ∈ gw_tbl) (k : V C (pc + 3) lv (vL v :: st) μ) : V C pc lv (st) μ := by
  obtain ⟨p, l, e, R, s, m, args, below, meth, c, Q, kn, E⟩ := C
  obtain ⟨hx, hb, hml, hown, hts, hK, hi, hst, hnw, hrm, hcs, hlk⟩ := id g
  intro H locs ls hP hS hl
  exact lv_ldc2 hx hb hown (hts _ hc) hd (k H locs ls hP hS hl)
theorem V_iload_n {C : Cx} {own : String} {b : ByteArray} {nL d pc : Nat} {lv : List (Nat × Vl)} {st : List Vl} {μ : Mem} {i : Fin 4} {x : Int32} (g : G C own b nL d) (hd : decode b pc = .ok (.iload_n i, 1)) (h : lget lv i = some (vI x)) (k : V C (pc + 1) lv (vI x :: st) μ) : V C pc lv (st) μ := by
  obtain ⟨p, l, e, R, s, m, args, below, meth, c, Q, kn, E⟩ := C
  obtain ⟨hx, hb, hml, hown, hts, hK, hi, hst, hnw, hrm, hcs, hlk⟩ := id g
  intro H locs ls hP hS hl
  exact lv_iload_n hx hb hd rfl (lget_at hl h) (k H locs ls hP hS hl)
theorem V_iload {C : Cx} {own : String} {b : ByteArray} {nL d pc : Nat} {lv : List (Nat × Vl)} {st : List Vl} {μ : Mem} {i : Nat} {x : Int32} (g : G C own b nL d) (hd : decode b pc = .ok (.iload i, 2)) (h : lget lv i = some (vI x)) (k : V C (pc + 2) lv (vI x :: st) μ) : V C pc lv (st) μ := by
  obtain ⟨p, l, e, R, s, m, args, below, meth, c, Q, kn, E⟩ := C
  obtain ⟨hx, hb, hml, hown, hts, hK, hi, hst, hnw, hrm, hcs, hlk⟩ := id g
  intro H locs ls hP hS hl
  exact lv_iload hx hb hd (lget_at hl h) (k H locs ls hP hS hl)
theorem V_lload_n {C : Cx} {own : String} {b : ByteArray} {nL d pc : Nat} {lv : List (Nat × Vl)} {st : List Vl} {μ : Mem} {i : Fin 4} {x : Int64} (g : G C own b nL d) (hd : decode b pc = .ok (.lload_n i, 1)) (h : lget lv i = some (vL x)) (k : V C (pc + 1) lv (vL x :: st) μ) : V C pc lv (st) μ := by
  obtain ⟨p, l, e, R, s, m, args, below, meth, c, Q, kn, E⟩ := C
  obtain ⟨hx, hb, hml, hown, hts, hK, hi, hst, hnw, hrm, hcs, hlk⟩ := id g
  intro H locs ls hP hS hl
  exact lv_lload_n hx hb hd rfl (lget_at hl h) (k H locs ls hP hS hl)
theorem V_lload {C : Cx} {own : String} {b : ByteArray} {nL d pc : Nat} {lv : List (Nat × Vl)} {st : List Vl} {μ : Mem} {i : Nat} {x : Int64} (g : G C own b nL d) (hd : decode b pc = .ok (.lload i, 2)) (h : lget lv i = some (vL x)) (k : V C (pc + 2) lv (vL x :: st) μ) : V C pc lv (st) μ := by
  obtain ⟨p, l, e, R, s, m, args, below, meth, c, Q, kn, E⟩ := C
  obtain ⟨hx, hb, hml, hown, hts, hK, hi, hst, hnw, hrm, hcs, hlk⟩ := id g
  intro H locs ls hP hS hl
  exact lv_lload hx hb hd (lget_at hl h) (k H locs ls hP hS hl)
theorem V_aload_n {C : Cx} {own : String} {b : ByteArray} {nL d pc : Nat} {lv : List (Nat × Vl)} {st : List Vl} {μ : Mem} {i : Fin 4} {x : Nat} (g : G C own b nL d) (hd : decode b pc = .ok (.aload_n i, 1)) (h : lget lv i = some (vR x)) (k : V C (pc + 1) lv (vR x :: st) μ) : V C pc lv (st) μ := by
  obtain ⟨p, l, e, R, s, m, args, below, meth, c, Q, kn, E⟩ := C
  obtain ⟨hx, hb, hml, hown, hts, hK, hi, hst, hnw, hrm, hcs, hlk⟩ := id g
  intro H locs ls hP hS hl
  exact lv_aload_n hx hb hd rfl (lget_at hl h) (k H locs ls hP hS hl)
theorem V_aload {C : Cx} {own : String} {b : ByteArray} {nL d pc : Nat} {lv : List (Nat × Vl)} {st : List Vl} {μ : Mem} {i : Nat} {x : Nat} (g : G C own b nL d) (hd : decode b pc = .ok (.aload i, 2)) (h : lget lv i = some (vR x)) (k : V C (pc + 2) lv (vR x :: st) μ) : V C pc lv (st) μ := by
  obtain ⟨p, l, e, R, s, m, args, below, meth, c, Q, kn, E⟩ := C
  obtain ⟨hx, hb, hml, hown, hts, hK, hi, hst, hnw, hrm, hcs, hlk⟩ := id g
  intro H locs ls hP hS hl
  exact lv_aload hx hb hd (lget_at hl h) (k H locs ls hP hS hl)
theorem V_istore_n {C : Cx} {own : String} {b : ByteArray} {nL d pc : Nat} {lv : List (Nat × Vl)} {st : List Vl} {μ : Mem} {i : Fin 4} {x : Int32} {lv' : List (Nat × Vl)} (g : G C own b nL d) (hd : decode b pc = .ok (.istore_n i, 1)) (hn : (i : Nat) < nL) (hv : lsto lv i (vI x) = lv') (k : V C (pc + 1) lv' st μ) : V C pc lv (vI x :: st) μ := by
  obtain ⟨p, l, e, R, s, m, args, below, meth, c, Q, kn, E⟩ := C
  obtain ⟨hx, hb, hml, hown, hts, hK, hi, hst, hnw, hrm, hcs, hlk⟩ := id g
  intro H locs ls hP hS hl
  exact lv_istore_n hx hb hd rfl hl (by rw [hml]; exact hn) rfl (fun ls hl => k H locs ls hP hS (hv ▸ lsto_sub hl))
theorem V_istore {C : Cx} {own : String} {b : ByteArray} {nL d pc : Nat} {lv : List (Nat × Vl)} {st : List Vl} {μ : Mem} {i : Nat} {x : Int32} {lv' : List (Nat × Vl)} (g : G C own b nL d) (hd : decode b pc = .ok (.istore i, 2)) (hn : (i : Nat) < nL) (hv : lsto lv i (vI x) = lv') (k : V C (pc + 2) lv' st μ) : V C pc lv (vI x :: st) μ := by
  obtain ⟨p, l, e, R, s, m, args, below, meth, c, Q, kn, E⟩ := C
  obtain ⟨hx, hb, hml, hown, hts, hK, hi, hst, hnw, hrm, hcs, hlk⟩ := id g
  intro H locs ls hP hS hl
  exact lv_istore hx hb hd hl (by rw [hml]; exact hn) rfl (fun ls hl => k H locs ls hP hS (hv ▸ lsto_sub hl))
theorem V_lstore_n {C : Cx} {own : String} {b : ByteArray} {nL d pc : Nat} {lv : List (Nat × Vl)} {st : List Vl} {μ : Mem} {i : Fin 4} {x : Int64} {lv' : List (Nat × Vl)} (g : G C own b nL d) (hd : decode b pc = .ok (.lstore_n i, 1)) (hn : (i + 1 : Nat) < nL) (hv : lsto2 lv i (vL x) = lv') (k : V C (pc + 1) lv' st μ) : V C pc lv (vL x :: st) μ := by
  obtain ⟨p, l, e, R, s, m, args, below, meth, c, Q, kn, E⟩ := C
  obtain ⟨hx, hb, hml, hown, hts, hK, hi, hst, hnw, hrm, hcs, hlk⟩ := id g
  intro H locs ls hP hS hl
  exact lv_lstore_n hx hb hd rfl hl (by rw [hml]; exact hn) rfl (fun ls hl => k H locs ls hP hS (hv ▸ lsto2_sub hl))
theorem V_lstore {C : Cx} {own : String} {b : ByteArray} {nL d pc : Nat} {lv : List (Nat × Vl)} {st : List Vl} {μ : Mem} {i : Nat} {x : Int64} {lv' : List (Nat × Vl)} (g : G C own b nL d) (hd : decode b pc = .ok (.lstore i, 2)) (hn : (i + 1 : Nat) < nL) (hv : lsto2 lv i (vL x) = lv') (k : V C (pc + 2) lv' st μ) : V C pc lv (vL x :: st) μ := by
  obtain ⟨p, l, e, R, s, m, args, below, meth, c, Q, kn, E⟩ := C
  obtain ⟨hx, hb, hml, hown, hts, hK, hi, hst, hnw, hrm, hcs, hlk⟩ := id g
  intro H locs ls hP hS hl
  exact lv_lstore hx hb hd hl (by rw [hml]; exact hn) rfl (fun ls hl => k H locs ls hP hS (hv ▸ lsto2_sub hl))
theorem V_astore_n {C : Cx} {own : String} {b : ByteArray} {nL d pc : Nat} {lv : List (Nat × Vl)} {st : List Vl} {μ : Mem} {i : Fin 4} {x : Nat} {lv' : List (Nat × Vl)} (g : G C own b nL d) (hd : decode b pc = .ok (.astore_n i, 1)) (hn : (i : Nat) < nL) (hv : lsto lv i (vR x) = lv') (k : V C (pc + 1) lv' st μ) : V C pc lv (vR x :: st) μ := by
  obtain ⟨p, l, e, R, s, m, args, below, meth, c, Q, kn, E⟩ := C
  obtain ⟨hx, hb, hml, hown, hts, hK, hi, hst, hnw, hrm, hcs, hlk⟩ := id g
  intro H locs ls hP hS hl
  exact lv_astore_n hx hb hd rfl hl (by rw [hml]; exact hn) rfl (fun ls hl => k H locs ls hP hS (hv ▸ lsto_sub hl))
theorem V_astore {C : Cx} {own : String} {b : ByteArray} {nL d pc : Nat} {lv : List (Nat × Vl)} {st : List Vl} {μ : Mem} {i : Nat} {x : Nat} {lv' : List (Nat × Vl)} (g : G C own b nL d) (hd : decode b pc = .ok (.astore i, 2)) (hn : (i : Nat) < nL) (hv : lsto lv i (vR x) = lv') (k : V C (pc + 2) lv' st μ) : V C pc lv (vR x :: st) μ := by
  obtain ⟨p, l, e, R, s, m, args, below, meth, c, Q, kn, E⟩ := C
  obtain ⟨hx, hb, hml, hown, hts, hK, hi, hst, hnw, hrm, hcs, hlk⟩ := id g
  intro H locs ls hP hS hl
  exact lv_astore hx hb hd hl (by rw [hml]; exact hn) rfl (fun ls hl => k H locs ls hP hS (hv ▸ lsto_sub hl))
theorem V_iinc {C : Cx} {own : String} {b : ByteArray} {nL d pc : Nat} {lv : List (Nat × Vl)} {st : List Vl} {μ : Mem} {i : Nat} {n : Int} {x v : Int32} {lv' : List (Nat × Vl)} (g : G C own b nL d) (hd : decode b pc = .ok (.iinc i n, 3)) (h : lget lv i = some (vI x)) (he : x + Int32.ofInt n = v) (hn : i < nL) (hv : lsto lv i (vI v) = lv') (k : V C (pc + 3) lv' st μ) : V C pc lv (st) μ := by
  obtain ⟨p, l, e, R, s, m, args, below, meth, c, Q, kn, E⟩ := C
  obtain ⟨hx, hb, hml, hown, hts, hK, hi, hst, hnw, hrm, hcs, hlk⟩ := id g
  intro H locs ls hP hS hl
  obtain ⟨q, hq⟩ := lget_k (E := E) h
  exact lv_iinc hx hb hd hl hq he (by rw [hml]; exact hn) rfl (fun ls hl => k H locs ls hP hS (hv ▸ lsto_sub hl))
theorem V_iadd {C : Cx} {own : String} {b : ByteArray} {nL d pc : Nat} {lv : List (Nat × Vl)} {st : List Vl} {μ : Mem} {x y : Int32} (g : G C own b nL d) (hd : decode b pc = .ok (.iadd, 1)) (k : V C (pc + 1) lv (vI (x + y) :: st) μ) : V C pc lv (vI y :: vI x :: st) μ := by
  obtain ⟨p, l, e, R, s, m, args, below, meth, c, Q, kn, E⟩ := C
  obtain ⟨hx, hb, hml, hown, hts, hK, hi, hst, hnw, hrm, hcs, hlk⟩ := id g
  intro H locs ls hP hS hl
  exact lv_iadd hx hb hd (k H locs ls hP hS hl)
theorem V_isub {C : Cx} {own : String} {b : ByteArray} {nL d pc : Nat} {lv : List (Nat × Vl)} {st : List Vl} {μ : Mem} {x y : Int32} (g : G C own b nL d) (hd : decode b pc = .ok (.isub, 1)) (k : V C (pc + 1) lv (vI (x - y) :: st) μ) : V C pc lv (vI y :: vI x :: st) μ := by
  obtain ⟨p, l, e, R, s, m, args, below, meth, c, Q, kn, E⟩ := C
  obtain ⟨hx, hb, hml, hown, hts, hK, hi, hst, hnw, hrm, hcs, hlk⟩ := id g
  intro H locs ls hP hS hl
  exact lv_isub hx hb hd (k H locs ls hP hS hl)
theorem V_imul {C : Cx} {own : String} {b : ByteArray} {nL d pc : Nat} {lv : List (Nat × Vl)} {st : List Vl} {μ : Mem} {x y : Int32} (g : G C own b nL d) (hd : decode b pc = .ok (.imul, 1)) (k : V C (pc + 1) lv (vI (x * y) :: st) μ) : V C pc lv (vI y :: vI x :: st) μ := by
  obtain ⟨p, l, e, R, s, m, args, below, meth, c, Q, kn, E⟩ := C
  obtain ⟨hx, hb, hml, hown, hts, hK, hi, hst, hnw, hrm, hcs, hlk⟩ := id g
  intro H locs ls hP hS hl
  exact lv_imul hx hb hd (k H locs ls hP hS hl)
theorem V_iand {C : Cx} {own : String} {b : ByteArray} {nL d pc : Nat} {lv : List (Nat × Vl)} {st : List Vl} {μ : Mem} {x y : Int32} (g : G C own b nL d) (hd : decode b pc = .ok (.iand, 1)) (k : V C (pc + 1) lv (vI (x &&& y) :: st) μ) : V C pc lv (vI y :: vI x :: st) μ := by
  obtain ⟨p, l, e, R, s, m, args, below, meth, c, Q, kn, E⟩ := C
  obtain ⟨hx, hb, hml, hown, hts, hK, hi, hst, hnw, hrm, hcs, hlk⟩ := id g
  intro H locs ls hP hS hl
  exact lv_iand hx hb hd (k H locs ls hP hS hl)
theorem V_ior {C : Cx} {own : String} {b : ByteArray} {nL d pc : Nat} {lv : List (Nat × Vl)} {st : List Vl} {μ : Mem} {x y : Int32} (g : G C own b nL d) (hd : decode b pc = .ok (.ior, 1)) (k : V C (pc + 1) lv (vI (x ||| y) :: st) μ) : V C pc lv (vI y :: vI x :: st) μ := by
  obtain ⟨p, l, e, R, s, m, args, below, meth, c, Q, kn, E⟩ := C
  obtain ⟨hx, hb, hml, hown, hts, hK, hi, hst, hnw, hrm, hcs, hlk⟩ := id g
  intro H locs ls hP hS hl
  exact lv_ior hx hb hd (k H locs ls hP hS hl)
theorem V_ixor {C : Cx} {own : String} {b : ByteArray} {nL d pc : Nat} {lv : List (Nat × Vl)} {st : List Vl} {μ : Mem} {x y : Int32} (g : G C own b nL d) (hd : decode b pc = .ok (.ixor, 1)) (k : V C (pc + 1) lv (vI (x ^^^ y) :: st) μ) : V C pc lv (vI y :: vI x :: st) μ := by
  obtain ⟨p, l, e, R, s, m, args, below, meth, c, Q, kn, E⟩ := C
  obtain ⟨hx, hb, hml, hown, hts, hK, hi, hst, hnw, hrm, hcs, hlk⟩ := id g
  intro H locs ls hP hS hl
  exact lv_ixor hx hb hd (k H locs ls hP hS hl)
theorem V_ishl {C : Cx} {own : String} {b : ByteArray} {nL d pc : Nat} {lv : List (Nat × Vl)} {st : List Vl} {μ : Mem} {x y : Int32} (g : G C own b nL d) (hd : decode b pc = .ok (.ishl, 1)) (k : V C (pc + 1) lv (vI (x <<< (y &&& 31)) :: st) μ) : V C pc lv (vI y :: vI x :: st) μ := by
  obtain ⟨p, l, e, R, s, m, args, below, meth, c, Q, kn, E⟩ := C
  obtain ⟨hx, hb, hml, hown, hts, hK, hi, hst, hnw, hrm, hcs, hlk⟩ := id g
  intro H locs ls hP hS hl
  exact lv_ishl hx hb hd (k H locs ls hP hS hl)
theorem V_ishr {C : Cx} {own : String} {b : ByteArray} {nL d pc : Nat} {lv : List (Nat × Vl)} {st : List Vl} {μ : Mem} {x y : Int32} (g : G C own b nL d) (hd : decode b pc = .ok (.ishr, 1)) (k : V C (pc + 1) lv (vI (x >>> (y &&& 31)) :: st) μ) : V C pc lv (vI y :: vI x :: st) μ := by
  obtain ⟨p, l, e, R, s, m, args, below, meth, c, Q, kn, E⟩ := C
  obtain ⟨hx, hb, hml, hown, hts, hK, hi, hst, hnw, hrm, hcs, hlk⟩ := id g
  intro H locs ls hP hS hl
  exact lv_ishr hx hb hd (k H locs ls hP hS hl)
theorem V_iushr {C : Cx} {own : String} {b : ByteArray} {nL d pc : Nat} {lv : List (Nat × Vl)} {st : List Vl} {μ : Mem} {x y : Int32} (g : G C own b nL d) (hd : decode b pc = .ok (.iushr, 1)) (k : V C (pc + 1) lv (vI ((x.toUInt32 >>> (y.toUInt32 &&& Int32.toUInt32 31)).toInt32) :: st) μ) : V C pc lv (vI y :: vI x :: st) μ := by
  obtain ⟨p, l, e, R, s, m, args, below, meth, c, Q, kn, E⟩ := C
  obtain ⟨hx, hb, hml, hown, hts, hK, hi, hst, hnw, hrm, hcs, hlk⟩ := id g
  intro H locs ls hP hS hl
  exact lv_iushr hx hb hd rfl (k H locs ls hP hS hl)
theorem V_ladd {C : Cx} {own : String} {b : ByteArray} {nL d pc : Nat} {lv : List (Nat × Vl)} {st : List Vl} {μ : Mem} {x y : Int64} (g : G C own b nL d) (hd : decode b pc = .ok (.ladd, 1)) (k : V C (pc + 1) lv (vL (x + y) :: st) μ) : V C pc lv (vL y :: vL x :: st) μ := by
  obtain ⟨p, l, e, R, s, m, args, below, meth, c, Q, kn, E⟩ := C
  obtain ⟨hx, hb, hml, hown, hts, hK, hi, hst, hnw, hrm, hcs, hlk⟩ := id g
  intro H locs ls hP hS hl
  exact lv_ladd hx hb hd (k H locs ls hP hS hl)
theorem V_lsub {C : Cx} {own : String} {b : ByteArray} {nL d pc : Nat} {lv : List (Nat × Vl)} {st : List Vl} {μ : Mem} {x y : Int64} (g : G C own b nL d) (hd : decode b pc = .ok (.lsub, 1)) (k : V C (pc + 1) lv (vL (x - y) :: st) μ) : V C pc lv (vL y :: vL x :: st) μ := by
  obtain ⟨p, l, e, R, s, m, args, below, meth, c, Q, kn, E⟩ := C
  obtain ⟨hx, hb, hml, hown, hts, hK, hi, hst, hnw, hrm, hcs, hlk⟩ := id g
  intro H locs ls hP hS hl
  exact lv_lsub hx hb hd (k H locs ls hP hS hl)
theorem V_lmul {C : Cx} {own : String} {b : ByteArray} {nL d pc : Nat} {lv : List (Nat × Vl)} {st : List Vl} {μ : Mem} {x y : Int64} (g : G C own b nL d) (hd : decode b pc = .ok (.lmul, 1)) (k : V C (pc + 1) lv (vL (x * y) :: st) μ) : V C pc lv (vL y :: vL x :: st) μ := by
  obtain ⟨p, l, e, R, s, m, args, below, meth, c, Q, kn, E⟩ := C
  obtain ⟨hx, hb, hml, hown, hts, hK, hi, hst, hnw, hrm, hcs, hlk⟩ := id g
  intro H locs ls hP hS hl
  exact lv_lmul hx hb hd (k H locs ls hP hS hl)
theorem V_irem {C : Cx} {own : String} {b : ByteArray} {nL d pc : Nat} {lv : List (Nat × Vl)} {st : List Vl} {μ : Mem} {x y : Int32} (g : G C own b nL d) (hd : decode b pc = .ok (.irem, 1)) (hne : ¬ y = 0) (k : V C (pc + 1) lv (vI (x - x / y * y) :: st) μ) : V C pc lv (vI y :: vI x :: st) μ := by
  obtain ⟨p, l, e, R, s, m, args, below, meth, c, Q, kn, E⟩ := C
  obtain ⟨hx, hb, hml, hown, hts, hK, hi, hst, hnw, hrm, hcs, hlk⟩ := id g
  intro H locs ls hP hS hl
  exact lv_irem hx hb hd hne (k H locs ls hP hS hl)
theorem V_lrem {C : Cx} {own : String} {b : ByteArray} {nL d pc : Nat} {lv : List (Nat × Vl)} {st : List Vl} {μ : Mem} {x y : Int64} (g : G C own b nL d) (hd : decode b pc = .ok (.lrem, 1)) (hne : ¬ y = 0) (k : V C (pc + 1) lv (vL (x - x / y * y) :: st) μ) : V C pc lv (vL y :: vL x :: st) μ := by
  obtain ⟨p, l, e, R, s, m, args, below, meth, c, Q, kn, E⟩ := C
  obtain ⟨hx, hb, hml, hown, hts, hK, hi, hst, hnw, hrm, hcs, hlk⟩ := id g
  intro H locs ls hP hS hl
  exact lv_lrem hx hb hd hne (k H locs ls hP hS hl)
theorem V_ldiv {C : Cx} {own : String} {b : ByteArray} {nL d pc : Nat} {lv : List (Nat × Vl)} {st : List Vl} {μ : Mem} {x y : Int64} (g : G C own b nL d) (hd : decode b pc = .ok (.ldiv, 1)) (hne : ¬ y = 0) (k : V C (pc + 1) lv (vL (x / y) :: st) μ) : V C pc lv (vL y :: vL x :: st) μ := by
  obtain ⟨p, l, e, R, s, m, args, below, meth, c, Q, kn, E⟩ := C
  obtain ⟨hx, hb, hml, hown, hts, hK, hi, hst, hnw, hrm, hcs, hlk⟩ := id g
  intro H locs ls hP hS hl
  exact lv_ldiv hx hb hd hne (k H locs ls hP hS hl)
theorem V_ineg {C : Cx} {own : String} {b : ByteArray} {nL d pc : Nat} {lv : List (Nat × Vl)} {st : List Vl} {μ : Mem} {x : Int32} (g : G C own b nL d) (hd : decode b pc = .ok (.ineg, 1)) (k : V C (pc + 1) lv (vI (-x) :: st) μ) : V C pc lv (vI x :: st) μ := by
  obtain ⟨p, l, e, R, s, m, args, below, meth, c, Q, kn, E⟩ := C
  obtain ⟨hx, hb, hml, hown, hts, hK, hi, hst, hnw, hrm, hcs, hlk⟩ := id g
  intro H locs ls hP hS hl
  exact lv_ineg hx hb hd (k H locs ls hP hS hl)
theorem V_i2l {C : Cx} {own : String} {b : ByteArray} {nL d pc : Nat} {lv : List (Nat × Vl)} {st : List Vl} {μ : Mem} {x : Int32} (g : G C own b nL d) (hd : decode b pc = .ok (.i2l, 1)) (k : V C (pc + 1) lv (vL x.toInt64 :: st) μ) : V C pc lv (vI x :: st) μ := by
  obtain ⟨p, l, e, R, s, m, args, below, meth, c, Q, kn, E⟩ := C
  obtain ⟨hx, hb, hml, hown, hts, hK, hi, hst, hnw, hrm, hcs, hlk⟩ := id g
  intro H locs ls hP hS hl
  exact lv_i2l hx hb hd rfl (k H locs ls hP hS hl)
theorem V_l2i {C : Cx} {own : String} {b : ByteArray} {nL d pc : Nat} {lv : List (Nat × Vl)} {st : List Vl} {μ : Mem} {x : Int64} (g : G C own b nL d) (hd : decode b pc = .ok (.l2i, 1)) (k : V C (pc + 1) lv (vI x.toInt32 :: st) μ) : V C pc lv (vL x :: st) μ := by
  obtain ⟨p, l, e, R, s, m, args, below, meth, c, Q, kn, E⟩ := C
  obtain ⟨hx, hb, hml, hown, hts, hK, hi, hst, hnw, hrm, hcs, hlk⟩ := id g
  intro H locs ls hP hS hl
  exact lv_l2i hx hb hd rfl (k H locs ls hP hS hl)
theorem V_i2b {C : Cx} {own : String} {b : ByteArray} {nL d pc : Nat} {lv : List (Nat × Vl)} {st : List Vl} {μ : Mem} {x : Int32} (g : G C own b nL d) (hd : decode b pc = .ok (.i2b, 1)) (k : V C (pc + 1) lv (vI x.toInt8.toInt32 :: st) μ) : V C pc lv (vI x :: st) μ := by
  obtain ⟨p, l, e, R, s, m, args, below, meth, c, Q, kn, E⟩ := C
  obtain ⟨hx, hb, hml, hown, hts, hK, hi, hst, hnw, hrm, hcs, hlk⟩ := id g
  intro H locs ls hP hS hl
  exact lv_i2b hx hb hd rfl (k H locs ls hP hS hl)
theorem V_i2s {C : Cx} {own : String} {b : ByteArray} {nL d pc : Nat} {lv : List (Nat × Vl)} {st : List Vl} {μ : Mem} {x : Int32} (g : G C own b nL d) (hd : decode b pc = .ok (.i2s, 1)) (k : V C (pc + 1) lv (vI x.toInt16.toInt32 :: st) μ) : V C pc lv (vI x :: st) μ := by
  obtain ⟨p, l, e, R, s, m, args, below, meth, c, Q, kn, E⟩ := C
  obtain ⟨hx, hb, hml, hown, hts, hK, hi, hst, hnw, hrm, hcs, hlk⟩ := id g
  intro H locs ls hP hS hl
  exact lv_i2s hx hb hd rfl (k H locs ls hP hS hl)
theorem V_dup {C : Cx} {own : String} {b : ByteArray} {nL d pc : Nat} {lv : List (Nat × Vl)} {st : List Vl} {μ : Mem} {x : Vl} (g : G C own b nL d) (hd : decode b pc = .ok (.dup, 1)) (hc : cat x = 1) (k : V C (pc + 1) lv (x :: x :: st) μ) : V C pc lv (x :: st) μ := by
  obtain ⟨p, l, e, R, s, m, args, below, meth, c, Q, kn, E⟩ := C
  obtain ⟨hx, hb, hml, hown, hts, hK, hi, hst, hnw, hrm, hcs, hlk⟩ := id g
  intro H locs ls hP hS hl
  exact lv_dup hx hb hd ((cat_eq E x).trans hc) (k H locs ls hP hS hl)
theorem V_pop {C : Cx} {own : String} {b : ByteArray} {nL d pc : Nat} {lv : List (Nat × Vl)} {st : List Vl} {μ : Mem} {x : Vl} (g : G C own b nL d) (hd : decode b pc = .ok (.pop, 1)) (hc : cat x = 1) (k : V C (pc + 1) lv st μ) : V C pc lv (x :: st) μ := by
  obtain ⟨p, l, e, R, s, m, args, below, meth, c, Q, kn, E⟩ := C
  obtain ⟨hx, hb, hml, hown, hts, hK, hi, hst, hnw, hrm, hcs, hlk⟩ := id g
  intro H locs ls hP hS hl
  exact lv_pop hx hb hd ((cat_eq E x).trans hc) (k H locs ls hP hS hl)
theorem V_dup2 {C : Cx} {own : String} {b : ByteArray} {nL d pc : Nat} {lv : List (Nat × Vl)} {st : List Vl} {μ : Mem} {x y : Vl} (g : G C own b nL d) (hd : decode b pc = .ok (.dup2, 1)) (hc : cat x = 1) (hc2 : cat y = 1) (k : V C (pc + 1) lv (x :: y :: x :: y :: st) μ) : V C pc lv (x :: y :: st) μ := by
  obtain ⟨p, l, e, R, s, m, args, below, meth, c, Q, kn, E⟩ := C
  obtain ⟨hx, hb, hml, hown, hts, hK, hi, hst, hnw, hrm, hcs, hlk⟩ := id g
  intro H locs ls hP hS hl
  exact lv_dup2_11 hx hb hd ((cat_eq E x).trans hc) ((cat_eq E y).trans hc2) (k H locs ls hP hS hl)
theorem V_lcmp {C : Cx} {own : String} {b : ByteArray} {nL d pc : Nat} {lv : List (Nat × Vl)} {st : List Vl} {μ : Mem} {x y : Int64} (g : G C own b nL d) (hd : decode b pc = .ok (.lcmp, 1)) (k : V C (pc + 1) lv (vI (lg_cmp x y) :: st) μ) : V C pc lv (vL y :: vL x :: st) μ := by
  obtain ⟨p, l, e, R, s, m, args, below, meth, c, Q, kn, E⟩ := C
  obtain ⟨hx, hb, hml, hown, hts, hK, hi, hst, hnw, hrm, hcs, hlk⟩ := id g
  intro H locs ls hP hS hl
  exact W.lcmp hx hb hd (k H locs ls hP hS hl)
theorem V_if_eq {C : Cx} {own : String} {b : ByteArray} {nL d pc : Nat} {lv : List (Nat × Vl)} {st : List Vl} {μ : Mem} {x : Int32} {off : Int} {tgt : Nat} (g : G C own b nL d) (hd : decode b pc = .ok (.ifCond .eq off, 3)) (ht : (pc : Int) + off = (tgt : Int)) (kt : x = 0 → V C tgt lv st μ) (kf : ¬ x = 0 → V C (pc + 3) lv st μ) : V C pc lv (vI x :: st) μ := by
  obtain ⟨p, l, e, R, s, m, args, below, meth, c, Q, kn, E⟩ := C
  obtain ⟨hx, hb, hml, hown, hts, hK, hi, hst, hnw, hrm, hcs, hlk⟩ := id g
  intro H locs ls hP hS hl
  exact lv_if_eq hx hb hd ht (fun q => kt q H locs ls hP hS hl) (fun q => kf q H locs ls hP hS hl)
theorem V_icmp_eq {C : Cx} {own : String} {b : ByteArray} {nL d pc : Nat} {lv : List (Nat × Vl)} {st : List Vl} {μ : Mem} {x y : Int32} {off : Int} {tgt : Nat} (g : G C own b nL d) (hd : decode b pc = .ok (.if_icmp .eq off, 3)) (ht : (pc : Int) + off = (tgt : Int)) (kt : x = y → V C tgt lv st μ) (kf : ¬ x = y → V C (pc + 3) lv st μ) : V C pc lv (vI y :: vI x :: st) μ := by
  obtain ⟨p, l, e, R, s, m, args, below, meth, c, Q, kn, E⟩ := C
  obtain ⟨hx, hb, hml, hown, hts, hK, hi, hst, hnw, hrm, hcs, hlk⟩ := id g
  intro H locs ls hP hS hl
  exact lv_icmp_eq hx hb hd ht (fun q => kt q H locs ls hP hS hl) (fun q => kf q H locs ls hP hS hl)
theorem V_if_ne {C : Cx} {own : String} {b : ByteArray} {nL d pc : Nat} {lv : List (Nat × Vl)} {st : List Vl} {μ : Mem} {x : Int32} {off : Int} {tgt : Nat} (g : G C own b nL d) (hd : decode b pc = .ok (.ifCond .ne off, 3)) (ht : (pc : Int) + off = (tgt : Int)) (kt : ¬ x = 0 → V C tgt lv st μ) (kf : x = 0 → V C (pc + 3) lv st μ) : V C pc lv (vI x :: st) μ := by
  obtain ⟨p, l, e, R, s, m, args, below, meth, c, Q, kn, E⟩ := C
  obtain ⟨hx, hb, hml, hown, hts, hK, hi, hst, hnw, hrm, hcs, hlk⟩ := id g
  intro H locs ls hP hS hl
  exact lv_if_ne hx hb hd ht (fun q => kt q H locs ls hP hS hl) (fun q => kf q H locs ls hP hS hl)
theorem V_icmp_ne {C : Cx} {own : String} {b : ByteArray} {nL d pc : Nat} {lv : List (Nat × Vl)} {st : List Vl} {μ : Mem} {x y : Int32} {off : Int} {tgt : Nat} (g : G C own b nL d) (hd : decode b pc = .ok (.if_icmp .ne off, 3)) (ht : (pc : Int) + off = (tgt : Int)) (kt : ¬ x = y → V C tgt lv st μ) (kf : x = y → V C (pc + 3) lv st μ) : V C pc lv (vI y :: vI x :: st) μ := by
  obtain ⟨p, l, e, R, s, m, args, below, meth, c, Q, kn, E⟩ := C
  obtain ⟨hx, hb, hml, hown, hts, hK, hi, hst, hnw, hrm, hcs, hlk⟩ := id g
  intro H locs ls hP hS hl
  exact lv_icmp_ne hx hb hd ht (fun q => kt q H locs ls hP hS hl) (fun q => kf q H locs ls hP hS hl)
theorem V_if_lt {C : Cx} {own : String} {b : ByteArray} {nL d pc : Nat} {lv : List (Nat × Vl)} {st : List Vl} {μ : Mem} {x : Int32} {off : Int} {tgt : Nat} (g : G C own b nL d) (hd : decode b pc = .ok (.ifCond .lt off, 3)) (ht : (pc : Int) + off = (tgt : Int)) (kt : x < 0 → V C tgt lv st μ) (kf : ¬ x < 0 → V C (pc + 3) lv st μ) : V C pc lv (vI x :: st) μ := by
  obtain ⟨p, l, e, R, s, m, args, below, meth, c, Q, kn, E⟩ := C
  obtain ⟨hx, hb, hml, hown, hts, hK, hi, hst, hnw, hrm, hcs, hlk⟩ := id g
  intro H locs ls hP hS hl
  exact lv_if_lt hx hb hd ht (fun q => kt q H locs ls hP hS hl) (fun q => kf q H locs ls hP hS hl)
theorem V_icmp_lt {C : Cx} {own : String} {b : ByteArray} {nL d pc : Nat} {lv : List (Nat × Vl)} {st : List Vl} {μ : Mem} {x y : Int32} {off : Int} {tgt : Nat} (g : G C own b nL d) (hd : decode b pc = .ok (.if_icmp .lt off, 3)) (ht : (pc : Int) + off = (tgt : Int)) (kt : x < y → V C tgt lv st μ) (kf : ¬ x < y → V C (pc + 3) lv st μ) : V C pc lv (vI y :: vI x :: st) μ := by
  obtain ⟨p, l, e, R, s, m, args, below, meth, c, Q, kn, E⟩ := C
  obtain ⟨hx, hb, hml, hown, hts, hK, hi, hst, hnw, hrm, hcs, hlk⟩ := id g
  intro H locs ls hP hS hl
  exact lv_icmp_lt hx hb hd ht (fun q => kt q H locs ls hP hS hl) (fun q => kf q H locs ls hP hS hl)
theorem V_if_ge {C : Cx} {own : String} {b : ByteArray} {nL d pc : Nat} {lv : List (Nat × Vl)} {st : List Vl} {μ : Mem} {x : Int32} {off : Int} {tgt : Nat} (g : G C own b nL d) (hd : decode b pc = .ok (.ifCond .ge off, 3)) (ht : (pc : Int) + off = (tgt : Int)) (kt : 0 ≤ x → V C tgt lv st μ) (kf : ¬ 0 ≤ x → V C (pc + 3) lv st μ) : V C pc lv (vI x :: st) μ := by
  obtain ⟨p, l, e, R, s, m, args, below, meth, c, Q, kn, E⟩ := C
  obtain ⟨hx, hb, hml, hown, hts, hK, hi, hst, hnw, hrm, hcs, hlk⟩ := id g
  intro H locs ls hP hS hl
  exact lv_if_ge hx hb hd ht (fun q => kt q H locs ls hP hS hl) (fun q => kf q H locs ls hP hS hl)
theorem V_icmp_ge {C : Cx} {own : String} {b : ByteArray} {nL d pc : Nat} {lv : List (Nat × Vl)} {st : List Vl} {μ : Mem} {x y : Int32} {off : Int} {tgt : Nat} (g : G C own b nL d) (hd : decode b pc = .ok (.if_icmp .ge off, 3)) (ht : (pc : Int) + off = (tgt : Int)) (kt : y ≤ x → V C tgt lv st μ) (kf : ¬ y ≤ x → V C (pc + 3) lv st μ) : V C pc lv (vI y :: vI x :: st) μ := by
  obtain ⟨p, l, e, R, s, m, args, below, meth, c, Q, kn, E⟩ := C
  obtain ⟨hx, hb, hml, hown, hts, hK, hi, hst, hnw, hrm, hcs, hlk⟩ := id g
  intro H locs ls hP hS hl
  exact lv_icmp_ge hx hb hd ht (fun q => kt q H locs ls hP hS hl) (fun q => kf q H locs ls hP hS hl)
theorem V_if_gt {C : Cx} {own : String} {b : ByteArray} {nL d pc : Nat} {lv : List (Nat × Vl)} {st : List Vl} {μ : Mem} {x : Int32} {off : Int} {tgt : Nat} (g : G C own b nL d) (hd : decode b pc = .ok (.ifCond .gt off, 3)) (ht : (pc : Int) + off = (tgt : Int)) (kt : 0 < x → V C tgt lv st μ) (kf : ¬ 0 < x → V C (pc + 3) lv st μ) : V C pc lv (vI x :: st) μ := by
  obtain ⟨p, l, e, R, s, m, args, below, meth, c, Q, kn, E⟩ := C
  obtain ⟨hx, hb, hml, hown, hts, hK, hi, hst, hnw, hrm, hcs, hlk⟩ := id g
  intro H locs ls hP hS hl
  exact lv_if_gt hx hb hd ht (fun q => kt q H locs ls hP hS hl) (fun q => kf q H locs ls hP hS hl)
theorem V_icmp_gt {C : Cx} {own : String} {b : ByteArray} {nL d pc : Nat} {lv : List (Nat × Vl)} {st : List Vl} {μ : Mem} {x y : Int32} {off : Int} {tgt : Nat} (g : G C own b nL d) (hd : decode b pc = .ok (.if_icmp .gt off, 3)) (ht : (pc : Int) + off = (tgt : Int)) (kt : y < x → V C tgt lv st μ) (kf : ¬ y < x → V C (pc + 3) lv st μ) : V C pc lv (vI y :: vI x :: st) μ := by
  obtain ⟨p, l, e, R, s, m, args, below, meth, c, Q, kn, E⟩ := C
  obtain ⟨hx, hb, hml, hown, hts, hK, hi, hst, hnw, hrm, hcs, hlk⟩ := id g
  intro H locs ls hP hS hl
  exact lv_icmp_gt hx hb hd ht (fun q => kt q H locs ls hP hS hl) (fun q => kf q H locs ls hP hS hl)
theorem V_if_le {C : Cx} {own : String} {b : ByteArray} {nL d pc : Nat} {lv : List (Nat × Vl)} {st : List Vl} {μ : Mem} {x : Int32} {off : Int} {tgt : Nat} (g : G C own b nL d) (hd : decode b pc = .ok (.ifCond .le off, 3)) (ht : (pc : Int) + off = (tgt : Int)) (kt : x ≤ 0 → V C tgt lv st μ) (kf : ¬ x ≤ 0 → V C (pc + 3) lv st μ) : V C pc lv (vI x :: st) μ := by
  obtain ⟨p, l, e, R, s, m, args, below, meth, c, Q, kn, E⟩ := C
  obtain ⟨hx, hb, hml, hown, hts, hK, hi, hst, hnw, hrm, hcs, hlk⟩ := id g
  intro H locs ls hP hS hl
  exact lv_if_le hx hb hd ht (fun q => kt q H locs ls hP hS hl) (fun q => kf q H locs ls hP hS hl)
theorem V_icmp_le {C : Cx} {own : String} {b : ByteArray} {nL d pc : Nat} {lv : List (Nat × Vl)} {st : List Vl} {μ : Mem} {x y : Int32} {off : Int} {tgt : Nat} (g : G C own b nL d) (hd : decode b pc = .ok (.if_icmp .le off, 3)) (ht : (pc : Int) + off = (tgt : Int)) (kt : x ≤ y → V C tgt lv st μ) (kf : ¬ x ≤ y → V C (pc + 3) lv st μ) : V C pc lv (vI y :: vI x :: st) μ := by
  obtain ⟨p, l, e, R, s, m, args, below, meth, c, Q, kn, E⟩ := C
  obtain ⟨hx, hb, hml, hown, hts, hK, hi, hst, hnw, hrm, hcs, hlk⟩ := id g
  intro H locs ls hP hS hl
  exact lv_icmp_le hx hb hd ht (fun q => kt q H locs ls hP hS hl) (fun q => kf q H locs ls hP hS hl)
theorem V_goto {C : Cx} {own : String} {b : ByteArray} {nL d pc : Nat} {lv : List (Nat × Vl)} {st : List Vl} {μ : Mem} {off : Int} {tgt : Nat} (g : G C own b nL d) (hd : decode b pc = .ok (.goto off, 3)) (ht : (pc : Int) + off = (tgt : Int)) (k : V C tgt lv st μ) : V C pc lv st μ := by
  obtain ⟨p, l, e, R, s, m, args, below, meth, c, Q, kn, E⟩ := C
  obtain ⟨hx, hb, hml, hown, hts, hK, hi, hst, hnw, hrm, hcs, hlk⟩ := id g
  intro H locs ls hP hS hl
  exact lv_goto hx hb hd ht (k H locs ls hP hS hl)
theorem V_tableIn {C : Cx} {own : String} {b : ByteArray} {nL d pc : Nat} {lv : List (Nat × Vl)} {st : List Vl} {μ : Mem} {dflt lo hi : Int} {offs : Array Int} {len : Nat} {x : Int32} {off : Int} {tgt : Nat} (g : G C own b nL d) (hd : decode b pc = .ok (.tableswitch dflt lo hi offs, len)) (h1 : ¬ x.toInt < lo) (h2 : ¬ hi < x.toInt) (ho : offs[(x.toInt - lo).toNat]? = some off) (ht : (pc : Int) + off = (tgt : Int)) (k : V C tgt lv st μ) : V C pc lv (vI x :: st) μ := by
  obtain ⟨p, l, e, R, s, m, args, below, meth, c, Q, kn, E⟩ := C
  obtain ⟨hx, hb, hml, hown, hts, hK, hi, hst, hnw, hrm, hcs, hlk⟩ := id g
  intro H locs ls hP hS hl
  exact lv_tableIn hx hb hd h1 h2 ho ht (k H locs ls hP hS hl)
theorem V_tableOut {C : Cx} {own : String} {b : ByteArray} {nL d pc : Nat} {lv : List (Nat × Vl)} {st : List Vl} {μ : Mem} {dflt lo hi : Int} {offs : Array Int} {len : Nat} {x : Int32} {tgt : Nat} (g : G C own b nL d) (hd : decode b pc = .ok (.tableswitch dflt lo hi offs, len)) (h : x.toInt < lo ∨ hi < x.toInt) (ht : (pc : Int) + dflt = (tgt : Int)) (k : V C tgt lv st μ) : V C pc lv (vI x :: st) μ := by
  obtain ⟨p, l, e, R, s, m, args, below, meth, c, Q, kn, E⟩ := C
  obtain ⟨hx, hb, hml, hown, hts, hK, hi, hst, hnw, hrm, hcs, hlk⟩ := id g
  intro H locs ls hP hS hl
  exact lv_tableOut hx hb hd h ht (k H locs ls hP hS hl)
theorem V_lookup {C : Cx} {own : String} {b : ByteArray} {nL d pc : Nat} {lv : List (Nat × Vl)} {st : List Vl} {μ : Mem} {dflt : Int} {ps : Array (Int × Int)} {len : Nat} {x : Int32} {off : Int} {tgt : Nat} (g : G C own b nL d) (hd : decode b pc = .ok (.lookupswitch dflt ps, len)) (hp : (ps.toList.zip (ps.toList.drop 1)).all (fun (a, next) => a.1 < next.1) = true) (ho : Op.lookupswitch.offset ps.toList dflt x.toInt = off) (ht : (pc : Int) + off = (tgt : Int)) (k : V C tgt lv st μ) : V C pc lv (vI x :: st) μ := by
  obtain ⟨p, l, e, R, s, m, args, below, meth, c, Q, kn, E⟩ := C
  obtain ⟨hx, hb, hml, hown, hts, hK, hi, hst, hnw, hrm, hcs, hlk⟩ := id g
  intro H locs ls hP hS hl
  exact lv_lookup hx hb hd hp ho ht (k H locs ls hP hS hl)
theorem V_getI {C : Cx} {own : String} {b : ByteArray} {nL d pc : Nat} {lv : List (Nat × Vl)} {st : List Vl} {μ : Mem} {j idx ci f : Nat} {fds : List (Option Nat)} (g : G C own b nL d) (hd : decode b pc = .ok (.getfield idx, 3)) (hf : FLk own idx ci f) (hs : Sh[j]? = some (.inl (ci, fds))) (hk : fds[f]? = some none) (k : V C (pc + 3) lv (vI (μ j f) :: st) μ) : V C pc lv (vR j :: st) μ := by
  obtain ⟨p, l, e, R, s, m, args, below, meth, c, Q, kn, E⟩ := C
  obtain ⟨hx, hb, hml, hown, hts, hK, hi, hst, hnw, hrm, hcs, hlk⟩ := id g
  intro H locs ls hP hS hl
  obtain ⟨⟨Cn, T, N⟩, hcl, hlt, hlk2⟩ := hf
  exact va_get (C := Cn) (T := T) (N := N) (ref := (T f).1) hx hb hts (cls_in hcl) hown hK hP j (cells_at hs) hcl f hlt (hts _ hlk2) (fun _ h => h) (v := .int (μ j f)) (by rw [List.getElem?_mapIdx, hk]; rfl) hd (k H locs ls hP hS hl)
theorem V_getR {C : Cx} {own : String} {b : ByteArray} {nL d pc : Nat} {lv : List (Nat × Vl)} {st : List Vl} {μ : Mem} {j r idx ci f : Nat} {fds : List (Option Nat)} (g : G C own b nL d) (hd : decode b pc = .ok (.getfield idx, 3)) (hf : FLk own idx ci f) (hs : Sh[j]? = some (.inl (ci, fds))) (hk : fds[f]? = some (some r)) (k : V C (pc + 3) lv (vR r :: st) μ) : V C pc lv (vR j :: st) μ := by
  obtain ⟨p, l, e, R, s, m, args, below, meth, c, Q, kn, E⟩ := C
  obtain ⟨hx, hb, hml, hown, hts, hK, hi, hst, hnw, hrm, hcs, hlk⟩ := id g
  intro H locs ls hP hS hl
  obtain ⟨⟨Cn, T, N⟩, hcl, hlt, hlk2⟩ := hf
  exact va_get (C := Cn) (T := T) (N := N) (ref := (T f).1) hx hb hts (cls_in hcl) hown hK hP j (cells_at hs) hcl f hlt (hts _ hlk2) (fun _ h => h) (v := .ref (E.2.2.1 r)) (by rw [List.getElem?_mapIdx, hk]; rfl) hd (k H locs ls hP hS hl)
theorem V_putI {C : Cx} {own : String} {b : ByteArray} {nL d pc : Nat} {lv : List (Nat × Vl)} {st : List Vl} {μ : Mem} {j idx ci f : Nat} {fds : List (Option Nat)} {x : Int32} (g : G C own b nL d) (hd : decode b pc = .ok (.putfield idx, 3)) (hf : FLk own idx ci f) (hs : Sh[j]? = some (.inl (ci, fds))) (hk : fds[f]? = some none) (hi : fldI ci f = true) (k : V C (pc + 3) lv st (setc μ j (upd (μ j) f x))) : V C pc lv (vI x :: vR j :: st) μ := by
  obtain ⟨p, l, e, R, s, m, args, below, meth, c, Q, kn, E⟩ := C
  obtain ⟨hx, hb, hml, hown, hts, hK, hi0, hst, hnw, hrm, hcs, hlk⟩ := id g
  intro H locs ls hP hS hl
  obtain ⟨⟨Cn, T, N⟩, hcl, hlt, hlk2⟩ := hf
  obtain ⟨ty0, ht0, hnm, hfin, hdI⟩ := fldI_spec hcl hi hlt
  refine va_put (C := Cn) (T := T) (N := N) (ref := (T f).1) hx hb hts (cls_in hcl) ty0 ht0 hnm hown hK hP (cells_D hi0 μ) hS j (cells_at hs) hcl f hlt (hts _ hlk2) (fun _ h => h) hfin hdI rfl rfl (by rw [List.length_mapIdx]; exact (List.getElem?_eq_some_iff.mp hk).1) hd (fun H1 locs1 hP1 hD1 hS1 => ?_)
  exact k H1 locs1 ls (cells_set (E := E) hs (f := upd (μ j) f x) (ent_put (E := E) hk) ▸ hP1) hS1 hl
theorem V_iald {C : Cx} {own : String} {b : ByteArray} {nL d pc : Nat} {lv : List (Nat × Vl)} {st : List Vl} {μ : Mem} {j n : Nat} {i : Int32} (g : G C own b nL d) (hd : decode b pc = .ok (.iaload, 1)) (hs : Sh[j]? = some (.inr (0, n, []))) (hin : vp_in i n) (k : V C (pc + 1) lv (vI (μ j i.toNatClampNeg) :: st) μ) : V C pc lv (vI i :: vR j :: st) μ := by
  obtain ⟨p, l, e, R, s, m, args, below, meth, c, Q, kn, E⟩ := C
  obtain ⟨hx, hb, hml, hown, hts, hK, hi, hst, hnw, hrm, hcs, hlk⟩ := id g
  intro H locs ls hP hS hl
  exact va_iald (f := μ j) hx hb hK hP j 0 (cells_at hs) rfl hin hd (k H locs ls hP hS hl)
theorem V_zald {C : Cx} {own : String} {b : ByteArray} {nL d pc : Nat} {lv : List (Nat × Vl)} {st : List Vl} {μ : Mem} {j n : Nat} {i : Int32} (g : G C own b nL d) (hd : decode b pc = .ok (.baload, 1)) (hs : Sh[j]? = some (.inr (1, n, []))) (hin : vp_in i n) (k : V C (pc + 1) lv (vI (μ j i.toNatClampNeg) :: st) μ) : V C pc lv (vI i :: vR j :: st) μ := by
  obtain ⟨p, l, e, R, s, m, args, below, meth, c, Q, kn, E⟩ := C
  obtain ⟨hx, hb, hml, hown, hts, hK, hi, hst, hnw, hrm, hcs, hlk⟩ := id g
  intro H locs ls hP hS hl
  exact va_zald (f := μ j) hx hb hK hP j 1 (cells_at hs) rfl hin hd (k H locs ls hP hS hl)
theorem V_iast {C : Cx} {own : String} {b : ByteArray} {nL d pc : Nat} {lv : List (Nat × Vl)} {st : List Vl} {μ : Mem} {j n : Nat} {i x : Int32} (g : G C own b nL d) (hd : decode b pc = .ok (.iastore, 1)) (hs : Sh[j]? = some (.inr (0, n, []))) (hin : vp_in i n) (k : V C (pc + 1) lv st (setc μ j (upd (μ j) i.toNatClampNeg x))) : V C pc lv (vI x :: vI i :: vR j :: st) μ := by
  obtain ⟨p, l, e, R, s, m, args, below, meth, c, Q, kn, E⟩ := C
  obtain ⟨hx, hb, hml, hown, hts, hK, hi, hst, hnw, hrm, hcs, hlk⟩ := id g
  intro H locs ls hP hS hl
  refine va_iast (f := μ j) hx hb hK hP (cells_D hi μ) hS j 0 (cells_at hs) rfl hin hd (fun H1 locs1 hP1 hD1 hS1 => ?_)
  rw [cells_set hs (f := upd (μ j) i.toNatClampNeg x) (ent_arr (Nat.zero_le _))] at hP1
  exact k H1 locs1 ls hP1 hS1 hl
theorem V_zast {C : Cx} {own : String} {b : ByteArray} {nL d pc : Nat} {lv : List (Nat × Vl)} {st : List Vl} {μ : Mem} {j n : Nat} {i x : Int32} (g : G C own b nL d) (hd : decode b pc = .ok (.bastore, 1)) (hs : Sh[j]? = some (.inr (1, n, []))) (hin : vp_in i n) (hb1 : x = 0 ∨ x = 1) (k : V C (pc + 1) lv st (setc μ j (upd (μ j) i.toNatClampNeg x))) : V C pc lv (vI x :: vI i :: vR j :: st) μ := by
  obtain ⟨p, l, e, R, s, m, args, below, meth, c, Q, kn, E⟩ := C
  obtain ⟨hx, hb, hml, hown, hts, hK, hi, hst, hnw, hrm, hcs, hlk⟩ := id g
  intro H locs ls hP hS hl
  have hnx : vp_nar .boolean x = x := by rcases hb1 with rfl | rfl <;> decide
  refine va_zast (f := μ j) hx hb hK hP (cells_D hi μ) hS j 1 (cells_at hs) rfl hin hd (fun H1 locs1 hP1 hD1 hS1 => ?_)
  rw [hnx, cells_set hs (f := upd (μ j) i.toNatClampNeg x) (ent_arr (Nat.le_refl _))] at hP1
  exact k H1 locs1 ls hP1 hS1 hl
theorem V_ald2 {C : Cx} {own : String} {b : ByteArray} {nL d pc : Nat} {lv : List (Nat × Vl)} {st : List Vl} {μ : Mem} {j n r : Nat} {i : Int32} {rs : List Nat} (g : G C own b nL d) (hd : decode b pc = .ok (.aaload, 1)) (hs : Sh[j]? = some (.inr (2, n, rs))) (hin : vp_in i n) (hr : rs[i.toNatClampNeg]? = some r) (k : V C (pc + 1) lv (vR r :: st) μ) : V C pc lv (vI i :: vR j :: st) μ := by
  obtain ⟨p, l, e, R, s, m, args, below, meth, c, Q, kn, E⟩ := C
  obtain ⟨hx, hb, hml, hown, hts, hK, hi, hst, hnw, hrm, hcs, hlk⟩ := id g
  intro H locs ls hP hS hl
  refine va_aldq (f := fun i => (rs[i]?).map E.2.2.1) hx hb hK hP j 2 (cells_at hs) rfl hin hd ?_
  have := k H locs ls hP hS hl
  simp only [hr]
  exact this
theorem V_ald3 {C : Cx} {own : String} {b : ByteArray} {nL d pc : Nat} {lv : List (Nat × Vl)} {st : List Vl} {μ : Mem} {j n r : Nat} {i : Int32} {rs : List Nat} (g : G C own b nL d) (hd : decode b pc = .ok (.aaload, 1)) (hs : Sh[j]? = some (.inr (3, n, rs))) (hin : vp_in i n) (hr : rs[i.toNatClampNeg]? = some r) (k : V C (pc + 1) lv (vR r :: st) μ) : V C pc lv (vI i :: vR j :: st) μ := by
  obtain ⟨p, l, e, R, s, m, args, below, meth, c, Q, kn, E⟩ := C
  obtain ⟨hx, hb, hml, hown, hts, hK, hi, hst, hnw, hrm, hcs, hlk⟩ := id g
  intro H locs ls hP hS hl
  have hlt : i.toNatClampNeg < n := Nat.not_le.mp fun q => hin (Or.inr q)
  have := k H locs ls hP hS hl
  exact W.aald (v := .ref (E.2.2.1 r)) (ty := .array .int) hx hb (hP j _ (cells_at hs)) ((hK.2 3 _ rfl).1 n (fun q => va_rf ((rs[q]?).map E.2.2.1))) rfl (fun q => by cases q) (by show ¬ (i < 0 ∨ (arrV _ _ _).slots.size ≤ _); rw [arrV_size]; exact hin) (by show (arrV _ _ _).slots[_]? = _; rw [arrV_read _ _ hlt]; simp only [hr]; rfl) rfl rfl hd this
theorem V_alen {C : Cx} {own : String} {b : ByteArray} {nL d pc : Nat} {lv : List (Nat × Vl)} {st : List Vl} {μ : Mem} {j t n : Nat} {rs : List Nat} {v : Int32} (g : G C own b nL d) (hd : decode b pc = .ok (.arraylength, 1)) (hs : Sh[j]? = some (.inr (t, n, rs))) (ht : t < 4) (hv : Int32.ofNat n = v) (k : V C (pc + 1) lv (vI v :: st) μ) : V C pc lv (vR j :: st) μ := by
  obtain ⟨p, l, e, R, s, m, args, below, meth, c, Q, kn, E⟩ := C
  obtain ⟨hx, hb, hml, hown, hts, hK, hi, hst, hnw, hrm, hcs, hlk⟩ := id g
  intro H locs ls hP hS hl
  obtain ⟨ty, hty⟩ : ∃ ty, (tysE E)[t]? = some (E.2.2.2 t, ty) := by
    rcases (show t = 0 ∨ t = 1 ∨ t = 2 ∨ t = 3 by omega) with rfl | rfl | rfl | rfl <;> exact ⟨_, rfl⟩
  exact va_alen hx hb hK hP j t (cells_at hs) hty hv hd (k H locs ls hP hS hl)
theorem V_getSz {C : Cx} {own : String} {b : ByteArray} {nL d pc : Nat} {lv : List (Nat × Vl)} {st : List Vl} {μ : Mem} {idx : Nat} (g : G C own b nL d) (hd : decode b pc = .ok (.getstatic idx, 3)) (hf : Cond.fieldLink own idx "SleepingJudge$Asking" "SIZE_BODIES" "[I" ∈ gw_tbl) (k : V C (pc + 3) lv (vR 85 :: st) μ) : V C pc lv (st) μ := by
  obtain ⟨p, l, e, R, s, m, args, below, meth, c, Q, kn, E⟩ := C
  obtain ⟨hx, hb, hml, hown, hts, hK, hi, hst, hnw, hrm, hcs, hlk⟩ := id g
  intro H locs ls hP hS hl
  exact va_gets hx hb hst.1.1 hS hown (hts _ hf) (fun _ h => h) hd (k H locs ls hP hS hl)
theorem V_getMk {C : Cx} {own : String} {b : ByteArray} {nL d pc : Nat} {lv : List (Nat × Vl)} {st : List Vl} {μ : Mem} {idx : Nat} (g : G C own b nL d) (hd : decode b pc = .ok (.getstatic idx, 3)) (hf : Cond.fieldLink own idx "SleepingJudge$Asking" "MARK_BODIES" "[I" ∈ gw_tbl) (k : V C (pc + 3) lv (vR 86 :: st) μ) : V C pc lv (st) μ := by
  obtain ⟨p, l, e, R, s, m, args, below, meth, c, Q, kn, E⟩ := C
  obtain ⟨hx, hb, hml, hown, hts, hK, hi, hst, hnw, hrm, hcs, hlk⟩ := id g
  intro H locs ls hP hS hl
  exact va_gets hx hb hst.2.1 hS hown (hts _ hf) (fun _ h => h) hd (k H locs ls hP hS hl)
theorem V_ldSz {C : Cx} {own : String} {b : ByteArray} {nL d pc : Nat} {lv : List (Nat × Vl)} {st : List Vl} {μ : Mem} {i : Int32} (g : G C own b nL d) (hd : decode b pc = .ok (.iaload, 1)) (hin : vp_in i 6) (k : V C (pc + 1) lv (vI (szB i.toNatClampNeg) :: st) μ) : V C pc lv (vI i :: vR 85 :: st) μ := by
  obtain ⟨p, l, e, R, s, m, args, below, meth, c, Q, kn, E⟩ := C
  obtain ⟨hx, hb, hml, hown, hts, hK, hi, hst, hnw, hrm, hcs, hlk⟩ := id g
  intro H locs ls hP hS hl
  exact va_ti hx hb hst.1.2 hS hin rfl hd (k H locs ls hP hS hl)
theorem V_ldMk {C : Cx} {own : String} {b : ByteArray} {nL d pc : Nat} {lv : List (Nat × Vl)} {st : List Vl} {μ : Mem} {i : Int32} (g : G C own b nL d) (hd : decode b pc = .ok (.iaload, 1)) (hin : vp_in i 6) (k : V C (pc + 1) lv (vI (mkB i.toNatClampNeg) :: st) μ) : V C pc lv (vI i :: vR 86 :: st) μ := by
  obtain ⟨p, l, e, R, s, m, args, below, meth, c, Q, kn, E⟩ := C
  obtain ⟨hx, hb, hml, hown, hts, hK, hi, hst, hnw, hrm, hcs, hlk⟩ := id g
  intro H locs ls hP hS hl
  exact va_ti hx hb hst.2.2 hS hin rfl hd (k H locs ls hP hS hl)
theorem V_acopy {C : Cx} {own : String} {b : ByteArray} {nL d pc : Nat} {lv : List (Nat × Vl)} {st : List Vl} {μ : Mem} {i j n0 n1 idx : Nat} {sp dp n : Int32} (g : G C own b nL d) (hd : decode b pc = .ok (.invokestatic idx, 3)) (hm : Cond.methodLink own idx arraycopyName ∈ gw_tbl) (h0 : Sh[i]? = some (.inr (0, n0, []))) (h1 : Sh[j]? = some (.inr (0, n1, []))) (hsp : ¬ sp < 0) (hdp : ¬ dp < 0) (hn : ¬ n < 0) (h4 : sp.toNatClampNeg + n.toNatClampNeg ≤ n0) (h5 : dp.toNatClampNeg + n.toNatClampNeg ≤ n1) (hw : Nat.ble (st.map cat).sum 8 = true) (k : V C (pc + 3) lv st (setc μ j (va_cpy (μ i) (μ j) sp.toNatClampNeg dp.toNatClampNeg n.toNatClampNeg))) : V C pc lv (vI n :: vI dp :: vR j :: vI sp :: vR i :: st) μ := by
  obtain ⟨p, l, e, R, s, m, args, below, meth, c, Q, kn, E⟩ := C
  obtain ⟨hx, hb, hml, hown, hts, hK, hi, hst, hnw, hrm, hcs, hlk⟩ := id g
  intro H locs ls hP hS hl
  refine va_copyi (f := μ i) (g := μ j) (rest := st.map (dv E)) hx hb hl.1.symm hown (hts _ hm) (hts _ acopy_nat) (hts _ acopy_st) (hts _ ini_J10) hK hP (cells_D hi μ) hS i j 0 0 (cells_at h0) (cells_at h1) rfl rfl rfl hsp hdp hn h4 h5 (fun _ _ => rfl) (by omega) (by rw [cat_sum E st]; have := Nat.le_of_ble_eq_true hw; have h9 : nativeFrameWords "java/lang/System" "arraycopy" 5 ≤ 200 := (by decide +kernel); omega) hd (fun H1 locs1 hP1 hD1 hS1 => ?_)
  rw [cells_set h1 (f := va_cpy (μ i) (μ j) sp.toNatClampNeg dp.toNatClampNeg n.toNatClampNeg) (ent_arr (Nat.zero_le _))] at hP1
  exact k H1 locs1 ls hP1 hS1 hl
theorem V_mmax {C : Cx} {own : String} {b : ByteArray} {nL d pc : Nat} {lv : List (Nat × Vl)} {st : List Vl} {μ : Mem} {x y : Int32} {idx : Nat} (g : G C own b nL d) (hd : decode b pc = .ok (.invokestatic idx, 3)) (hm : Cond.methodLink own idx yJ9_max_7cf53 ∈ gw_tbl) (hw : Nat.ble (st.map cat).sum 8 = true) (k : V C (pc + 3) lv (vI (if x < y then y else x) :: st) μ) : V C pc lv (vI y :: vI x :: st) μ := by
  obtain ⟨p, l, e, R, s, m, args, below, meth, c, Q, kn, E⟩ := C
  obtain ⟨hx, hb, hml, hown, hts, hK, hi, hst, hnw, hrm, hcs, hlk⟩ := id g
  intro H locs ls hP hS hl
  exact va_mmax (rest := st.map (dv E)) hx hb hl.1.symm hown (hts _ hm) (hts _ mo_J9_max_7cf53.2) (hts _ ini_J9) (hts _ mo_J9_max_7cf53.1.1) (by omega) (by rw [cat_sum E st]; have := Nat.le_of_ble_eq_true hw; omega) hcs.1 hcs.2 hd (k H locs ls hP hS hl)
theorem V_mmin {C : Cx} {own : String} {b : ByteArray} {nL d pc : Nat} {lv : List (Nat × Vl)} {st : List Vl} {μ : Mem} {x y : Int32} {idx : Nat} (g : G C own b nL d) (hd : decode b pc = .ok (.invokestatic idx, 3)) (hm : Cond.methodLink own idx yJ9_min_7cf53 ∈ gw_tbl) (hw : Nat.ble (st.map cat).sum 8 = true) (k : V C (pc + 3) lv (vI (if y < x then y else x) :: st) μ) : V C pc lv (vI y :: vI x :: st) μ := by
  obtain ⟨p, l, e, R, s, m, args, below, meth, c, Q, kn, E⟩ := C
  obtain ⟨hx, hb, hml, hown, hts, hK, hi, hst, hnw, hrm, hcs, hlk⟩ := id g
  intro H locs ls hP hS hl
  exact va_mmin (rest := st.map (dv E)) hx hb hl.1.symm hown (hts _ hm) (hts _ mo_J9_min_7cf53.2) (hts _ ini_J9) (hts _ mo_J9_min_7cf53.1.1) (by omega) (by rw [cat_sum E st]; have := Nat.le_of_ble_eq_true hw; omega) hcs.1 hcs.2 hd (k H locs ls hP hS hl)
theorem V_iret {C : Cx} {own : String} {b : ByteArray} {nL d pc : Nat} {lv : List (Nat × Vl)} {μ : Mem} {x : Int32} (g : G C own b nL d) (hd : decode b pc = .ok (.ireturn, 1))  (hR : Rt C (some .int) (some (vI x)) μ) : V C pc lv ([vI x]) μ := by
  obtain ⟨p, l, e, R, s, m, args, below, meth, c, Q, kn, E⟩ := C
  obtain ⟨hx, hb, hml, hown, hts, hK, hi, hst, hnw, hrm, hcs, hlk⟩ := id g
  obtain ⟨hr, hk, hQ⟩ := hR
  subst hk; subst hQ
  intro H locs ls hP hS hl
  exact W.iret hx hb hr (fun t ht hW => ⟨rfl, Wo.at ht hP hK hi hst hnw hS hW, hS.F ht⟩) hS.2.2 hd hlk
theorem V_zret {C : Cx} {own : String} {b : ByteArray} {nL d pc : Nat} {lv : List (Nat × Vl)} {μ : Mem} {x : Int32} (g : G C own b nL d) (hd : decode b pc = .ok (.ireturn, 1)) (hz : x = 0 ∨ x = 1) (hR : Rt C (some .boolean) (some (vI x)) μ) : V C pc lv ([vI x]) μ := by
  obtain ⟨p, l, e, R, s, m, args, below, meth, c, Q, kn, E⟩ := C
  obtain ⟨hx, hb, hml, hown, hts, hK, hi, hst, hnw, hrm, hcs, hlk⟩ := id g
  obtain ⟨hr, hk, hQ⟩ := hR
  subst hk; subst hQ
  intro H locs ls hP hS hl
  exact W.zret hx hb hr (by rcases hz with rfl | rfl <;> decide) (fun t ht hW => ⟨rfl, Wo.at ht hP hK hi hst hnw hS hW, hS.F ht⟩) hS.2.2 hd hlk
theorem V_lret {C : Cx} {own : String} {b : ByteArray} {nL d pc : Nat} {lv : List (Nat × Vl)} {μ : Mem} {x : Int64} (g : G C own b nL d) (hd : decode b pc = .ok (.lreturn, 1))  (hR : Rt C (some .long) (some (vL x)) μ) : V C pc lv ([vL x]) μ := by
  obtain ⟨p, l, e, R, s, m, args, below, meth, c, Q, kn, E⟩ := C
  obtain ⟨hx, hb, hml, hown, hts, hK, hi, hst, hnw, hrm, hcs, hlk⟩ := id g
  obtain ⟨hr, hk, hQ⟩ := hR
  subst hk; subst hQ
  intro H locs ls hP hS hl
  exact W.lret hx hb hr (fun t ht hW => ⟨rfl, Wo.at ht hP hK hi hst hnw hS hW, hS.F ht⟩) hS.2.2 hd hlk
theorem V_vret {C : Cx} {own : String} {b : ByteArray} {nL d pc : Nat} {lv : List (Nat × Vl)} {μ : Mem}  (g : G C own b nL d) (hd : decode b pc = .ok (.return_, 1))  (hR : Rt C none (none) μ) : V C pc lv ([]) μ := by
  obtain ⟨p, l, e, R, s, m, args, below, meth, c, Q, kn, E⟩ := C
  obtain ⟨hx, hb, hml, hown, hts, hK, hi, hst, hnw, hrm, hcs, hlk⟩ := id g
  obtain ⟨hr, hk, hQ⟩ := hR
  subst hk; subst hQ
  intro H locs ls hP hS hl
  exact W.vret hx hb hr (fun t ht hW => ⟨rfl, Wo.at ht hP hK hi hst hnw hS hW, hS.F ht⟩) hS.2.2 hd hlk
theorem V_run {C : Cx} {own : String} {b : ByteArray} {nL d pc : Nat} {lv : List (Nat × Vl)} {st : List Vl} {μ : Mem} {y : MethodName} {b' : ByteArray} {n' d' : Nat} {ret : Option FieldType} {as : List Vl} {r : Option Vl} {μ' : Mem} {st0 : List Vl} (g : G C own b nL d) (hct : Ct y b' n' ret d' as μ r μ')
    (run : match C with | (p, l, e, R, s, m, args, below, meth, c, Q, kn, E) => ∀ (H : Heap) (locs : List Loc) (ls : Array Slot), va_P (E.1, E.2.1) classes (cells E μ) H → va_S (Ad E) s.heap H locs → lv_has ls c.maxLocals (dl E lv) → va_Run p l e R s m args below meth c H locs kn.1 kn.2 0 0 (F0 m pc ls (st0.map (dv E))) (st.map (dv E)) (QQ E r μ' (as.map (dv E)).toArray) (Ad E))
    (k : V C (pc + 3) lv (r.toList ++ st) μ') : V C pc lv st0 μ := by
  obtain ⟨p, l, e, R, s, m, args, below, meth, c, Q, kn, E⟩ := C
  obtain ⟨hx, hb, hml, hown, hts, hK, hi, hst, hnw, hrm, hcs, hlk⟩ := id g
  intro H locs ls hP hS hl
  intro T hT X
  obtain ⟨v, st₀, t, T', L, h0, X', hL, e1, e2, ⟨hv, hWo, hz, hk⟩, stp⟩ := run H locs ls hP hS hl T hT X
  have hv' : v = r.map (dv E) := by cases hv; rfl
  subst hv'
  rw [h0] at hz hk
  obtain ⟨t2, a1, b1⟩ := k T'.heap (locs ++ L) ls (by rw [e1]; exact hWo.1) ⟨Nat.le_trans hS.1 (by rw [e1]; exact hz), fun q h1 h2 => by rw [e1, hk q (Nat.lt_of_lt_of_le h1 hS.1) h2]; exact hS.2.1 q h1 h2, fun q hq => by
      rcases List.mem_append.mp hq with h | h
      · exact hS.2.2 q h
      · exact hL q h⟩ hl T' rfl X'
  refine ⟨t2, stp t2 ?_, b1⟩
  have ev : (r.map (dv E)).toList ++ st.map (dv E) = (r.toList ++ st).map (dv E) := by cases r <;> rfl
  rw [ev]
  exact a1
theorem V_callV {C : Cx} {own : String} {b : ByteArray} {nL d pc : Nat} {lv : List (Nat × Vl)} {st : List Vl} {μ : Mem} {y : MethodName} {b' : ByteArray} {n' d' np idx j ci : Nat} {ret : Option FieldType} {as : List Vl} {r : Option Vl} {μ' : Mem} {st0 : List Vl} {fds : List (Option Nat)} (g : G C own b nL d) (hd : decode b pc = .ok (.invokevirtual idx, 3)) (hm : Cond.methodLink own idx y ∈ gw_tbl) (mo : Mi y b' n' ret np) (hs : Sh[j]? = some (.inl (ci, fds))) (hcl : (classes[ci]?).map (fun q => q.1) = some y.cls) (hct : Ct y b' n' ret d' (vR j :: as) μ r μ') (hdd : d' < d) (hn' : n' ≤ 200) (hnp : as.length = np) (h0 : st0 = as.reverse ++ vR j :: st) (hw : Nat.ble (st.map cat).sum 8 = true)
    (k : V C (pc + 3) lv (r.toList ++ st) μ') : V C pc lv st0 μ := by
  refine V_run g hct ?_ k
  obtain ⟨p, l, e, R, s, m, args, below, meth, c, Q, kn, E⟩ := C
  obtain ⟨hx, hb, hml, hown, hts, hK, hi, hst, hnw, hrm, hcs, hlk⟩ := id g
  intro H locs ls hP hS hl
  obtain ⟨⟨m1, m2, m3⟩, m4, m5⟩ := mo
  obtain ⟨q, hq, hqe⟩ : ∃ q, classes[ci]? = some q ∧ q.1 = y.cls := by
    cases hc : classes[ci]? with
    | none => rw [hc] at hcl; cases hcl
    | some q => rw [hc] at hcl; exact ⟨q, rfl, Option.some.inj hcl⟩
  have hrecv := va_recv hK hP hq (q0 := j) (cells_at hs)
  rw [hqe] at hrecv
  refine va_runV (C := y.cls) (bytes := b') (maxL := n') (ret := ret) (ws := Cond.code y b' n' ret :: gw_tbl) (rm := rmD d') (n := np) (index := idx) (As := as.map (dv E)) (rest := st.map (dv E)) (b := E.2.2.1 j) ⟨hx, hb, hml, hown, hts⟩ (hct l E)
    ⟨callB_of np hts (gw_ok m1) rfl rfl rfl (hts _ m2) (hts _ hm) m3 ⟨by show d' + 1 + 1 ≤ _; omega, by show 8 + (n' + 11) + 256 * (d' + 1) ≤ _; omega⟩, hts _ m4, hts _ m5⟩ ⟨Wo.blind, hrecv, fun U hU hW => ⟨rfl, Wo.at hU hP hK hi hst hnw hS hW⟩⟩ rfl (by rw [List.length_map]; exact hnp) (hl.1.trans hml) ?_ (lv_room (by rw [cat_sum E st]; exact Nat.le_of_ble_eq_true hw)) hd ⟨by omega, by omega⟩
  rw [h0]
  show List.map (dv E) (as.reverse ++ vR j :: st) = _
  rw [List.map_append, List.map_reverse]
  rfl
theorem V_callS {C : Cx} {own : String} {b : ByteArray} {nL d pc : Nat} {lv : List (Nat × Vl)} {st : List Vl} {μ : Mem} {y : MethodName} {b' : ByteArray} {n' d' np idx : Nat} {ret : Option FieldType} {as : List Vl} {r : Option Vl} {μ' : Mem} {st0 : List Vl} (g : G C own b nL d) (hd : decode b pc = .ok (.invokestatic idx, 3)) (hm : Cond.methodLink own idx y ∈ gw_tbl) (mo : Ms y b' n' ret np) (hct : Ct y b' n' ret d' as μ r μ') (hdd : d' < d) (hn' : n' ≤ 200) (hnp : as.length = np) (h0 : st0 = as.reverse ++ st) (hw : Nat.ble (st.map cat).sum 8 = true)
    (k : V C (pc + 3) lv (r.toList ++ st) μ') : V C pc lv st0 μ := by
  refine V_run g hct ?_ k
  obtain ⟨p, l, e, R, s, m, args, below, meth, c, Q, kn, E⟩ := C
  obtain ⟨hx, hb, hml, hown, hts, hK, hi, hst, hnw, hrm, hcs, hlk⟩ := id g
  intro H locs ls hP hS hl
  obtain ⟨⟨m1, m2, m3⟩, m4⟩ := mo
  refine va_runS (bytes := b') (maxL := n') (ret := ret) (ws := Cond.code y b' n' ret :: gw_tbl) (rm := rmD d') (n := np) (index := idx) (As := as.map (dv E)) (rest := st.map (dv E)) ⟨hx, hb, hml, hown, hts⟩ (hct l E)
    ⟨callB_of np hts (gw_ok m1) rfl rfl rfl (hts _ m2) (hts _ hm) m3 ⟨by show d' + 1 + 1 ≤ _; omega, by show 8 + (n' + 11) + 256 * (d' + 1) ≤ _; omega⟩, hts _ m4⟩ ⟨Wo.blind, fun U hU hW => ⟨rfl, Wo.at hU hP hK hi hst hnw hS hW⟩⟩ rfl (by rw [List.length_map]; exact hnp) (hl.1.trans hml) ?_ (lv_room (by rw [cat_sum E st]; exact Nat.le_of_ble_eq_true hw)) hd ⟨by omega, by omega⟩
  rw [h0]
  show List.map (dv E) (as.reverse ++ st) = _
  rw [List.map_append, List.map_reverse]
theorem V_callP {C : Cx} {own : String} {b : ByteArray} {nL d pc : Nat} {lv : List (Nat × Vl)} {st : List Vl} {μ : Mem} {d' : Nat} {as : List Vl} {r : Option Vl} {μ' : Mem} {st0 : List Vl} (g : G C RX2 b nL d) (hd : decode b pc = .ok (.invokestatic 108, 3)) (hct : Ct yX9_power cX9_power 5 (some .long) d' as μ r μ') (hdd : d' < d) (hnp : as.length = 2) (h0 : st0 = as.reverse ++ st) (hw : Nat.ble (st.map cat).sum 8 = true)
    (k : V C (pc + 3) lv (r.toList ++ st) μ') : V C pc lv st0 μ := by
  refine V_run g hct ?_ k
  obtain ⟨p, l, e, R, s, m, args, below, meth, c, Q, kn, E⟩ := C
  obtain ⟨hx, hb, hml, hown, hts, hK, hi, hst, hnw, hrm, hcs, hlk⟩ := id g
  intro H locs ls hP hS hl
  obtain ⟨⟨m1, m2, m3⟩, m4⟩ := mo_X9_power
  refine va_runSN (host := "SleepingJudge") (bytes := cX9_power) (maxL := 5) (ret := some .long) (ws := Cond.code yX9_power cX9_power 5 (some .long) :: gw_tbl) (rm := rmD d') (n := 2) (index := 108) (As := as.map (dv E)) (rest := st.map (dv E)) ⟨hx, hb, hml, hown, hts⟩ (hct l E)
    ⟨va_cnB 2 hts (gw_ok m1) rfl rfl rfl hnw (hts _ m2) m3 ⟨by show d' + 1 + 1 ≤ _; omega, by show 8 + (5 + 11) + 256 * (d' + 1) ≤ _; omega⟩, hts _ m4, trivial⟩ ⟨Wo.blind, fun U hU hW => ⟨rfl, Wo.at hU hP hK hi hst hnw hS hW⟩⟩ rfl (by rw [List.length_map]; exact hnp) (hl.1.trans hml) ?_ (lv_room (by rw [cat_sum E st]; exact Nat.le_of_ble_eq_true hw)) hd ⟨by omega, by omega⟩
  rw [h0]
  show List.map (dv E) (as.reverse ++ st) = _
  rw [List.map_append, List.map_reverse]
theorem V_keep {C : Cx} {pc : Nat} {lv : List (Nat × Vl)} {st : List Vl} {μ : Mem} (ks : List Nat) {lv' : List (Nat × Vl)} (h : lv.filter (fun q => ks.contains q.1) = lv') (k : V C pc lv' st μ) : V C pc lv st μ := by
  obtain ⟨p, l, e, R, s, m, args, below, meth, c, Q, kn, E⟩ := C
  intro H locs ls hP hS hl
  exact k H locs ls hP hS (lv_mono hl (fun q hq => by
    rw [← h] at hq
    obtain ⟨q0, h1, h2⟩ := List.mem_map.mp hq
    exact List.mem_map.mpr ⟨q0, (List.mem_filter.mp h1).1, h2⟩))
end
section
/-- a switch: the cases, then the rest -/
def swk (x : Int32) (P : Nat → Prop) (td : Nat) : List (Int32 × Nat) → Prop
  | [] => P td
  | q :: r => (x = q.1 → P q.2) ∧ (¬ x = q.1 → swk x P td r)
theorem swk_use {x : Int32} {P : Nat → Prop} {td : Nat} : ∀ {cs : List (Int32 × Nat)}, swk x P td cs → (∃ q ∈ cs, x = q.1 ∧ P q.2) ∨ ((∀ q ∈ cs, ¬ x = q.1) ∧ P td)
  | [], h => Or.inr ⟨fun _ h => absurd h List.not_mem_nil, h⟩
  | q :: r, h => by
    by_cases e : x = q.1
    · exact Or.inl ⟨q, List.mem_cons_self, e, h.1 e⟩
    · rcases swk_use (h.2 e) with ⟨q', h1, h2⟩ | ⟨h1, h2⟩
      · exact Or.inl ⟨q', List.mem_cons_of_mem _ h1, h2⟩
      · exact Or.inr ⟨fun q' hq' => (List.mem_cons.mp hq').elim (fun z => z ▸ e) (h1 q'), h2⟩
/-- the cases are the table's: each value in lo .. hi has its case, and its offset there -/
def tswOk (pc : Nat) (dflt lo hi : Int) (offs : Array Int) (cs : List (Int32 × Nat)) (td : Nat) : Bool :=
  decide ((pc : Int) + dflt = (td : Int)) && (cs.all (fun q => decide (lo ≤ q.1.toInt ∧ q.1.toInt ≤ hi) && (match offs[(q.1.toInt - lo).toNat]? with | some o => decide ((pc : Int) + o = (q.2 : Int)) | none => false))) && ((List.range ((hi - lo).toNat + 1)).all (fun k => cs.any (fun q => decide (q.1.toInt = lo + (k : Int)))))
theorem V_tsw {C : Cx} {own : String} {b : ByteArray} {nL d pc : Nat} {lv : List (Nat × Vl)} {st : List Vl} {μ : Mem} {dflt lo hi : Int} {offs : Array Int} {len td : Nat} {x : Int32} {cs : List (Int32 × Nat)} (g : G C own b nL d) (hd : decode b pc = .ok (.tableswitch dflt lo hi offs, len)) (hc : tswOk pc dflt lo hi offs cs td = true) (k : swk x (fun t => V C t lv st μ) td cs) : V C pc lv (vI x :: st) μ := by
  unfold tswOk at hc
  simp only [Bool.and_eq_true, decide_eq_true_eq, List.all_eq_true, List.any_eq_true] at hc
  obtain ⟨⟨h1, h2⟩, h3⟩ := hc
  rcases swk_use k with ⟨q, hq, rfl, hV⟩ | ⟨hno, hV⟩
  · obtain ⟨⟨a1, a2⟩, a3⟩ := h2 q hq
    cases ho : offs[(q.1.toInt - lo).toNat]? with
    | none => rw [ho] at a3; cases a3
    | some o =>
      rw [ho] at a3
      exact V_tableIn g hd (by omega) (by omega) ho (of_decide_eq_true a3) hV
  · refine V_tableOut g hd ?_ h1 hV
    by_cases e : x.toInt < lo ∨ hi < x.toInt
    · exact e
    · exfalso
      have hr : (x.toInt - lo).toNat ∈ List.range ((hi - lo).toNat + 1) := List.mem_range.mpr (by omega)
      obtain ⟨q, hq, he⟩ := h3 _ hr
      exact hno q hq (Int32.toInt_inj.mp (by omega))
theorem lsw_in {d : Int} {v : Int} : ∀ {ps : List (Int × Int)} {o : Int}, (ps.map (·.1)).Nodup → (v, o) ∈ ps → Op.lookupswitch.offset ps d v = o
  | [], _, _, h => absurd h List.not_mem_nil
  | q :: r, o, hn, h => by
    unfold Op.lookupswitch.offset
    rcases List.mem_cons.mp h with rfl | h
    · simp
    · have hne : ¬ q.1 = v := by
        intro e
        have h1 : q.1 ∉ r.map (·.1) := (List.nodup_cons.mp hn).1
        exact h1 (e ▸ List.mem_map.mpr ⟨(v, o), h, rfl⟩)
      have := lsw_in (d := d) (List.nodup_cons.mp hn).2 h
      simp [hne, this]
theorem lsw_out {d : Int} {v : Int} : ∀ {ps : List (Int × Int)}, (∀ q ∈ ps, ¬ q.1 = v) → Op.lookupswitch.offset ps d v = d
  | [], _ => rfl
  | q :: r, h => by
    unfold Op.lookupswitch.offset
    have := lsw_out (d := d) (v := v) (ps := r) (fun q hq => h q (List.mem_cons_of_mem _ hq))
    simp [h q List.mem_cons_self, this]
def lswOk (pc : Nat) (dflt : Int) (ps : Array (Int × Int)) (cs : List (Int32 × Nat)) (td : Nat) : Bool :=
  decide ((pc : Int) + dflt = (td : Int)) && decide (((ps.toList).map (·.1)).Nodup) && ((ps.toList.zip (ps.toList.drop 1)).all (fun (a, next) => a.1 < next.1)) && decide (ps.toList.map (fun q => (q.1, (pc : Int) + q.2)) = cs.map (fun q => (q.1.toInt, (q.2 : Int))))
theorem V_lsw {C : Cx} {own : String} {b : ByteArray} {nL d pc : Nat} {lv : List (Nat × Vl)} {st : List Vl} {μ : Mem} {dflt : Int} {ps : Array (Int × Int)} {len td : Nat} {x : Int32} {cs : List (Int32 × Nat)} (g : G C own b nL d) (hd : decode b pc = .ok (.lookupswitch dflt ps, len)) (hc : lswOk pc dflt ps cs td = true) (k : swk x (fun t => V C t lv st μ) td cs) : V C pc lv (vI x :: st) μ := by
  unfold lswOk at hc
  simp only [Bool.and_eq_true, decide_eq_true_eq] at hc
  obtain ⟨⟨⟨h1, h2⟩, h3⟩, h4⟩ := hc
  rcases swk_use k with ⟨q, hq, rfl, hV⟩ | ⟨hno, hV⟩
  · have hm : (q.1.toInt, (q.2 : Int)) ∈ ps.toList.map (fun q => (q.1, (pc : Int) + q.2)) := by rw [h4]; exact List.mem_map.mpr ⟨q, hq, rfl⟩
    obtain ⟨q0, hq0, he⟩ := List.mem_map.mp hm
    have e1 : q0.1 = q.1.toInt := congrArg Prod.fst he
    have e2 : (pc : Int) + q0.2 = (q.2 : Int) := congrArg Prod.snd he
    exact V_lookup g hd h3 (lsw_in h2 (o := q0.2) (by rw [← e1]; exact hq0)) e2 hV
  · refine V_lookup g hd h3 (lsw_out (fun q hq e => ?_)) h1 hV
    have hm : (q.1, (pc : Int) + q.2) ∈ cs.map (fun q => (q.1.toInt, (q.2 : Int))) := by rw [← h4]; exact List.mem_map.mpr ⟨q, hq, rfl⟩
    obtain ⟨q1, hq1, he⟩ := List.mem_map.mp hm
    have e1 : q1.1.toInt = q.1 := congrArg Prod.fst he
    exact hno q1 hq1 (Int32.toInt_inj.mp (by rw [e1, e]))
theorem V_callVi {C : Cx} {own : String} {b : ByteArray} {nL d pc : Nat} {lv : List (Nat × Vl)} {st : List Vl} {μ : Mem} {y : MethodName} {b' : ByteArray} {n' d' np idx j ci : Nat} {ret : Option FieldType} {as : List Vl} {x : Int32} {μ' : Mem} {st0 : List Vl} {fds : List (Option Nat)} (g : G C own b nL d) (hd : decode b pc = .ok (.invokevirtual idx, 3)) (hm : Cond.methodLink own idx y ∈ gw_tbl) (mo : Mi y b' n' ret np) (hs : Sh[j]? = some (.inl (ci, fds))) (hcl : (classes[ci]?).map (fun q => q.1) = some y.cls) (hct : Ct y b' n' ret d' (vR j :: as) μ (some (vI x)) μ') (hdd : d' < d) (hn' : n' ≤ 200) (hnp : as.length = np) (h0 : st0 = as.reverse ++ vR j :: st) (hw : Nat.ble (st.map cat).sum 8 = true) (k : V C (pc + 3) lv (vI x :: st) μ') : V C pc lv st0 μ := V_callV g hd hm mo hs hcl hct hdd hn' hnp h0 hw k
theorem V_callSi {C : Cx} {own : String} {b : ByteArray} {nL d pc : Nat} {lv : List (Nat × Vl)} {st : List Vl} {μ : Mem} {y : MethodName} {b' : ByteArray} {n' d' np idx : Nat} {ret : Option FieldType} {as : List Vl} {x : Int32} {μ' : Mem} {st0 : List Vl} (g : G C own b nL d) (hd : decode b pc = .ok (.invokestatic idx, 3)) (hm : Cond.methodLink own idx y ∈ gw_tbl) (mo : Ms y b' n' ret np) (hct : Ct y b' n' ret d' as μ (some (vI x)) μ') (hdd : d' < d) (hn' : n' ≤ 200) (hnp : as.length = np) (h0 : st0 = as.reverse ++ st) (hw : Nat.ble (st.map cat).sum 8 = true) (k : V C (pc + 3) lv (vI x :: st) μ') : V C pc lv st0 μ := V_callS g hd hm mo hct hdd hn' hnp h0 hw k
theorem V_callVl {C : Cx} {own : String} {b : ByteArray} {nL d pc : Nat} {lv : List (Nat × Vl)} {st : List Vl} {μ : Mem} {y : MethodName} {b' : ByteArray} {n' d' np idx j ci : Nat} {ret : Option FieldType} {as : List Vl} {x : Int64} {μ' : Mem} {st0 : List Vl} {fds : List (Option Nat)} (g : G C own b nL d) (hd : decode b pc = .ok (.invokevirtual idx, 3)) (hm : Cond.methodLink own idx y ∈ gw_tbl) (mo : Mi y b' n' ret np) (hs : Sh[j]? = some (.inl (ci, fds))) (hcl : (classes[ci]?).map (fun q => q.1) = some y.cls) (hct : Ct y b' n' ret d' (vR j :: as) μ (some (vL x)) μ') (hdd : d' < d) (hn' : n' ≤ 200) (hnp : as.length = np) (h0 : st0 = as.reverse ++ vR j :: st) (hw : Nat.ble (st.map cat).sum 8 = true) (k : V C (pc + 3) lv (vL x :: st) μ') : V C pc lv st0 μ := V_callV g hd hm mo hs hcl hct hdd hn' hnp h0 hw k
theorem V_callSl {C : Cx} {own : String} {b : ByteArray} {nL d pc : Nat} {lv : List (Nat × Vl)} {st : List Vl} {μ : Mem} {y : MethodName} {b' : ByteArray} {n' d' np idx : Nat} {ret : Option FieldType} {as : List Vl} {x : Int64} {μ' : Mem} {st0 : List Vl} (g : G C own b nL d) (hd : decode b pc = .ok (.invokestatic idx, 3)) (hm : Cond.methodLink own idx y ∈ gw_tbl) (mo : Ms y b' n' ret np) (hct : Ct y b' n' ret d' as μ (some (vL x)) μ') (hdd : d' < d) (hn' : n' ≤ 200) (hnp : as.length = np) (h0 : st0 = as.reverse ++ st) (hw : Nat.ble (st.map cat).sum 8 = true) (k : V C (pc + 3) lv (vL x :: st) μ') : V C pc lv st0 μ := V_callS g hd hm mo hct hdd hn' hnp h0 hw k
theorem V_callVv {C : Cx} {own : String} {b : ByteArray} {nL d pc : Nat} {lv : List (Nat × Vl)} {st : List Vl} {μ : Mem} {y : MethodName} {b' : ByteArray} {n' d' np idx j ci : Nat} {ret : Option FieldType} {as : List Vl}  {μ' : Mem} {st0 : List Vl} {fds : List (Option Nat)} (g : G C own b nL d) (hd : decode b pc = .ok (.invokevirtual idx, 3)) (hm : Cond.methodLink own idx y ∈ gw_tbl) (mo : Mi y b' n' ret np) (hs : Sh[j]? = some (.inl (ci, fds))) (hcl : (classes[ci]?).map (fun q => q.1) = some y.cls) (hct : Ct y b' n' ret d' (vR j :: as) μ (none) μ') (hdd : d' < d) (hn' : n' ≤ 200) (hnp : as.length = np) (h0 : st0 = as.reverse ++ vR j :: st) (hw : Nat.ble (st.map cat).sum 8 = true) (k : V C (pc + 3) lv (st) μ') : V C pc lv st0 μ := V_callV g hd hm mo hs hcl hct hdd hn' hnp h0 hw k
theorem V_callSv {C : Cx} {own : String} {b : ByteArray} {nL d pc : Nat} {lv : List (Nat × Vl)} {st : List Vl} {μ : Mem} {y : MethodName} {b' : ByteArray} {n' d' np idx : Nat} {ret : Option FieldType} {as : List Vl}  {μ' : Mem} {st0 : List Vl} (g : G C own b nL d) (hd : decode b pc = .ok (.invokestatic idx, 3)) (hm : Cond.methodLink own idx y ∈ gw_tbl) (mo : Ms y b' n' ret np) (hct : Ct y b' n' ret d' as μ (none) μ') (hdd : d' < d) (hn' : n' ≤ 200) (hnp : as.length = np) (h0 : st0 = as.reverse ++ st) (hw : Nat.ble (st.map cat).sum 8 = true) (k : V C (pc + 3) lv (st) μ') : V C pc lv st0 μ := V_callS g hd hm mo hct hdd hn' hnp h0 hw k
theorem Rt.eq {C : Cx} {ret : Option FieldType} {r r' : Option Vl} {μ μ' : Mem} (h : Rt C ret r μ) (e : r' = r) (e2 : μ' = μ) : Rt C ret r' μ' := by rw [e, e2]; exact h
theorem Rt.i {C : Cx} {ret : Option FieldType} {x x' : Int32} {μ μ' : Mem} (h : Rt C ret (some (vI x)) μ) (e : x' = x) (e2 : μ' = μ) : Rt C ret (some (vI x')) μ' := by rw [e, e2]; exact h
theorem Rt.l {C : Cx} {ret : Option FieldType} {x x' : Int64} {μ μ' : Mem} (h : Rt C ret (some (vL x)) μ) (e : x' = x) (e2 : μ' = μ) : Rt C ret (some (vL x')) μ' := by rw [e, e2]; exact h
theorem Ct.eq {y : MethodName} {b : ByteArray} {n : Nat} {ret : Option FieldType} {d : Nat} {as : List Vl} {μ μ' μ'' : Mem} {r r' : Option Vl} (h : Ct y b n ret d as μ r μ') (e : r = r') (e2 : μ' = μ'') : Ct y b n ret d as μ r' μ'' := by rw [← e, ← e2]; exact h
/-- a contract's start, by the class's name -/
theorem Ct.go {y : MethodName} {b : ByteArray} {n : Nat} {ret : Option FieldType} {d : Nat} {as : List Vl} {μ : Mem} {r : Option Vl} {μ' : Mem} (own : String) (ho : y.cls = own) (hy : plainName own = true) (hn : (as.map cat).sum ≤ n)
    (body : ∀ C : Cx, G C own b n d → Rt C ret r μ' → V C 0 (largs 0 as) [] μ) : Ct y b n ret d as μ r μ' := by
  subst ho
  exact Ct.intro hy hn body
theorem sh_0 : Sh[0]? = some (.inl (9, [some 1, some 13, some 15, some 23, some 31, some 32, some 34, some 51, some 58, some 62, some 65, none, none])) := rfl
theorem sh_1 : Sh[1]? = some (.inl (5, [some 2, some 11, some 12])) := rfl
theorem sh_2 : Sh[2]? = some (.inr (3, 8, [3, 4, 5, 6, 7, 8, 9, 10])) := rfl
theorem sh_3 : Sh[3]? = some (.inr (0, 40, [])) := rfl
theorem sh_4 : Sh[4]? = some (.inr (0, 40, [])) := rfl
theorem sh_5 : Sh[5]? = some (.inr (0, 40, [])) := rfl
theorem sh_6 : Sh[6]? = some (.inr (0, 40, [])) := rfl
theorem sh_7 : Sh[7]? = some (.inr (0, 40, [])) := rfl
theorem sh_8 : Sh[8]? = some (.inr (0, 40, [])) := rfl
theorem sh_9 : Sh[9]? = some (.inr (0, 40, [])) := rfl
theorem sh_10 : Sh[10]? = some (.inr (0, 40, [])) := rfl
theorem sh_11 : Sh[11]? = some (.inr (0, 8, [])) := rfl
theorem sh_12 : Sh[12]? = some (.inr (0, 8, [])) := rfl
theorem sh_13 : Sh[13]? = some (.inl (6, [some 14, none])) := rfl
theorem sh_14 : Sh[14]? = some (.inr (0, 120, [])) := rfl
theorem sh_15 : Sh[15]? = some (.inl (2, [none, none, none, none, none, none, none, none, some 16, some 17, some 18, some 19, some 20, some 21, some 22])) := rfl
theorem sh_16 : Sh[16]? = some (.inr (0, 6, [])) := rfl
theorem sh_17 : Sh[17]? = some (.inr (0, 6, [])) := rfl
theorem sh_18 : Sh[18]? = some (.inr (0, 6, [])) := rfl
theorem sh_19 : Sh[19]? = some (.inr (0, 5, [])) := rfl
theorem sh_20 : Sh[20]? = some (.inr (0, 5, [])) := rfl
theorem sh_21 : Sh[21]? = some (.inr (0, 5, [])) := rfl
theorem sh_22 : Sh[22]? = some (.inr (0, 5, [])) := rfl
theorem sh_23 : Sh[23]? = some (.inl (2, [none, none, none, none, none, none, none, none, some 24, some 25, some 26, some 27, some 28, some 29, some 30])) := rfl
theorem sh_24 : Sh[24]? = some (.inr (0, 6, [])) := rfl
theorem sh_25 : Sh[25]? = some (.inr (0, 6, [])) := rfl
theorem sh_26 : Sh[26]? = some (.inr (0, 6, [])) := rfl
theorem sh_27 : Sh[27]? = some (.inr (0, 5, [])) := rfl
theorem sh_28 : Sh[28]? = some (.inr (0, 5, [])) := rfl
theorem sh_29 : Sh[29]? = some (.inr (0, 5, [])) := rfl
theorem sh_30 : Sh[30]? = some (.inr (0, 5, [])) := rfl
theorem sh_31 : Sh[31]? = some (.inl (4, [some 13, some 23, none, none])) := rfl
theorem sh_32 : Sh[32]? = some (.inl (0, [some 33, none, none])) := rfl
theorem sh_33 : Sh[33]? = some (.inr (0, 336, [])) := rfl
theorem sh_34 : Sh[34]? = some (.inr (2, 2, [35, 43])) := rfl
theorem sh_35 : Sh[35]? = some (.inl (2, [none, none, none, none, none, none, none, none, some 36, some 37, some 38, some 39, some 40, some 41, some 42])) := rfl
theorem sh_36 : Sh[36]? = some (.inr (0, 6, [])) := rfl
theorem sh_37 : Sh[37]? = some (.inr (0, 6, [])) := rfl
theorem sh_38 : Sh[38]? = some (.inr (0, 6, [])) := rfl
theorem sh_39 : Sh[39]? = some (.inr (0, 5, [])) := rfl
theorem sh_40 : Sh[40]? = some (.inr (0, 5, [])) := rfl
theorem sh_41 : Sh[41]? = some (.inr (0, 5, [])) := rfl
theorem sh_42 : Sh[42]? = some (.inr (0, 5, [])) := rfl
theorem sh_43 : Sh[43]? = some (.inl (2, [none, none, none, none, none, none, none, none, some 44, some 45, some 46, some 47, some 48, some 49, some 50])) := rfl
theorem sh_44 : Sh[44]? = some (.inr (0, 6, [])) := rfl
theorem sh_45 : Sh[45]? = some (.inr (0, 6, [])) := rfl
theorem sh_46 : Sh[46]? = some (.inr (0, 6, [])) := rfl
theorem sh_47 : Sh[47]? = some (.inr (0, 5, [])) := rfl
theorem sh_48 : Sh[48]? = some (.inr (0, 5, [])) := rfl
theorem sh_49 : Sh[49]? = some (.inr (0, 5, [])) := rfl
theorem sh_50 : Sh[50]? = some (.inr (0, 5, [])) := rfl
theorem sh_51 : Sh[51]? = some (.inl (8, [some 15, some 52, some 53, some 54, some 55, some 56, some 57, none])) := rfl
theorem sh_52 : Sh[52]? = some (.inr (0, 256, [])) := rfl
theorem sh_53 : Sh[53]? = some (.inr (0, 256, [])) := rfl
theorem sh_54 : Sh[54]? = some (.inr (0, 256, [])) := rfl
theorem sh_55 : Sh[55]? = some (.inr (0, 256, [])) := rfl
theorem sh_56 : Sh[56]? = some (.inr (0, 256, [])) := rfl
theorem sh_57 : Sh[57]? = some (.inr (0, 256, [])) := rfl
theorem sh_58 : Sh[58]? = some (.inl (3, [some 15, some 59, some 60, some 61, none, none, none])) := rfl
theorem sh_59 : Sh[59]? = some (.inr (0, 5, [])) := rfl
theorem sh_60 : Sh[60]? = some (.inr (0, 5, [])) := rfl
theorem sh_61 : Sh[61]? = some (.inr (0, 5, [])) := rfl
theorem sh_62 : Sh[62]? = some (.inl (7, [some 15, some 63, some 64, none])) := rfl
theorem sh_63 : Sh[63]? = some (.inr (0, 12, [])) := rfl
theorem sh_64 : Sh[64]? = some (.inr (0, 12, [])) := rfl
theorem sh_65 : Sh[65]? = some (.inl (1, [some 15, some 66, none])) := rfl
theorem sh_66 : Sh[66]? = some (.inr (0, 16, [])) := rfl
theorem sh_67 : Sh[67]? = some (.inl (10, [none, none, some 68, some 69, some 70, some 71, some 72, some 73, some 74, none, some 75, none, none, none, none, none, none, none, none, some 76, some 77, some 78, some 79, some 80, none, none, some 81, some 82, some 83, some 84, none])) := rfl
theorem sh_68 : Sh[68]? = some (.inr (0, 8, [])) := rfl
theorem sh_69 : Sh[69]? = some (.inr (0, 8, [])) := rfl
theorem sh_70 : Sh[70]? = some (.inr (0, 320, [])) := rfl
theorem sh_71 : Sh[71]? = some (.inr (0, 46, [])) := rfl
theorem sh_72 : Sh[72]? = some (.inr (0, 46, [])) := rfl
theorem sh_73 : Sh[73]? = some (.inr (0, 46, [])) := rfl
theorem sh_74 : Sh[74]? = some (.inr (0, 1104, [])) := rfl
theorem sh_75 : Sh[75]? = some (.inr (0, 120, [])) := rfl
theorem sh_76 : Sh[76]? = some (.inr (1, 256, [])) := rfl
theorem sh_77 : Sh[77]? = some (.inr (1, 256, [])) := rfl
theorem sh_78 : Sh[78]? = some (.inr (0, 256, [])) := rfl
theorem sh_79 : Sh[79]? = some (.inr (0, 5, [])) := rfl
theorem sh_80 : Sh[80]? = some (.inr (0, 5, [])) := rfl
theorem sh_81 : Sh[81]? = some (.inr (0, 5, [])) := rfl
theorem sh_82 : Sh[82]? = some (.inr (1, 2, [])) := rfl
theorem sh_83 : Sh[83]? = some (.inr (0, 92, [])) := rfl
theorem sh_84 : Sh[84]? = some (.inr (0, 16, [])) := rfl
/-- the four courts -/
def IsCo (b : Nat) : Prop := b = 15 ∨ b = 23 ∨ b = 35 ∨ b = 43
theorem IsCo.s0 {b : Nat} (h : IsCo b) : Sh[b]? = some (.inl (2, [none, none, none, none, none, none, none, none, some (b + 1), some (b + 2), some (b + 3), some (b + 4), some (b + 5), some (b + 6), some (b + 7)])) := by rcases h with rfl | rfl | rfl | rfl <;> rfl
theorem IsCo.s1 {b : Nat} (h : IsCo b) : Sh[b + 1]? = some (.inr (0, 6, [])) := by rcases h with rfl | rfl | rfl | rfl <;> rfl
theorem IsCo.s2 {b : Nat} (h : IsCo b) : Sh[b + 2]? = some (.inr (0, 6, [])) := by rcases h with rfl | rfl | rfl | rfl <;> rfl
theorem IsCo.s3 {b : Nat} (h : IsCo b) : Sh[b + 3]? = some (.inr (0, 6, [])) := by rcases h with rfl | rfl | rfl | rfl <;> rfl
theorem IsCo.s4 {b : Nat} (h : IsCo b) : Sh[b + 4]? = some (.inr (0, 5, [])) := by rcases h with rfl | rfl | rfl | rfl <;> rfl
theorem IsCo.s5 {b : Nat} (h : IsCo b) : Sh[b + 5]? = some (.inr (0, 5, [])) := by rcases h with rfl | rfl | rfl | rfl <;> rfl
theorem IsCo.s6 {b : Nat} (h : IsCo b) : Sh[b + 6]? = some (.inr (0, 5, [])) := by rcases h with rfl | rfl | rfl | rfl <;> rfl
theorem IsCo.s7 {b : Nat} (h : IsCo b) : Sh[b + 7]? = some (.inr (0, 5, [])) := by rcases h with rfl | rfl | rfl | rfl <;> rfl
theorem co_now : IsCo 15 := Or.inl rfl
theorem co_dra : IsCo 23 := Or.inr (Or.inl rfl)
theorem co_im0 : IsCo 35 := Or.inr (Or.inr (Or.inl rfl))
theorem co_im1 : IsCo 43 := Or.inr (Or.inr (Or.inr rfl))
end
section
/-! ===== contracts by what holds behind the call ===== -/
abbrev Po : Type := Option Vl → Mem → Prop
def QP (E : En) (post : Po) : Array Value → State → Outcome → State → Prop := fun _ st oc t => (∃ (r : Option Vl) (μ' : Mem), oc = .returned (r.map (dv E)) ∧ post r μ' ∧ Wo E μ' t) ∧ va_F (Ad E) st t
def CtP (y : MethodName) (b : ByteArray) (n : Nat) (ret : Option FieldType) (d : Nat) (as : List Vl) (μ : Mem) (post : Po) : Prop :=
  ∀ (l : Launch) (E : En), Met l y (Cond.code y b n ret :: gw_tbl) (rmD d) (va_Pc (as.map (dv E)) (Wo E μ)) (QP E post) 0 0 (Ad E)
def RtP (C : Cx) (ret : Option FieldType) (post : Po) : Prop :=
  match C with
  | (_, _, _, _, s, _, args, below, meth, _, Q, kn, E) => meth.sig.returnType = ret ∧ kn = (0, 0) ∧ Q = MQ below (QP E post) args s 0 0 (Ad E)
theorem CtP.go {y : MethodName} {b : ByteArray} {n : Nat} {ret : Option FieldType} {d : Nat} {as : List Vl} {μ : Mem} {post : Po} (own : String) (ho : y.cls = own) (hy : plainName own = true) (hn : (as.map cat).sum ≤ n)
    (body : ∀ C : Cx, G C own b n d → RtP C ret post → V C 0 (largs 0 as) [] μ) : CtP y b n ret d as μ post := by
  subst ho
  intro l E
  refine Met.ofW (cc := b) (maxL := n) (ret := ret) hy rfl ?_
  intro p e s m args below meth c s₁ B hml hv
  obtain ⟨rfl, hP, hK, hi, hst, hnw⟩ := hv
  have hts := atoms_spec (ws := Cond.code y b n ret :: gw_tbl) B.pre
  have hown : s.vm.findClass y.cls = some m.cls := findClass_of_methodNamed B.named
  have hl := lv_entry (as.map (dv E)) (n := n) (by rw [sl_len]; exact hn)
  rw [lg_entry_eq]
  generalize (lg_sl (as.map (dv E)) ++ List.replicate (n - (lg_sl (as.map (dv E))).length) Slot.unset).toArray = ls at hl ⊢
  exact body (p, l, e, (headSpec (Cond.code y b n ret :: gw_tbl) (rmD d)).room, s, m, (as.map (dv E)).toArray, below, meth, c, MQ below (QP E post) (as.map (dv E)).toArray s 0 0 (Ad E), (0, 0), E)
    ⟨B.exec, B.bytes, hml, hown, fun w hw => hts w (List.mem_cons_of_mem _ hw), hK, hi, hst, hnw, ⟨Nat.le_refl _, Nat.le_refl _⟩, ⟨Nat.zero_le _, Nat.zero_le _⟩, B.notSynchronized⟩ ⟨B.returns, rfl, rfl⟩ s.heap [] ls hP va_S.rf (by rw [hml, largs_eq]; exact hl)
theorem V_iretP {C : Cx} {own : String} {b : ByteArray} {nL d pc : Nat} {lv : List (Nat × Vl)} {μ : Mem} {x : Int32} {post : Po} (g : G C own b nL d) (hd : decode b pc = .ok (.ireturn, 1))  (hR : RtP C (some .int) post) (hp : post (some (vI x)) μ) : V C pc lv ([vI x]) μ := by
  obtain ⟨p, l, e, R, s, m, args, below, meth, c, Q, kn, E⟩ := C
  obtain ⟨hx, hb, hml, hown, hts, hK, hi, hst, hnw, hrm, hcs, hlk⟩ := id g
  obtain ⟨hr, hk, hQ⟩ := hR
  subst hk; subst hQ
  intro H locs ls hP hS hl
  exact W.iret hx hb hr (fun t ht hW => ⟨⟨_, μ, rfl, hp, Wo.at ht hP hK hi hst hnw hS hW⟩, hS.F ht⟩) hS.2.2 hd hlk
theorem V_zretP {C : Cx} {own : String} {b : ByteArray} {nL d pc : Nat} {lv : List (Nat × Vl)} {μ : Mem} {x : Int32} {post : Po} (g : G C own b nL d) (hd : decode b pc = .ok (.ireturn, 1)) (hz : x = 0 ∨ x = 1) (hR : RtP C (some .boolean) post) (hp : post (some (vI x)) μ) : V C pc lv ([vI x]) μ := by
  obtain ⟨p, l, e, R, s, m, args, below, meth, c, Q, kn, E⟩ := C
  obtain ⟨hx, hb, hml, hown, hts, hK, hi, hst, hnw, hrm, hcs, hlk⟩ := id g
  obtain ⟨hr, hk, hQ⟩ := hR
  subst hk; subst hQ
  intro H locs ls hP hS hl
  exact W.zret hx hb hr (by rcases hz with rfl | rfl <;> decide) (fun t ht hW => ⟨⟨_, μ, rfl, hp, Wo.at ht hP hK hi hst hnw hS hW⟩, hS.F ht⟩) hS.2.2 hd hlk
theorem V_lretP {C : Cx} {own : String} {b : ByteArray} {nL d pc : Nat} {lv : List (Nat × Vl)} {μ : Mem} {x : Int64} {post : Po} (g : G C own b nL d) (hd : decode b pc = .ok (.lreturn, 1))  (hR : RtP C (some .long) post) (hp : post (some (vL x)) μ) : V C pc lv ([vL x]) μ := by
  obtain ⟨p, l, e, R, s, m, args, below, meth, c, Q, kn, E⟩ := C
  obtain ⟨hx, hb, hml, hown, hts, hK, hi, hst, hnw, hrm, hcs, hlk⟩ := id g
  obtain ⟨hr, hk, hQ⟩ := hR
  subst hk; subst hQ
  intro H locs ls hP hS hl
  exact W.lret hx hb hr (fun t ht hW => ⟨⟨_, μ, rfl, hp, Wo.at ht hP hK hi hst hnw hS hW⟩, hS.F ht⟩) hS.2.2 hd hlk
theorem V_vretP {C : Cx} {own : String} {b : ByteArray} {nL d pc : Nat} {lv : List (Nat × Vl)} {μ : Mem}  {post : Po} (g : G C own b nL d) (hd : decode b pc = .ok (.return_, 1))  (hR : RtP C none post) (hp : post (none) μ) : V C pc lv ([]) μ := by
  obtain ⟨p, l, e, R, s, m, args, below, meth, c, Q, kn, E⟩ := C
  obtain ⟨hx, hb, hml, hown, hts, hK, hi, hst, hnw, hrm, hcs, hlk⟩ := id g
  obtain ⟨hr, hk, hQ⟩ := hR
  subst hk; subst hQ
  intro H locs ls hP hS hl
  exact W.vret hx hb hr (fun t ht hW => ⟨⟨_, μ, rfl, hp, Wo.at ht hP hK hi hst hnw hS hW⟩, hS.F ht⟩) hS.2.2 hd hlk
theorem V_runP {C : Cx} {own : String} {b : ByteArray} {nL d pc : Nat} {lv : List (Nat × Vl)} {st : List Vl} {μ : Mem} {y : MethodName} {b' : ByteArray} {n' d' : Nat} {ret : Option FieldType} {as : List Vl} {post : Po} {st0 : List Vl} (g : G C own b nL d) (hct : CtP y b' n' ret d' as μ post)
    (run : match C with | (p, l, e, R, s, m, args, below, meth, c, Q, kn, E) => ∀ (H : Heap) (locs : List Loc) (ls : Array Slot), va_P (E.1, E.2.1) classes (cells E μ) H → va_S (Ad E) s.heap H locs → lv_has ls c.maxLocals (dl E lv) → va_Run p l e R s m args below meth c H locs kn.1 kn.2 0 0 (F0 m pc ls (st0.map (dv E))) (st.map (dv E)) (QP E post (as.map (dv E)).toArray) (Ad E))
    (k : ∀ r μ', post r μ' → V C (pc + 3) lv (r.toList ++ st) μ') : V C pc lv st0 μ := by
  obtain ⟨p, l, e, R, s, m, args, below, meth, c, Q, kn, E⟩ := C
  obtain ⟨hx, hb, hml, hown, hts, hK, hi, hst, hnw, hrm, hcs, hlk⟩ := id g
  intro H locs ls hP hS hl
  intro T hT X
  obtain ⟨v, st₀, t, T', L, h0, X', hL, e1, e2, ⟨⟨r, μ', hv, hpo, hWo⟩, hz, hk⟩, stp⟩ := run H locs ls hP hS hl T hT X
  have hv' : v = r.map (dv E) := by cases hv; rfl
  subst hv'
  rw [h0] at hz hk
  obtain ⟨t2, a1, b1⟩ := k r μ' hpo T'.heap (locs ++ L) ls (by rw [e1]; exact hWo.1) ⟨Nat.le_trans hS.1 (by rw [e1]; exact hz), fun q h1 h2 => by rw [e1, hk q (Nat.lt_of_lt_of_le h1 hS.1) h2]; exact hS.2.1 q h1 h2, fun q hq => by
      rcases List.mem_append.mp hq with h | h
      · exact hS.2.2 q h
      · exact hL q h⟩ hl T' rfl X'
  refine ⟨t2, stp t2 ?_, b1⟩
  have ev : (r.map (dv E)).toList ++ st.map (dv E) = (r.toList ++ st).map (dv E) := by cases r <;> rfl
  rw [ev]
  exact a1
theorem V_callVP {C : Cx} {own : String} {b : ByteArray} {nL d pc : Nat} {lv : List (Nat × Vl)} {st : List Vl} {μ : Mem} {y : MethodName} {b' : ByteArray} {n' d' np idx j ci : Nat} {ret : Option FieldType} {as : List Vl} {post : Po} {st0 : List Vl} {fds : List (Option Nat)} (g : G C own b nL d) (hd : decode b pc = .ok (.invokevirtual idx, 3)) (hm : Cond.methodLink own idx y ∈ gw_tbl) (mo : Mi y b' n' ret np) (hs : Sh[j]? = some (.inl (ci, fds))) (hcl : (classes[ci]?).map (fun q => q.1) = some y.cls) (hct : CtP y b' n' ret d' (vR j :: as) μ post) (hdd : d' < d) (hn' : n' ≤ 200) (hnp : as.length = np) (h0 : st0 = as.reverse ++ vR j :: st) (hw : Nat.ble (st.map cat).sum 8 = true)
    (k : ∀ r μ', post r μ' → V C (pc + 3) lv (r.toList ++ st) μ') : V C pc lv st0 μ := by
  refine V_runP g hct ?_ k
  obtain ⟨p, l, e, R, s, m, args, below, meth, c, Q, kn, E⟩ := C
  obtain ⟨hx, hb, hml, hown, hts, hK, hi, hst, hnw, hrm, hcs, hlk⟩ := id g
  intro H locs ls hP hS hl
  obtain ⟨⟨m1, m2, m3⟩, m4, m5⟩ := mo
  obtain ⟨q, hq, hqe⟩ : ∃ q, classes[ci]? = some q ∧ q.1 = y.cls := by
    cases hc : classes[ci]? with
    | none => rw [hc] at hcl; cases hcl
    | some q => rw [hc] at hcl; exact ⟨q, rfl, Option.some.inj hcl⟩
  have hrecv := va_recv hK hP hq (q0 := j) (cells_at hs)
  rw [hqe] at hrecv
  refine va_runV (C := y.cls) (bytes := b') (maxL := n') (ret := ret) (ws := Cond.code y b' n' ret :: gw_tbl) (rm := rmD d') (n := np) (index := idx) (As := as.map (dv E)) (rest := st.map (dv E)) (b := E.2.2.1 j) ⟨hx, hb, hml, hown, hts⟩ (hct l E)
    ⟨callB_of np hts (gw_ok m1) rfl rfl rfl (hts _ m2) (hts _ hm) m3 ⟨by show d' + 1 + 1 ≤ _; omega, by show 8 + (n' + 11) + 256 * (d' + 1) ≤ _; omega⟩, hts _ m4, hts _ m5⟩ ⟨Wo.blind, hrecv, fun U hU hW => ⟨rfl, Wo.at hU hP hK hi hst hnw hS hW⟩⟩ rfl (by rw [List.length_map]; exact hnp) (hl.1.trans hml) ?_ (lv_room (by rw [cat_sum E st]; exact Nat.le_of_ble_eq_true hw)) hd ⟨by omega, by omega⟩
  rw [h0]
  show List.map (dv E) (as.reverse ++ vR j :: st) = _
  rw [List.map_append, List.map_reverse]
  rfl
theorem V_callSP {C : Cx} {own : String} {b : ByteArray} {nL d pc : Nat} {lv : List (Nat × Vl)} {st : List Vl} {μ : Mem} {y : MethodName} {b' : ByteArray} {n' d' np idx : Nat} {ret : Option FieldType} {as : List Vl} {post : Po} {st0 : List Vl} (g : G C own b nL d) (hd : decode b pc = .ok (.invokestatic idx, 3)) (hm : Cond.methodLink own idx y ∈ gw_tbl) (mo : Ms y b' n' ret np) (hct : CtP y b' n' ret d' as μ post) (hdd : d' < d) (hn' : n' ≤ 200) (hnp : as.length = np) (h0 : st0 = as.reverse ++ st) (hw : Nat.ble (st.map cat).sum 8 = true)
    (k : ∀ r μ', post r μ' → V C (pc + 3) lv (r.toList ++ st) μ') : V C pc lv st0 μ := by
  refine V_runP g hct ?_ k
  obtain ⟨p, l, e, R, s, m, args, below, meth, c, Q, kn, E⟩ := C
  obtain ⟨hx, hb, hml, hown, hts, hK, hi, hst, hnw, hrm, hcs, hlk⟩ := id g
  intro H locs ls hP hS hl
  obtain ⟨⟨m1, m2, m3⟩, m4⟩ := mo
  refine va_runS (bytes := b') (maxL := n') (ret := ret) (ws := Cond.code y b' n' ret :: gw_tbl) (rm := rmD d') (n := np) (index := idx) (As := as.map (dv E)) (rest := st.map (dv E)) ⟨hx, hb, hml, hown, hts⟩ (hct l E)
    ⟨callB_of np hts (gw_ok m1) rfl rfl rfl (hts _ m2) (hts _ hm) m3 ⟨by show d' + 1 + 1 ≤ _; omega, by show 8 + (n' + 11) + 256 * (d' + 1) ≤ _; omega⟩, hts _ m4⟩ ⟨Wo.blind, fun U hU hW => ⟨rfl, Wo.at hU hP hK hi hst hnw hS hW⟩⟩ rfl (by rw [List.length_map]; exact hnp) (hl.1.trans hml) ?_ (lv_room (by rw [cat_sum E st]; exact Nat.le_of_ble_eq_true hw)) hd ⟨by omega, by omega⟩
  rw [h0]
  show List.map (dv E) (as.reverse ++ st) = _
  rw [List.map_append, List.map_reverse]
/-- an int is answered, and this holds -/
def Pi (f : Int32 → Mem → Prop) : Po := fun r μ' => ∃ x, r = some (vI x) ∧ f x μ'
def Pv (f : Mem → Prop) : Po := fun r μ' => r = none ∧ f μ'
def Pl (f : Int64 → Mem → Prop) : Po := fun r μ' => ∃ x, r = some (vL x) ∧ f x μ'
theorem Pi.mk {f : Int32 → Mem → Prop} {x : Int32} {μ : Mem} (h : f x μ) : Pi f (some (vI x)) μ := ⟨x, rfl, h⟩
theorem Pv.mk {f : Mem → Prop} {μ : Mem} (h : f μ) : Pv f none μ := ⟨rfl, h⟩
theorem Pl.mk {f : Int64 → Mem → Prop} {x : Int64} {μ : Mem} (h : f x μ) : Pl f (some (vL x)) μ := ⟨x, rfl, h⟩
theorem CtP.ct {y : MethodName} {b : ByteArray} {n : Nat} {ret : Option FieldType} {d : Nat} {as : List Vl} {μ : Mem} {r : Option Vl} {μ' : Mem} {post : Po} (h : Ct y b n ret d as μ r μ') (hp : post r μ') : CtP y b n ret d as μ post := by
  intro l E p e ha hc hk s m args below hf happ hP hkk
  obtain ⟨k, o, h1, h2, h3, ⟨ho, hWo, hF⟩, h5⟩ := h l E p e ha hc hk s m args below hf happ hP hkk
  exact ⟨k, o, h1, h2, h3, ⟨⟨r, μ', ho, hp, hWo⟩, hF⟩, h5⟩
theorem V_callVip {C : Cx} {own : String} {b : ByteArray} {nL d pc : Nat} {lv : List (Nat × Vl)} {st : List Vl} {μ : Mem} {y : MethodName} {b' : ByteArray} {n' d' np idx j ci : Nat} {ret : Option FieldType} {as : List Vl} {f : Int32 → Mem → Prop} {st0 : List Vl} {fds : List (Option Nat)} (g : G C own b nL d) (hd : decode b pc = .ok (.invokevirtual idx, 3)) (hm : Cond.methodLink own idx y ∈ gw_tbl) (mo : Mi y b' n' ret np) (hs : Sh[j]? = some (.inl (ci, fds))) (hcl : (classes[ci]?).map (fun q => q.1) = some y.cls) (hct : CtP y b' n' ret d' (vR j :: as) μ (Pi f)) (hdd : d' < d) (hn' : n' ≤ 200) (hnp : as.length = np) (h0 : st0 = as.reverse ++ vR j :: st) (hw : Nat.ble (st.map cat).sum 8 = true) (k : ∀ x μ', f x μ' → V C (pc + 3) lv (vI x :: st) μ') : V C pc lv st0 μ := V_callVP g hd hm mo hs hcl hct hdd hn' hnp h0 hw (fun r μ' h => by obtain ⟨x, rfl, h⟩ := h; exact k x μ' h)
theorem V_callSip {C : Cx} {own : String} {b : ByteArray} {nL d pc : Nat} {lv : List (Nat × Vl)} {st : List Vl} {μ : Mem} {y : MethodName} {b' : ByteArray} {n' d' np idx : Nat} {ret : Option FieldType} {as : List Vl} {f : Int32 → Mem → Prop} {st0 : List Vl} (g : G C own b nL d) (hd : decode b pc = .ok (.invokestatic idx, 3)) (hm : Cond.methodLink own idx y ∈ gw_tbl) (mo : Ms y b' n' ret np) (hct : CtP y b' n' ret d' as μ (Pi f)) (hdd : d' < d) (hn' : n' ≤ 200) (hnp : as.length = np) (h0 : st0 = as.reverse ++ st) (hw : Nat.ble (st.map cat).sum 8 = true) (k : ∀ x μ', f x μ' → V C (pc + 3) lv (vI x :: st) μ') : V C pc lv st0 μ := V_callSP g hd hm mo hct hdd hn' hnp h0 hw (fun r μ' h => by obtain ⟨x, rfl, h⟩ := h; exact k x μ' h)
theorem V_callVlp {C : Cx} {own : String} {b : ByteArray} {nL d pc : Nat} {lv : List (Nat × Vl)} {st : List Vl} {μ : Mem} {y : MethodName} {b' : ByteArray} {n' d' np idx j ci : Nat} {ret : Option FieldType} {as : List Vl} {f : Int64 → Mem → Prop} {st0 : List Vl} {fds : List (Option Nat)} (g : G C own b nL d) (hd : decode b pc = .ok (.invokevirtual idx, 3)) (hm : Cond.methodLink own idx y ∈ gw_tbl) (mo : Mi y b' n' ret np) (hs : Sh[j]? = some (.inl (ci, fds))) (hcl : (classes[ci]?).map (fun q => q.1) = some y.cls) (hct : CtP y b' n' ret d' (vR j :: as) μ (Pl f)) (hdd : d' < d) (hn' : n' ≤ 200) (hnp : as.length = np) (h0 : st0 = as.reverse ++ vR j :: st) (hw : Nat.ble (st.map cat).sum 8 = true) (k : ∀ x μ', f x μ' → V C (pc + 3) lv (vL x :: st) μ') : V C pc lv st0 μ := V_callVP g hd hm mo hs hcl hct hdd hn' hnp h0 hw (fun r μ' h => by obtain ⟨x, rfl, h⟩ := h; exact k x μ' h)
theorem V_callSlp {C : Cx} {own : String} {b : ByteArray} {nL d pc : Nat} {lv : List (Nat × Vl)} {st : List Vl} {μ : Mem} {y : MethodName} {b' : ByteArray} {n' d' np idx : Nat} {ret : Option FieldType} {as : List Vl} {f : Int64 → Mem → Prop} {st0 : List Vl} (g : G C own b nL d) (hd : decode b pc = .ok (.invokestatic idx, 3)) (hm : Cond.methodLink own idx y ∈ gw_tbl) (mo : Ms y b' n' ret np) (hct : CtP y b' n' ret d' as μ (Pl f)) (hdd : d' < d) (hn' : n' ≤ 200) (hnp : as.length = np) (h0 : st0 = as.reverse ++ st) (hw : Nat.ble (st.map cat).sum 8 = true) (k : ∀ x μ', f x μ' → V C (pc + 3) lv (vL x :: st) μ') : V C pc lv st0 μ := V_callSP g hd hm mo hct hdd hn' hnp h0 hw (fun r μ' h => by obtain ⟨x, rfl, h⟩ := h; exact k x μ' h)
theorem V_callVvp {C : Cx} {own : String} {b : ByteArray} {nL d pc : Nat} {lv : List (Nat × Vl)} {st : List Vl} {μ : Mem} {y : MethodName} {b' : ByteArray} {n' d' np idx j ci : Nat} {ret : Option FieldType} {as : List Vl} {f : Mem → Prop} {st0 : List Vl} {fds : List (Option Nat)} (g : G C own b nL d) (hd : decode b pc = .ok (.invokevirtual idx, 3)) (hm : Cond.methodLink own idx y ∈ gw_tbl) (mo : Mi y b' n' ret np) (hs : Sh[j]? = some (.inl (ci, fds))) (hcl : (classes[ci]?).map (fun q => q.1) = some y.cls) (hct : CtP y b' n' ret d' (vR j :: as) μ (Pv f)) (hdd : d' < d) (hn' : n' ≤ 200) (hnp : as.length = np) (h0 : st0 = as.reverse ++ vR j :: st) (hw : Nat.ble (st.map cat).sum 8 = true) (k : ∀ μ', f μ' → V C (pc + 3) lv st μ') : V C pc lv st0 μ := V_callVP g hd hm mo hs hcl hct hdd hn' hnp h0 hw (fun r μ' h => by obtain ⟨rfl, h⟩ := h; exact k μ' h)
theorem V_callSvp {C : Cx} {own : String} {b : ByteArray} {nL d pc : Nat} {lv : List (Nat × Vl)} {st : List Vl} {μ : Mem} {y : MethodName} {b' : ByteArray} {n' d' np idx : Nat} {ret : Option FieldType} {as : List Vl} {f : Mem → Prop} {st0 : List Vl} (g : G C own b nL d) (hd : decode b pc = .ok (.invokestatic idx, 3)) (hm : Cond.methodLink own idx y ∈ gw_tbl) (mo : Ms y b' n' ret np) (hct : CtP y b' n' ret d' as μ (Pv f)) (hdd : d' < d) (hn' : n' ≤ 200) (hnp : as.length = np) (h0 : st0 = as.reverse ++ st) (hw : Nat.ble (st.map cat).sum 8 = true) (k : ∀ μ', f μ' → V C (pc + 3) lv st μ') : V C pc lv st0 μ := V_callSP g hd hm mo hct hdd hn' hnp h0 hw (fun r μ' h => by obtain ⟨rfl, h⟩ := h; exact k μ' h)
end
section
/-! ===== numbers: sets of things as bits of an int ===== -/
theorem pn_X0 : plainName RX0 = true := by decide +kernel
theorem pn_X1 : plainName RX1 = true := by decide +kernel
theorem pn_X2 : plainName RX2 = true := by decide +kernel
theorem pn_X3 : plainName RX3 = true := by decide +kernel
theorem pn_X4 : plainName RX4 = true := by decide +kernel
theorem pn_X5 : plainName RX5 = true := by decide +kernel
theorem pn_X6 : plainName RX6 = true := by decide +kernel
theorem pn_X7 : plainName RX7 = true := by decide +kernel
theorem pn_X8 : plainName RX8 = true := by decide +kernel
theorem pn_X9 : plainName RX9 = true := by decide +kernel
theorem pn_X10 : plainName RX10 = true := by decide +kernel
theorem pn_J6 : plainName RJ6 = true := by decide +kernel
theorem pn_J7 : plainName RJ7 = true := by decide +kernel
def bI (k : Int32) : Int32 := 1 <<< (k &&& 31)
theorem bI_eq (k : Int32) : (1 : Int32) <<< (k &&& 31) = bI k := rfl
/-! ===== the court as numbers: 0 scalars (things, wears, most, dream, hummed, night, hums, cases), 1 kinds, 2 things, 3 others, 4 pleas, 5 loses, 6 wins, 7 ways ===== -/
abbrev Al : Type := Nat → Nat → Nat
def clr (D O : Nat) : Nat := if D.testBit O then D - 2 ^ O else D
def bhN (t K : Nat) : Nat := if t ≤ K + 1 then 0 else K + 1
def humB (t kd K O D : Nat) : Nat :=
  if kd = 1 then D ||| 2 ^ K
  else if kd = 2 then D ||| 2 ^ K ||| 2 ^ bhN t K
  else if kd = 3 then (if D.testBit O then D ||| 2 ^ K else D)
  else if kd = 4 then clr D O
  else (if D.testBit O then clr D O ||| 2 ^ K else D)
def humN (α : Al) (h D : Nat) : Nat := humB (α 0 0) (α 1 h) (α 2 h) (α 3 h) D
def bitN (D : Nat) : Nat → Nat
  | 0 => 0
  | n + 1 => bitN D n + (if D.testBit n then 1 else 0)
def bitsN (D : Nat) : Nat := bitN D 8
def wcnt (w D : Nat) : Nat → Nat
  | 0 => 0
  | n + 1 => if D.testBit n ∧ wcnt w D n < w then wcnt w D n + 1 else wcnt w D n
def wset (w D : Nat) : Nat → Nat
  | 0 => 0
  | n + 1 => if D.testBit n ∧ wcnt w D n < w then wset w D n ||| 2 ^ n else wset w D n
def wornN (w D : Nat) : Nat := wset w D 8
theorem wcnt_s (w D n : Nat) : wcnt w D (n + 1) = if D.testBit n ∧ wcnt w D n < w then wcnt w D n + 1 else wcnt w D n := rfl
theorem wset_s (w D n : Nat) : wset w D (n + 1) = if D.testBit n ∧ wcnt w D n < w then wset w D n ||| 2 ^ n else wset w D n := rfl
theorem bitN_s (D n : Nat) : bitN D (n + 1) = bitN D n + (if D.testBit n then 1 else 0) := rfl
theorem bits0 : bitsN 0 = 0 := by decide +kernel
def judN (α : Al) (c D : Nat) : Nat := if D.testBit (α 5 c) then 2 else if D.testBit (α 6 c) then 1 else 0
def verN (α : Al) (c D : Nat) : Nat := judN α c (humN α (α 4 c) D)
def heaN (α : Al) (c D : Nat) : Nat := wornN (α 0 1) (humN α (α 4 c) D)
def thoN (α : Al) (w : Nat) : Nat → Nat
  | 0 => 0
  | c + 1 => thoN α w c ||| (if α 7 c = w then 2 ^ c else 0)
theorem thoN_s (α : Al) (w c : Nat) : thoN α w (c + 1) = thoN α w c ||| (if α 7 c = w then 2 ^ c else 0) := rfl
theorem q_or : ∀ D, D < 256 → ∀ K, K < 8 → nI D ||| bI (nI K) = nI (D ||| 2 ^ K) := by decide +kernel
theorem q_clr : ∀ D, D < 256 → ∀ K, K < 8 → nI D &&& (bI (nI K) ^^^ (-1)) = nI (clr D K) := by decide +kernel
theorem q_has : ∀ D, D < 256 → ∀ K, K < 8 → (nI D >>> (nI K &&& 31)) &&& 1 = nI (if D.testBit K then 1 else 0) := by decide +kernel
theorem q_and : ∀ D, D < 256 → ∀ K, K < 8 → ((nI D &&& bI (nI K) = 0) ↔ D.testBit K = false) := by decide +kernel
theorem q_pow : ∀ t, t < 31 → bI (nI t) = nI (2 ^ t) := by decide +kernel
theorem q_beh : ∀ t, t < 9 → ∀ k, k < t → (nI k + 1) - (nI k + 1) / nI t * nI t = nI (bhN t k) := by decide +kernel
theorem q_or2 : ∀ D, D < 256 → ∀ K, K < 256 → nI D ||| nI K = nI (D ||| K) := by
  intro D hD K hK
  apply Int32.toBitVec_inj.mp
  apply BitVec.eq_of_toNat_eq
  rw [Int32.toBitVec_or, BitVec.toNat_or, pk_tn (n := D) (by omega), pk_tn (n := K) (by omega), pk_tn (Nat.lt_of_lt_of_le (Nat.or_lt_two_pow (n := 8) (by omega) (by omega)) (by decide))]
theorem clr_le (D O : Nat) : clr D O ≤ D := by
  unfold clr
  split
  · exact Nat.sub_le _ _
  · exact Nat.le_refl _
theorem bhN_lt {t K : Nat} (h : K < t) : bhN t K < t := by unfold bhN; split <;> omega
theorem or_lt {t D K : Nat} (h : D < 2 ^ t) (hk : K < t) : D ||| 2 ^ K < 2 ^ t := Nat.or_lt_two_pow h (Nat.pow_lt_pow_right (by decide) hk)
theorem humB_lt {t kd K O D : Nat} (hD : D < 2 ^ t) (hK : K < t) : humB t kd K O D < 2 ^ t := by
  have hc : clr D O < 2 ^ t := Nat.lt_of_le_of_lt (clr_le D O) hD
  unfold humB
  split
  · exact or_lt hD hK
  · split
    · exact or_lt (or_lt hD hK) (bhN_lt hK)
    · split
      · split
        · exact or_lt hD hK
        · exact hD
      · split
        · exact hc
        · split
          · exact or_lt hc hK
          · exact hD
theorem pow8 {t : Nat} (h : t ≤ 8) : 2 ^ t ≤ 256 := Nat.pow_le_pow_right (by decide) h
theorem q_t1 {D K : Nat} (hD : D < 256) (hK : K < 8) : ((nI D >>> (nI K &&& 31)) &&& 1 = 0) ↔ D.testBit K = false := by
  rw [q_has D hD K hK]; cases D.testBit K <;> decide
theorem q_t2 {D K : Nat} (hD : D < 256) (hK : K < 8) : ((nI D >>> (nI K &&& 31)) &&& 1 = 1) ↔ D.testBit K = true := by
  rw [q_has D hD K hK]; cases D.testBit K <;> decide
theorem q_cmp {a b : Nat} (ha : a < 2 ^ 31) (hb : b < 2 ^ 31) : (nI a ≤ nI b ↔ a ≤ b) ∧ (nI a < nI b ↔ a < b) ∧ (nI a = nI b ↔ a = b) := ⟨nI_leI ha hb, nI_ltI ha hb, nI_eq ha hb⟩
theorem q_bits1 : ∀ n, n < 8 → ∀ x, x < 2 ^ n → bitsN (x ||| 2 ^ n) = bitsN x + 1 := by decide +kernel
theorem bitN_le (D : Nat) : ∀ n, bitN D n ≤ n
  | 0 => Nat.le_refl _
  | n + 1 => by have := bitN_le D n; rw [bitN_s]; split <;> omega
theorem bitsN_le (D : Nat) : bitsN D ≤ 8 := bitN_le D 8
theorem wset_lt (w D : Nat) : ∀ n, wset w D n < 2 ^ n
  | 0 => Nat.one_pos
  | n + 1 => by
    have h := wset_lt w D n
    have h2 : 2 ^ n < 2 ^ (n + 1) := Nat.pow_lt_pow_right (by decide) (Nat.lt_succ_self n)
    rw [wset_s]
    split
    · exact or_lt (Nat.lt_trans h h2) (Nat.lt_succ_self n)
    · exact Nat.lt_trans h h2
theorem wset_bits (w D : Nat) : ∀ n, n ≤ 8 → bitsN (wset w D n) = wcnt w D n
  | 0, _ => bits0
  | n + 1, h => by
    have ih := wset_bits w D n (by omega)
    rw [wset_s, wcnt_s]
    by_cases q : D.testBit n = true ∧ wcnt w D n < w
    · rw [if_pos q, if_pos q, q_bits1 n (by omega) _ (wset_lt w D n), ih]
    · rw [if_neg q, if_neg q]; exact ih
theorem wcnt_stop {w D n : Nat} (h : w ≤ wcnt w D n) : ∀ k, wset w D (n + k) = wset w D n ∧ wcnt w D (n + k) = wcnt w D n
  | 0 => ⟨rfl, rfl⟩
  | k + 1 => by
    obtain ⟨h1, h2⟩ := wcnt_stop h k
    have e : ¬ (D.testBit (n + k) = true ∧ wcnt w D (n + k) < w) := fun q => by rw [h2] at q; omega
    show wset w D (n + k + 1) = _ ∧ wcnt w D (n + k + 1) = _
    rw [wset_s, wcnt_s, if_neg e, if_neg e]
    exact ⟨h1, h2⟩
theorem wset_top {w D t : Nat} (hD : D < 2 ^ t) : ∀ k, wset w D (t + k) = wset w D t
  | 0 => rfl
  | k + 1 => by
    have hb : D.testBit (t + k) = false := Nat.testBit_lt_two_pow (Nat.lt_of_lt_of_le hD (Nat.pow_le_pow_right (by decide) (by omega)))
    show wset w D (t + k + 1) = _
    rw [wset_s, if_neg (by rw [hb]; exact fun q => by cases q.1)]
    exact wset_top hD k
theorem wornN_lt {w D t : Nat} (hD : D < 2 ^ t) (ht : t ≤ 8) : wornN w D < 2 ^ t := by
  unfold wornN
  have := wset_top (w := w) hD (8 - t)
  rw [show t + (8 - t) = 8 by omega] at this
  rw [this]
  exact wset_lt w D t
/-- which numbers a court is -/
def Abs (κ : Nat → Nat → Int32) (α : Al) : Prop := (∀ i, i < 8 → κ 0 i = nI (α 0 i)) ∧ (∀ x h, 1 ≤ x → x ≤ 3 → h < α 0 6 → κ x h = nI (α x h)) ∧ (∀ x c, 4 ≤ x → x ≤ 7 → c < α 0 7 → κ x c = nI (α x c))
def HumOk (α : Al) (h : Nat) : Prop := 1 ≤ α 1 h ∧ α 1 h ≤ 5 ∧ α 2 h < α 0 0 ∧ α 3 h < α 0 0
def CaseOk (α : Al) (c : Nat) : Prop := α 4 c < α 0 6 ∧ α 5 c < α 0 0 ∧ α 6 c < α 0 0 ∧ α 7 c < 4
def Val (α : Al) : Prop := (3 ≤ α 0 0 ∧ α 0 0 ≤ 8) ∧ α 0 1 ≤ 8 ∧ (1 ≤ α 0 2 ∧ α 0 2 ≤ 9) ∧ α 0 3 < 2 ^ α 0 0 ∧ α 0 4 ≤ α 0 2 ∧ (1 ≤ α 0 6 ∧ α 0 6 ≤ 6) ∧ α 0 7 ≤ 5 ∧ (∀ h, h < α 0 6 → HumOk α h) ∧ (∀ c, c < α 0 7 → CaseOk α c)
theorem Val.t {α : Al} (h : Val α) : α 0 0 ≤ 8 := h.1.2
theorem Val.w {α : Al} (h : Val α) : α 0 1 ≤ 8 := h.2.1
theorem Val.D {α : Al} (h : Val α) : α 0 3 < 2 ^ α 0 0 := h.2.2.2.1
theorem Val.H {α : Al} (h : Val α) : α 0 6 ≤ 6 := h.2.2.2.2.2.1.2
theorem Val.C {α : Al} (h : Val α) : α 0 7 ≤ 5 := h.2.2.2.2.2.2.1
theorem Val.h {α : Al} (h : Val α) {k : Nat} (hk : k < α 0 6) : HumOk α k := h.2.2.2.2.2.2.2.1 k hk
theorem Val.c {α : Al} (h : Val α) {k : Nat} (hk : k < α 0 7) : CaseOk α k := h.2.2.2.2.2.2.2.2 k hk
theorem humN_lt {α : Al} (hv : Val α) {h D : Nat} (hh : h < α 0 6) (hD : D < 2 ^ α 0 0) : humN α h D < 2 ^ α 0 0 := humB_lt hD (hv.h hh).2.2.1
theorem heaN_lt {α : Al} (hv : Val α) {c D : Nat} (hc : c < α 0 7) (hD : D < 2 ^ α 0 0) : heaN α c D < 2 ^ α 0 0 := wornN_lt (humN_lt hv (hv.c hc).1 hD) hv.t
theorem Val.lt {α : Al} (h : Val α) {D : Nat} (hD : D < 2 ^ α 0 0) : D < 256 := Nat.lt_of_lt_of_le hD (pow8 h.t)
theorem verN_lt (α : Al) (c D : Nat) : verN α c D < 3 := by
  unfold verN judN
  split
  · decide
  · split <;> decide
theorem thoN_lt (α : Al) (w : Nat) : ∀ n, thoN α w n < 2 ^ n
  | 0 => Nat.one_pos
  | n + 1 => by
    have h2 : 2 ^ n < 2 ^ (n + 1) := Nat.pow_lt_pow_right (by decide) (Nat.lt_succ_self n)
    have h := Nat.lt_trans (thoN_lt α w n) h2
    rw [thoN_s]
    split
    · exact or_lt h (Nat.lt_succ_self n)
    · rw [Nat.or_zero]; exact h
/-- the class's courts, the model's rows -/
def kac (μ : Mem) (b : Nat) : Nat → Nat → Int32 := fun x i => μ (b + x) i
def pmN (i : Nat) : Nat := match i with | 0 => 0 | 1 => 1 | 2 => 2 | 3 => 6 | 4 => 7 | 5 => 5 | 6 => 3 | _ => 4
def kap (f : Nat → Int32) : Nat → Nat → Int32 := fun x i => if x = 0 then f (pmN i) else if x < 4 then f (7 + 3 * i + x) else f (22 + 4 * i + x)
theorem nI_lt31 {n m : Nat} (h : n < m) (hm : m ≤ 2 ^ 31) : n < 2 ^ 31 := Nat.lt_of_lt_of_le h hm
theorem nI_cl {x : Int32} {n : Nat} (h : x = nI n) (hn : n < 2 ^ 31) : x.toNatClampNeg = n := by rw [h]; exact nI_clamp hn
theorem in_nI {x : Int32} {n m : Nat} (h : x = nI n) (hn : n < m) (hm : m < 2 ^ 31) : vp_in x m := by rw [h]; exact vp_in_nI hn hm
/-- a checked number is a small one -/
theorem chk {x y : Int32} {n : Nat} (hy : y = nI n) (hn : n < 2 ^ 31) (h0 : 0 ≤ x) (h : x < y) : ∃ j, j < n ∧ x = nI j := by
  obtain ⟨j, hj, rfl⟩ := nI_of (Int32.not_lt.mpr h0)
  rw [hy] at h
  exact ⟨j, (nI_ltI hj hn).mp h, rfl⟩
theorem setc_c (μ : Mem) (a : Nat) (f g : Nat → Int32) : setc (setc μ a f) a g = setc μ a g := by
  funext i; unfold setc; by_cases h : i = a <;> simp [h]
theorem setc_id (μ : Mem) (a : Nat) : setc μ a (μ a) = μ := by
  funext i; unfold setc; by_cases h : i = a <;> simp [h]
end
section
/-! ===== SleepingJudge$Court: what is asked of it ===== -/
theorem c_isTold {b : Nat} {μ : Mem} (hb : IsCo b) : Ct yX2_isTold cX2_isTold 1 (some .boolean) 0 [vR b] μ (some (vI (if 0 < μ b 0 then 1 else 0))) μ := by
  refine Ct.go RX2 rfl pn_X2 (Nat.le_of_ble_eq_true rfl) (fun C hG hR => ?_)
  refine V_aload_n (pc := 0) hG (dk dd_X2_isTold 0 rfl) rfl ?_
  refine V_getI (pc := 1) hG (dk dd_X2_isTold 1 rfl) fl_X2_33 hb.s0 rfl ?_
  refine V_if_le (pc := 4) hG (dk dd_X2_isTold 2 rfl) (tgt := 11) (by decide) (fun h4 => ?_) (fun h4 => ?_)
  refine V_iconst (pc := 11) hG (dk dd_X2_isTold 5 rfl) (v := 0) (by decide) ?_
  refine V_zret (pc := 12) hG (dk dd_X2_isTold 6 rfl) (by decide) ?_
  rotate_left
  refine V_iconst (pc := 7) hG (dk dd_X2_isTold 3 rfl) (v := 1) (by decide) ?_
  refine V_goto (pc := 8) hG (dk dd_X2_isTold 4 rfl) (tgt := 12) (by decide) ?_
  refine V_zret (pc := 12) hG (dk dd_X2_isTold 6 rfl) (by decide) ?_
  rotate_left
  -- leaves: return@12; return@12
  · exact hR.i (if_neg (Int32.not_lt.mpr h4)).symm rfl
  · exact hR.i (if_pos (Int32.not_le.mp h4)).symm rfl
theorem c_isHum {b : Nat} {μ : Mem} (hb : IsCo b) {h : Int32} : Ct yX2_isHum cX2_isHum 2 (some .boolean) 0 [vR b, vI h] μ (some (vI (if 0 ≤ h ∧ h < μ b 6 then 1 else 0))) μ := by
  refine Ct.go RX2 rfl pn_X2 (Nat.le_of_ble_eq_true rfl) (fun C hG hR => ?_)
  refine V_iload_n (pc := 0) hG (dk dd_X2_isHum 0 rfl) rfl ?_
  refine V_if_lt (pc := 1) hG (dk dd_X2_isHum 1 rfl) (tgt := 16) (by decide) (fun h1 => ?_) (fun h1 => ?_)
  refine V_iconst (pc := 16) hG (dk dd_X2_isHum 8 rfl) (v := 0) (by decide) ?_
  refine V_zret (pc := 17) hG (dk dd_X2_isHum 9 rfl) (by decide) ?_
  rotate_left
  refine V_iload_n (pc := 4) hG (dk dd_X2_isHum 2 rfl) rfl ?_
  refine V_aload_n (pc := 5) hG (dk dd_X2_isHum 3 rfl) rfl ?_
  refine V_getI (pc := 6) hG (dk dd_X2_isHum 4 rfl) fl_X2_52 hb.s0 rfl ?_
  refine V_icmp_ge (pc := 9) hG (dk dd_X2_isHum 5 rfl) (tgt := 16) (by decide) (fun h9 => ?_) (fun h9 => ?_)
  refine V_iconst (pc := 16) hG (dk dd_X2_isHum 8 rfl) (v := 0) (by decide) ?_
  refine V_zret (pc := 17) hG (dk dd_X2_isHum 9 rfl) (by decide) ?_
  rotate_left
  refine V_iconst (pc := 12) hG (dk dd_X2_isHum 6 rfl) (v := 1) (by decide) ?_
  refine V_goto (pc := 13) hG (dk dd_X2_isHum 7 rfl) (tgt := 17) (by decide) ?_
  refine V_zret (pc := 17) hG (dk dd_X2_isHum 9 rfl) (by decide) ?_
  rotate_left
  -- leaves: return@17; return@17; return@17
  · exact hR.i (if_neg (fun q => Int32.not_lt.mpr q.1 h1)).symm rfl
  · exact hR.i (if_neg (fun q => Int32.not_lt.mpr h9 q.2)).symm rfl
  · exact hR.i (if_pos ⟨Int32.not_lt.mp h1, Int32.not_le.mp h9⟩).symm rfl
theorem c_isCase {b : Nat} {μ : Mem} (hb : IsCo b) {h : Int32} : Ct yX2_isCase cX2_isCase 2 (some .boolean) 0 [vR b, vI h] μ (some (vI (if 0 ≤ h ∧ h < μ b 7 then 1 else 0))) μ := by
  refine Ct.go RX2 rfl pn_X2 (Nat.le_of_ble_eq_true rfl) (fun C hG hR => ?_)
  refine V_iload_n (pc := 0) hG (dk dd_X2_isCase 0 rfl) rfl ?_
  refine V_if_lt (pc := 1) hG (dk dd_X2_isCase 1 rfl) (tgt := 16) (by decide) (fun h1 => ?_) (fun h1 => ?_)
  refine V_iconst (pc := 16) hG (dk dd_X2_isCase 8 rfl) (v := 0) (by decide) ?_
  refine V_zret (pc := 17) hG (dk dd_X2_isCase 9 rfl) (by decide) ?_
  rotate_left
  refine V_iload_n (pc := 4) hG (dk dd_X2_isCase 2 rfl) rfl ?_
  refine V_aload_n (pc := 5) hG (dk dd_X2_isCase 3 rfl) rfl ?_
  refine V_getI (pc := 6) hG (dk dd_X2_isCase 4 rfl) fl_X2_55 hb.s0 rfl ?_
  refine V_icmp_ge (pc := 9) hG (dk dd_X2_isCase 5 rfl) (tgt := 16) (by decide) (fun h9 => ?_) (fun h9 => ?_)
  refine V_iconst (pc := 16) hG (dk dd_X2_isCase 8 rfl) (v := 0) (by decide) ?_
  refine V_zret (pc := 17) hG (dk dd_X2_isCase 9 rfl) (by decide) ?_
  rotate_left
  refine V_iconst (pc := 12) hG (dk dd_X2_isCase 6 rfl) (v := 1) (by decide) ?_
  refine V_goto (pc := 13) hG (dk dd_X2_isCase 7 rfl) (tgt := 17) (by decide) ?_
  refine V_zret (pc := 17) hG (dk dd_X2_isCase 9 rfl) (by decide) ?_
  rotate_left
  -- leaves: return@17; return@17; return@17
  · exact hR.i (if_neg (fun q => Int32.not_lt.mpr q.1 h1)).symm rfl
  · exact hR.i (if_neg (fun q => Int32.not_lt.mpr h9 q.2)).symm rfl
  · exact hR.i (if_pos ⟨Int32.not_lt.mp h1, Int32.not_le.mp h9⟩).symm rfl
theorem c_isThing {b : Nat} {μ : Mem} (hb : IsCo b) {h : Int32} : Ct yX2_isThing cX2_isThing 2 (some .boolean) 0 [vR b, vI h] μ (some (vI (if 0 ≤ h ∧ h < μ b 0 then 1 else 0))) μ := by
  refine Ct.go RX2 rfl pn_X2 (Nat.le_of_ble_eq_true rfl) (fun C hG hR => ?_)
  refine V_iload_n (pc := 0) hG (dk dd_X2_isThing 0 rfl) rfl ?_
  refine V_if_lt (pc := 1) hG (dk dd_X2_isThing 1 rfl) (tgt := 16) (by decide) (fun h1 => ?_) (fun h1 => ?_)
  refine V_iconst (pc := 16) hG (dk dd_X2_isThing 8 rfl) (v := 0) (by decide) ?_
  refine V_zret (pc := 17) hG (dk dd_X2_isThing 9 rfl) (by decide) ?_
  rotate_left
  refine V_iload_n (pc := 4) hG (dk dd_X2_isThing 2 rfl) rfl ?_
  refine V_aload_n (pc := 5) hG (dk dd_X2_isThing 3 rfl) rfl ?_
  refine V_getI (pc := 6) hG (dk dd_X2_isThing 4 rfl) fl_X2_33 hb.s0 rfl ?_
  refine V_icmp_ge (pc := 9) hG (dk dd_X2_isThing 5 rfl) (tgt := 16) (by decide) (fun h9 => ?_) (fun h9 => ?_)
  refine V_iconst (pc := 16) hG (dk dd_X2_isThing 8 rfl) (v := 0) (by decide) ?_
  refine V_zret (pc := 17) hG (dk dd_X2_isThing 9 rfl) (by decide) ?_
  rotate_left
  refine V_iconst (pc := 12) hG (dk dd_X2_isThing 6 rfl) (v := 1) (by decide) ?_
  refine V_goto (pc := 13) hG (dk dd_X2_isThing 7 rfl) (tgt := 17) (by decide) ?_
  refine V_zret (pc := 17) hG (dk dd_X2_isThing 9 rfl) (by decide) ?_
  rotate_left
  -- leaves: return@17; return@17; return@17
  · exact hR.i (if_neg (fun q => Int32.not_lt.mpr q.1 h1)).symm rfl
  · exact hR.i (if_neg (fun q => Int32.not_lt.mpr h9 q.2)).symm rfl
  · exact hR.i (if_pos ⟨Int32.not_lt.mp h1, Int32.not_le.mp h9⟩).symm rfl
theorem c_dreamCount {b : Nat} {μ : Mem} (hb : IsCo b) : Ct yX2_dreamCount cX2_dreamCount 1 (some .int) 0 [vR b] μ (some (vI (bI (μ b 0)))) μ := by
  refine Ct.go RX2 rfl pn_X2 (Nat.le_of_ble_eq_true rfl) (fun C hG hR => ?_)
  refine V_iconst (pc := 0) hG (dk dd_X2_dreamCount 0 rfl) (v := 1) (by decide) ?_
  refine V_aload_n (pc := 1) hG (dk dd_X2_dreamCount 1 rfl) rfl ?_
  refine V_getI (pc := 2) hG (dk dd_X2_dreamCount 2 rfl) fl_X2_33 hb.s0 rfl ?_
  refine V_ishl (pc := 5) hG (dk dd_X2_dreamCount 3 rfl) ?_
  refine V_iret (pc := 6) hG (dk dd_X2_dreamCount 4 rfl) ?_
  rotate_left
  -- leaves: return@6
  · exact hR
theorem c_isDream {b : Nat} {μ : Mem} (hb : IsCo b) {h : Int32} : Ct yX2_isDream cX2_isDream 2 (some .boolean) 1 [vR b, vI h] μ (some (vI (if 0 ≤ h ∧ h < bI (μ b 0) then 1 else 0))) μ := by
  refine Ct.go RX2 rfl pn_X2 (Nat.le_of_ble_eq_true rfl) (fun C hG hR => ?_)
  refine V_iload_n (pc := 0) hG (dk dd_X2_isDream 0 rfl) rfl ?_
  refine V_if_lt (pc := 1) hG (dk dd_X2_isDream 1 rfl) (tgt := 16) (by decide) (fun h1 => ?_) (fun h1 => ?_)
  refine V_iconst (pc := 16) hG (dk dd_X2_isDream 8 rfl) (v := 0) (by decide) ?_
  refine V_zret (pc := 17) hG (dk dd_X2_isDream 9 rfl) (by decide) ?_
  rotate_left
  refine V_iload_n (pc := 4) hG (dk dd_X2_isDream 2 rfl) rfl ?_
  refine V_aload_n (pc := 5) hG (dk dd_X2_isDream 3 rfl) rfl ?_
  refine V_callVi (pc := 6) hG (dk dd_X2_isDream 4 rfl) ml_X2_70 mo_X2_dreamCount hb.s0 rfl (c_dreamCount hb) (by decide) (by decide) rfl rfl rfl ?_
  refine V_icmp_ge (pc := 9) hG (dk dd_X2_isDream 5 rfl) (tgt := 16) (by decide) (fun h9 => ?_) (fun h9 => ?_)
  refine V_iconst (pc := 16) hG (dk dd_X2_isDream 8 rfl) (v := 0) (by decide) ?_
  refine V_zret (pc := 17) hG (dk dd_X2_isDream 9 rfl) (by decide) ?_
  rotate_left
  refine V_iconst (pc := 12) hG (dk dd_X2_isDream 6 rfl) (v := 1) (by decide) ?_
  refine V_goto (pc := 13) hG (dk dd_X2_isDream 7 rfl) (tgt := 17) (by decide) ?_
  refine V_zret (pc := 17) hG (dk dd_X2_isDream 9 rfl) (by decide) ?_
  rotate_left
  -- leaves: return@17; return@17; return@17
  · exact hR.i (if_neg (fun q => Int32.not_lt.mpr q.1 h1)).symm rfl
  · exact hR.i (if_neg (fun q => Int32.not_lt.mpr h9 q.2)).symm rfl
  · exact hR.i (if_pos ⟨Int32.not_lt.mp h1, Int32.not_le.mp h9⟩).symm rfl
theorem c_thingBehind {b : Nat} {μ : Mem} (hb : IsCo b) {k : Int32} : Ct yX2_thingBehind cX2_thingBehind 2 (some .int) 0 [vR b, vI k] μ (some (vI (if μ b 0 ≤ k + 1 then 0 else k + 1))) μ := by
  refine Ct.go RX2 rfl pn_X2 (Nat.le_of_ble_eq_true rfl) (fun C hG hR => ?_)
  refine V_iload_n (pc := 0) hG (dk dd_X2_thingBehind 0 rfl) rfl ?_
  refine V_iconst (pc := 1) hG (dk dd_X2_thingBehind 1 rfl) (v := 1) (by decide) ?_
  refine V_iadd (pc := 2) hG (dk dd_X2_thingBehind 2 rfl) ?_
  refine V_aload_n (pc := 3) hG (dk dd_X2_thingBehind 3 rfl) rfl ?_
  refine V_getI (pc := 4) hG (dk dd_X2_thingBehind 4 rfl) fl_X2_33 hb.s0 rfl ?_
  refine V_icmp_ge (pc := 7) hG (dk dd_X2_thingBehind 5 rfl) (tgt := 16) (by decide) (fun h7 => ?_) (fun h7 => ?_)
  refine V_iconst (pc := 16) hG (dk dd_X2_thingBehind 10 rfl) (v := 0) (by decide) ?_
  refine V_iret (pc := 17) hG (dk dd_X2_thingBehind 11 rfl) ?_
  rotate_left
  refine V_iload_n (pc := 10) hG (dk dd_X2_thingBehind 6 rfl) rfl ?_
  refine V_iconst (pc := 11) hG (dk dd_X2_thingBehind 7 rfl) (v := 1) (by decide) ?_
  refine V_iadd (pc := 12) hG (dk dd_X2_thingBehind 8 rfl) ?_
  refine V_goto (pc := 13) hG (dk dd_X2_thingBehind 9 rfl) (tgt := 17) (by decide) ?_
  refine V_iret (pc := 17) hG (dk dd_X2_thingBehind 11 rfl) ?_
  rotate_left
  -- leaves: return@17; return@17
  · exact hR.i (if_pos h7).symm rfl
  · exact hR.i (if_neg h7).symm rfl
theorem c_byKind {b : Nat} {μ : Mem} (hb : IsCo b) {kd th ot d : Int32} {t k K O D : Nat} (hT : μ b 0 = nI t) (ht : t ≤ 8) (hk : kd = nI k) (hk1 : 1 ≤ k ∧ k ≤ 5) (hth : th = nI K) (hK : K < t) (hot : ot = nI O) (hO : O < t) (hd : d = nI D) (hD : D < 256) :
    Ct yX2_byKind cX2_byKind 8 (some .int) 1 [vR b, vI kd, vI th, vI ot, vI d] μ (some (vI (nI (humB t k K O D)))) μ := by
  refine Ct.go RX2 rfl pn_X2 (Nat.le_of_ble_eq_true rfl) (fun C hG hR => ?_)
  subst hk hth hot hd
  have hKK : K < 8 := by omega
  have hOO : O < 8 := by omega
  have hbb : bhN t K < 8 := by have := bhN_lt hK; omega
  have hor : D ||| 2 ^ K < 256 := or_lt (t := 8) hD hKK
  have hcl : clr D O < 256 := Nat.lt_of_le_of_lt (clr_le D O) hD
  have hbeh : (if μ b 0 ≤ nI K + 1 then 0 else nI K + 1) = nI (bhN t K) := by
    rw [hT, nI_1]; unfold bhN
    by_cases q : t ≤ K + 1
    · rw [if_pos q, if_pos ((nI_leI (by omega) (by omega)).mpr q)]; rfl
    · rw [if_neg q, if_neg (fun z => q ((nI_leI (by omega) (by omega)).mp z))]
  have ne : ∀ {j : Nat}, j < 6 → ∀ {z : Int32}, nI k = z → z = nI j → k = j := fun hj _ e1 e2 => (nI_eq (by omega) (by omega)).mp (e1.trans e2)
  have fin : ∀ z : Int32, (z = 1 ∧ D.testBit O = true) ∨ (z = 0 ∧ D.testBit O = false) → V C 25 [(0, vR b), (1, vI (nI k)), (2, vI (nI K)), (3, vI (nI O)), (4, vI (nI D)), (5, vI (bI (nI K))), (6, vI (bI (nI O))), (7, vI z)] [] μ := by
    intro z hz
    refine V_iload_n (pc := 25) hG (dk dd_X2_byKind 16 rfl) rfl ?_
    refine V_tsw (pc := 26) hG (dk dd_X2_byKind 17 rfl) (cs := [(1, 60), (2, 66), (3, 80), (4, 96), (5, 104)]) (td := 125) (by decide +kernel) ?_
    refine And.intro (fun h26_1 => ?_) (fun h26_1 => ?_)
    refine V_iload (pc := 60) hG (dk dd_X2_byKind 18 rfl) rfl ?_
    refine V_iload (pc := 62) hG (dk dd_X2_byKind 19 rfl) rfl ?_
    refine V_ior (pc := 64) hG (dk dd_X2_byKind 20 rfl) ?_
    refine V_iret (pc := 65) hG (dk dd_X2_byKind 21 rfl) ?_
    rotate_left
    refine And.intro (fun h26_2 => ?_) (fun h26_2 => ?_)
    refine V_iload (pc := 66) hG (dk dd_X2_byKind 22 rfl) rfl ?_
    refine V_iload (pc := 68) hG (dk dd_X2_byKind 23 rfl) rfl ?_
    refine V_ior (pc := 70) hG (dk dd_X2_byKind 24 rfl) ?_
    refine V_iconst (pc := 71) hG (dk dd_X2_byKind 25 rfl) (v := 1) (by decide) ?_
    refine V_aload_n (pc := 72) hG (dk dd_X2_byKind 26 rfl) rfl ?_
    refine V_iload_n (pc := 73) hG (dk dd_X2_byKind 27 rfl) rfl ?_
    refine V_callVi (pc := 74) hG (dk dd_X2_byKind 28 rfl) ml_X2_78 mo_X2_thingBehind hb.s0 rfl (c_thingBehind hb) (by decide) (by decide) rfl rfl rfl ?_
    refine V_ishl (pc := 77) hG (dk dd_X2_byKind 29 rfl) ?_
    refine V_ior (pc := 78) hG (dk dd_X2_byKind 30 rfl) ?_
    refine V_iret (pc := 79) hG (dk dd_X2_byKind 31 rfl) ?_
    rotate_left
    refine And.intro (fun h26_3 => ?_) (fun h26_3 => ?_)
    refine V_iload (pc := 80) hG (dk dd_X2_byKind 32 rfl) rfl ?_
    refine V_if_eq (pc := 82) hG (dk dd_X2_byKind 33 rfl) (tgt := 93) (by decide) (fun h82 => ?_) (fun h82 => ?_)
    refine V_iload (pc := 93) hG (dk dd_X2_byKind 38 rfl) rfl ?_
    refine V_iret (pc := 95) hG (dk dd_X2_byKind 39 rfl) ?_
    rotate_left
    refine V_iload (pc := 85) hG (dk dd_X2_byKind 34 rfl) rfl ?_
    refine V_iload (pc := 87) hG (dk dd_X2_byKind 35 rfl) rfl ?_
    refine V_ior (pc := 89) hG (dk dd_X2_byKind 36 rfl) ?_
    refine V_goto (pc := 90) hG (dk dd_X2_byKind 37 rfl) (tgt := 95) (by decide) ?_
    refine V_iret (pc := 95) hG (dk dd_X2_byKind 39 rfl) ?_
    rotate_left
    refine And.intro (fun h26_4 => ?_) (fun h26_4 => ?_)
    refine V_iload (pc := 96) hG (dk dd_X2_byKind 40 rfl) rfl ?_
    refine V_iload (pc := 98) hG (dk dd_X2_byKind 41 rfl) rfl ?_
    refine V_iconst (pc := 100) hG (dk dd_X2_byKind 42 rfl) (v := -1) (by decide) ?_
    refine V_ixor (pc := 101) hG (dk dd_X2_byKind 43 rfl) ?_
    refine V_iand (pc := 102) hG (dk dd_X2_byKind 44 rfl) ?_
    refine V_iret (pc := 103) hG (dk dd_X2_byKind 45 rfl) ?_
    rotate_left
    refine And.intro (fun h26_5 => ?_) (fun h26_5 => ?_)
    refine V_iload (pc := 104) hG (dk dd_X2_byKind 46 rfl) rfl ?_
    refine V_if_eq (pc := 106) hG (dk dd_X2_byKind 47 rfl) (tgt := 122) (by decide) (fun h106 => ?_) (fun h106 => ?_)
    refine V_iload (pc := 122) hG (dk dd_X2_byKind 56 rfl) rfl ?_
    refine V_iret (pc := 124) hG (dk dd_X2_byKind 57 rfl) ?_
    rotate_left
    refine V_iload (pc := 109) hG (dk dd_X2_byKind 48 rfl) rfl ?_
    refine V_iload (pc := 111) hG (dk dd_X2_byKind 49 rfl) rfl ?_
    refine V_iconst (pc := 113) hG (dk dd_X2_byKind 50 rfl) (v := -1) (by decide) ?_
    refine V_ixor (pc := 114) hG (dk dd_X2_byKind 51 rfl) ?_
    refine V_iand (pc := 115) hG (dk dd_X2_byKind 52 rfl) ?_
    refine V_iload (pc := 116) hG (dk dd_X2_byKind 53 rfl) rfl ?_
    refine V_ior (pc := 118) hG (dk dd_X2_byKind 54 rfl) ?_
    refine V_goto (pc := 119) hG (dk dd_X2_byKind 55 rfl) (tgt := 124) (by decide) ?_
    refine V_iret (pc := 124) hG (dk dd_X2_byKind 57 rfl) ?_
    rotate_left
    show V _ _ _ _ _
    refine V_iload (pc := 125) hG (dk dd_X2_byKind 58 rfl) rfl ?_
    refine V_iret (pc := 127) hG (dk dd_X2_byKind 59 rfl) ?_
    rotate_left
    -- leaves: return@65; return@79; return@95; return@95; return@103; return@124; return@124; return@127
    · have e := ne (by decide) h26_1 (j := 1) rfl; subst e
      exact hR.i (q_or D hD K hKK) rfl
    · have e := ne (by decide) h26_2 (j := 2) rfl; subst e
      refine hR.i ?_ rfl
      rw [hbeh, q_or D hD K hKK, bI_eq, q_or _ hor _ hbb]; rfl
    · have e := ne (by decide) h26_3 (j := 3) rfl; subst e
      refine hR.i ?_ rfl
      rcases hz with z1 | z1
      · exact absurd (h82.symm.trans z1.1) (by decide)
      · unfold humB; rw [if_neg (by decide), if_neg (by decide), if_pos rfl, z1.2]; rfl
    · have e := ne (by decide) h26_3 (j := 3) rfl; subst e
      refine hR.i ?_ rfl
      rcases hz with z1 | z1
      · unfold humB; rw [if_neg (by decide), if_neg (by decide), if_pos rfl, z1.2, q_or D hD K hKK]; rfl
      · exact absurd z1.1 h82
    · have e := ne (by decide) h26_4 (j := 4) rfl; subst e
      exact hR.i (q_clr D hD O hOO) rfl
    · have e := ne (by decide) h26_5 (j := 5) rfl; subst e
      refine hR.i ?_ rfl
      rcases hz with z1 | z1
      · exact absurd (h106.symm.trans z1.1) (by decide)
      · unfold humB; rw [if_neg (by decide), if_neg (by decide), if_neg (by decide), if_neg (by decide), z1.2]; rfl
    · have e := ne (by decide) h26_5 (j := 5) rfl; subst e
      refine hR.i ?_ rfl
      rcases hz with z1 | z1
      · unfold humB; rw [if_neg (by decide), if_neg (by decide), if_neg (by decide), if_neg (by decide), z1.2, q_clr D hD O hOO, q_or _ hcl K hKK]; rfl
      · exact absurd z1.1 h106
    · exfalso
      rcases (show k = 1 ∨ k = 2 ∨ k = 3 ∨ k = 4 ∨ k = 5 by omega) with q | q | q | q | q <;> subst q
      · exact h26_1 rfl
      · exact h26_2 rfl
      · exact h26_3 rfl
      · exact h26_4 rfl
      · exact h26_5 rfl
  refine V_iconst (pc := 0) hG (dk dd_X2_byKind 0 rfl) (v := 1) (by decide) ?_
  refine V_iload_n (pc := 1) hG (dk dd_X2_byKind 1 rfl) rfl ?_
  refine V_ishl (pc := 2) hG (dk dd_X2_byKind 2 rfl) ?_
  refine V_istore (pc := 3) hG (dk dd_X2_byKind 3 rfl) (by decide) (lv' := [(0, _), (1, _), (2, _), (3, _), (4, _), (5, _)]) rfl ?_
  refine V_iconst (pc := 5) hG (dk dd_X2_byKind 4 rfl) (v := 1) (by decide) ?_
  refine V_iload_n (pc := 6) hG (dk dd_X2_byKind 5 rfl) rfl ?_
  refine V_ishl (pc := 7) hG (dk dd_X2_byKind 6 rfl) ?_
  refine V_istore (pc := 8) hG (dk dd_X2_byKind 7 rfl) (by decide) (lv' := [(0, _), (1, _), (2, _), (3, _), (4, _), (5, _), (6, _)]) rfl ?_
  refine V_iload (pc := 10) hG (dk dd_X2_byKind 8 rfl) rfl ?_
  refine V_iload (pc := 12) hG (dk dd_X2_byKind 9 rfl) rfl ?_
  refine V_iand (pc := 14) hG (dk dd_X2_byKind 10 rfl) ?_
  refine V_if_eq (pc := 15) hG (dk dd_X2_byKind 11 rfl) (tgt := 22) (by decide) (fun h15 => ?_) (fun h15 => ?_)
  refine V_iconst (pc := 22) hG (dk dd_X2_byKind 14 rfl) (v := 0) (by decide) ?_
  refine V_istore (pc := 23) hG (dk dd_X2_byKind 15 rfl) (by decide) (lv' := [(0, _), (1, _), (2, _), (3, _), (4, _), (5, _), (6, _), (7, _)]) rfl ?_
  rotate_left
  refine V_iconst (pc := 18) hG (dk dd_X2_byKind 12 rfl) (v := 1) (by decide) ?_
  refine V_goto (pc := 19) hG (dk dd_X2_byKind 13 rfl) (tgt := 23) (by decide) ?_
  refine V_istore (pc := 23) hG (dk dd_X2_byKind 15 rfl) (by decide) (lv' := [(0, _), (1, _), (2, _), (3, _), (4, _), (5, _), (6, _), (7, _)]) rfl ?_
  rotate_left
  -- leaves: stop 25; stop 25
  · exact fin 0 (Or.inr ⟨rfl, (q_and D hD O hOO).mp h15⟩)
  · exact fin 1 (Or.inl ⟨rfl, by cases hq : D.testBit O with | true => rfl | false => exact absurd ((q_and D hD O hOO).mpr hq) h15⟩)
theorem c_by {b : Nat} {μ : Mem} {α : Al} (hb : IsCo b) (hA : Abs (kac μ b) α) (hv : Val α) {x d : Int32} {h D : Nat} (hx : x = nI h) (hh : h < α 0 6) (hd : d = nI D) (hD : D < 2 ^ α 0 0) :
    Ct yX2_by cX2_by 3 (some .int) 2 [vR b, vI x, vI d] μ (some (vI (nI (humN α h D)))) μ := by
  refine Ct.go RX2 rfl pn_X2 (Nat.le_of_ble_eq_true rfl) (fun C hG hR => ?_)
  have hH := hv.H
  have hk := hv.h hh
  have hr : vp_in x 6 := in_nI hx (by omega) (by decide)
  have hc : x.toNatClampNeg = h := nI_cl hx (by omega)
  have e1 : μ (b + 1) x.toNatClampNeg = nI (α 1 h) := by rw [hc]; exact hA.2.1 1 h (by decide) (by decide) hh
  have e2 : μ (b + 2) x.toNatClampNeg = nI (α 2 h) := by rw [hc]; exact hA.2.1 2 h (by decide) (by decide) hh
  have e3 : μ (b + 3) x.toNatClampNeg = nI (α 3 h) := by rw [hc]; exact hA.2.1 3 h (by decide) (by decide) hh
  refine V_aload_n (pc := 0) hG (dk dd_X2_by 0 rfl) rfl ?_
  refine V_aload_n (pc := 1) hG (dk dd_X2_by 1 rfl) rfl ?_
  refine V_getR (pc := 2) hG (dk dd_X2_by 2 rfl) fl_X2_9 hb.s0 rfl ?_
  refine V_iload_n (pc := 5) hG (dk dd_X2_by 3 rfl) rfl ?_
  refine V_iald (pc := 6) hG (dk dd_X2_by 4 rfl) hb.s1 hr ?_
  refine V_aload_n (pc := 7) hG (dk dd_X2_by 5 rfl) rfl ?_
  refine V_getR (pc := 8) hG (dk dd_X2_by 6 rfl) fl_X2_15 hb.s0 rfl ?_
  refine V_iload_n (pc := 11) hG (dk dd_X2_by 7 rfl) rfl ?_
  refine V_iald (pc := 12) hG (dk dd_X2_by 8 rfl) hb.s2 hr ?_
  refine V_aload_n (pc := 13) hG (dk dd_X2_by 9 rfl) rfl ?_
  refine V_getR (pc := 14) hG (dk dd_X2_by 10 rfl) fl_X2_18 hb.s0 rfl ?_
  refine V_iload_n (pc := 17) hG (dk dd_X2_by 11 rfl) rfl ?_
  refine V_iald (pc := 18) hG (dk dd_X2_by 12 rfl) hb.s3 hr ?_
  refine V_iload_n (pc := 19) hG (dk dd_X2_by 13 rfl) rfl ?_
  refine V_callVi (pc := 20) hG (dk dd_X2_by 14 rfl) ml_X2_74 mo_X2_byKind hb.s0 rfl (c_byKind hb (hA.1 0 (by decide)) hv.t e1 ⟨hk.1, hk.2.1⟩ e2 hk.2.2.1 e3 hk.2.2.2 hd (hv.lt hD)) (by decide) (by decide) rfl rfl rfl ?_
  refine V_iret (pc := 23) hG (dk dd_X2_by 15 rfl) ?_
  rotate_left
  -- leaves: return@23
  · exact hR
theorem c_judged {b : Nat} {μ : Mem} {α : Al} (hb : IsCo b) (hA : Abs (kac μ b) α) (hv : Val α) {x d : Int32} {c D : Nat} (hx : x = nI c) (hc : c < α 0 7) (hd : d = nI D) (hD : D < 2 ^ α 0 0) :
    Ct yX2_judged cX2_judged 3 (some .int) 0 [vR b, vI x, vI d] μ (some (vI (nI (judN α c D)))) μ := by
  refine Ct.go RX2 rfl pn_X2 (Nat.le_of_ble_eq_true rfl) (fun C hG hR => ?_)
  have hC := hv.C
  have hk := hv.c hc
  have ht := hv.t
  have hr : vp_in x 5 := in_nI hx (by omega) (by decide)
  have hcl : x.toNatClampNeg = c := nI_cl hx (by omega)
  have e1 : μ (b + 5) x.toNatClampNeg = nI (α 5 c) := by rw [hcl]; exact hA.2.2 5 c (by decide) (by decide) hc
  have e2 : μ (b + 6) x.toNatClampNeg = nI (α 6 c) := by rw [hcl]; exact hA.2.2 6 c (by decide) (by decide) hc
  have hD8 := hv.lt hD
  have l1 := hk.2.1
  have l2 := hk.2.2.1
  subst hd
  refine V_iload_n (pc := 0) hG (dk dd_X2_judged 0 rfl) rfl ?_
  refine V_aload_n (pc := 1) hG (dk dd_X2_judged 1 rfl) rfl ?_
  refine V_getR (pc := 2) hG (dk dd_X2_judged 2 rfl) fl_X2_24 hb.s0 rfl ?_
  refine V_iload_n (pc := 5) hG (dk dd_X2_judged 3 rfl) rfl ?_
  refine V_iald (pc := 6) hG (dk dd_X2_judged 4 rfl) hb.s5 hr ?_
  refine V_ishr (pc := 7) hG (dk dd_X2_judged 5 rfl) ?_
  refine V_iconst (pc := 8) hG (dk dd_X2_judged 6 rfl) (v := 1) (by decide) ?_
  refine V_iand (pc := 9) hG (dk dd_X2_judged 7 rfl) ?_
  refine V_if_eq (pc := 10) hG (dk dd_X2_judged 8 rfl) (tgt := 15) (by decide) (fun h10 => ?_) (fun h10 => ?_)
  refine V_iload_n (pc := 15) hG (dk dd_X2_judged 11 rfl) rfl ?_
  refine V_aload_n (pc := 16) hG (dk dd_X2_judged 12 rfl) rfl ?_
  refine V_getR (pc := 17) hG (dk dd_X2_judged 13 rfl) fl_X2_27 hb.s0 rfl ?_
  refine V_iload_n (pc := 20) hG (dk dd_X2_judged 14 rfl) rfl ?_
  refine V_iald (pc := 21) hG (dk dd_X2_judged 15 rfl) hb.s6 hr ?_
  refine V_ishr (pc := 22) hG (dk dd_X2_judged 16 rfl) ?_
  refine V_iconst (pc := 23) hG (dk dd_X2_judged 17 rfl) (v := 1) (by decide) ?_
  refine V_iand (pc := 24) hG (dk dd_X2_judged 18 rfl) ?_
  refine V_if_eq (pc := 25) hG (dk dd_X2_judged 19 rfl) (tgt := 32) (by decide) (fun h25 => ?_) (fun h25 => ?_)
  refine V_iconst (pc := 32) hG (dk dd_X2_judged 22 rfl) (v := 0) (by decide) ?_
  refine V_iret (pc := 33) hG (dk dd_X2_judged 23 rfl) ?_
  rotate_left
  refine V_iconst (pc := 28) hG (dk dd_X2_judged 20 rfl) (v := 1) (by decide) ?_
  refine V_goto (pc := 29) hG (dk dd_X2_judged 21 rfl) (tgt := 33) (by decide) ?_
  refine V_iret (pc := 33) hG (dk dd_X2_judged 23 rfl) ?_
  rotate_left
  refine V_iconst (pc := 13) hG (dk dd_X2_judged 9 rfl) (v := 2) (by decide) ?_
  refine V_iret (pc := 14) hG (dk dd_X2_judged 10 rfl) ?_
  rotate_left
  -- leaves: return@33; return@33; return@14
  · rw [e1] at h10; rw [e2] at h25
    refine hR.i ?_ rfl
    unfold judN
    rw [(q_t1 hD8 (by omega)).mp h10, (q_t1 hD8 (by omega)).mp h25]; rfl
  · rw [e1] at h10; rw [e2] at h25
    refine hR.i ?_ rfl
    unfold judN
    rw [(q_t1 hD8 (by omega)).mp h10, if_neg (by decide), if_pos (by cases hq : D.testBit (α 6 c) with | true => rfl | false => exact absurd ((q_t1 hD8 (by omega)).mpr hq) h25)]; rfl
  · rw [e1] at h10
    refine hR.i ?_ rfl
    unfold judN
    rw [if_pos (by cases hq : D.testBit (α 5 c) with | true => rfl | false => exact absurd ((q_t1 hD8 (by omega)).mpr hq) h10)]; rfl
theorem c_verdict {b : Nat} {μ : Mem} {α : Al} (hb : IsCo b) (hA : Abs (kac μ b) α) (hv : Val α) {x d : Int32} {c D : Nat} (hx : x = nI c) (hc : c < α 0 7) (hd : d = nI D) (hD : D < 2 ^ α 0 0) :
    Ct yX2_verdict cX2_verdict 3 (some .int) 3 [vR b, vI x, vI d] μ (some (vI (nI (verN α c D)))) μ := by
  refine Ct.go RX2 rfl pn_X2 (Nat.le_of_ble_eq_true rfl) (fun C hG hR => ?_)
  have hC := hv.C
  have hk := hv.c hc
  have hr : vp_in x 5 := in_nI hx (by omega) (by decide)
  have e1 : μ (b + 4) x.toNatClampNeg = nI (α 4 c) := by rw [nI_cl hx (by omega)]; exact hA.2.2 4 c (by decide) (by decide) hc
  refine V_aload_n (pc := 0) hG (dk dd_X2_verdict 0 rfl) rfl ?_
  refine V_iload_n (pc := 1) hG (dk dd_X2_verdict 1 rfl) rfl ?_
  refine V_aload_n (pc := 2) hG (dk dd_X2_verdict 2 rfl) rfl ?_
  refine V_aload_n (pc := 3) hG (dk dd_X2_verdict 3 rfl) rfl ?_
  refine V_getR (pc := 4) hG (dk dd_X2_verdict 4 rfl) fl_X2_21 hb.s0 rfl ?_
  refine V_iload_n (pc := 7) hG (dk dd_X2_verdict 5 rfl) rfl ?_
  refine V_iald (pc := 8) hG (dk dd_X2_verdict 6 rfl) hb.s4 hr ?_
  refine V_iload_n (pc := 9) hG (dk dd_X2_verdict 7 rfl) rfl ?_
  refine V_callVi (pc := 10) hG (dk dd_X2_verdict 8 rfl) ml_X2_82 mo_X2_by hb.s0 rfl (c_by hb hA hv e1 hk.1 hd hD) (by decide) (by decide) rfl rfl rfl ?_
  refine V_callVi (pc := 13) hG (dk dd_X2_verdict 9 rfl) ml_X2_86 mo_X2_judged hb.s0 rfl (c_judged hb hA hv hx hc rfl (humN_lt hv hk.1 hD)) (by decide) (by decide) rfl rfl rfl ?_
  refine V_iret (pc := 16) hG (dk dd_X2_verdict 10 rfl) ?_
  rotate_left
  -- leaves: return@16
  · exact hR
theorem c_worn {b : Nat} {μ : Mem} {α : Al} (hb : IsCo b) (hA : Abs (kac μ b) α) (hv : Val α) {d : Int32} {D : Nat} (hd : d = nI D) (hD : D < 2 ^ α 0 0) :
    Ct yX2_worn cX2_worn 5 (some .int) 0 [vR b, vI d] μ (some (vI (nI (wornN (α 0 1) D)))) μ := by
  refine Ct.go RX2 rfl pn_X2 (Nat.le_of_ble_eq_true rfl) (fun C hG hR => ?_)
  have e0 : μ b 0 = nI (α 0 0) := hA.1 0 (by decide)
  have e1 : μ b 1 = nI (α 0 1) := hA.1 1 (by decide)
  have ht := hv.t
  have hw := hv.w
  have hD8 := hv.lt hD
  have hcw : ∀ n, wcnt (α 0 1) D n ≤ n := by
    intro n; induction n with
    | zero => exact Nat.le_refl _
    | succ n ih => rw [wcnt_s]; split <;> omega
  subst hd
  have loop : ∀ k n, n + k = α 0 0 → V C 7 [(0, vR b), (1, vI (nI D)), (2, vI (nI (wset (α 0 1) D n))), (3, vI (nI (wcnt (α 0 1) D n))), (4, vI (nI n))] [] μ := by
    intro k
    induction k with
    | zero =>
      intro n hn
      refine V_iload (pc := 7) hG (dk dd_X2_worn 6 rfl) rfl ?_
      refine V_aload_n (pc := 9) hG (dk dd_X2_worn 7 rfl) rfl ?_
      refine V_getI (pc := 10) hG (dk dd_X2_worn 8 rfl) fl_X2_33 hb.s0 rfl ?_
      refine V_icmp_ge (pc := 13) hG (dk dd_X2_worn 9 rfl) (tgt := 49) (by decide) (fun h13 => ?_) (fun h13 => ?_)
      refine V_iload_n (pc := 49) hG (dk dd_X2_worn 29 rfl) rfl ?_
      refine V_iret (pc := 50) hG (dk dd_X2_worn 30 rfl) ?_
      rotate_left
      rotate_left
      -- leaves: return@50; stop 16
      · refine hR.i ?_ rfl
        have := wset_top (w := α 0 1) hD (8 - α 0 0)
        unfold wornN
        rw [show α 0 0 + (8 - α 0 0) = 8 by omega] at this
        rw [this, show n = α 0 0 by omega]
      · exfalso; rw [e0] at h13; exact h13 ((nI_leI (by omega) (by omega)).mpr (by omega))
    | succ k ih =>
      intro n hn
      have hcn := hcw n
      have hb2 : wset (α 0 1) D n < 256 := Nat.lt_of_lt_of_le (wset_lt (α 0 1) D n) (pow8 (by omega))
      refine V_iload (pc := 7) hG (dk dd_X2_worn 6 rfl) rfl ?_
      refine V_aload_n (pc := 9) hG (dk dd_X2_worn 7 rfl) rfl ?_
      refine V_getI (pc := 10) hG (dk dd_X2_worn 8 rfl) fl_X2_33 hb.s0 rfl ?_
      refine V_icmp_ge (pc := 13) hG (dk dd_X2_worn 9 rfl) (tgt := 49) (by decide) (fun h13 => ?_) (fun h13 => ?_)
      refine V_iload_n (pc := 49) hG (dk dd_X2_worn 29 rfl) rfl ?_
      refine V_iret (pc := 50) hG (dk dd_X2_worn 30 rfl) ?_
      rotate_left
      refine V_iload_n (pc := 16) hG (dk dd_X2_worn 10 rfl) rfl ?_
      refine V_aload_n (pc := 17) hG (dk dd_X2_worn 11 rfl) rfl ?_
      refine V_getI (pc := 18) hG (dk dd_X2_worn 12 rfl) fl_X2_37 hb.s0 rfl ?_
      refine V_icmp_ge (pc := 21) hG (dk dd_X2_worn 13 rfl) (tgt := 49) (by decide) (fun h21 => ?_) (fun h21 => ?_)
      refine V_iload_n (pc := 49) hG (dk dd_X2_worn 29 rfl) rfl ?_
      refine V_iret (pc := 50) hG (dk dd_X2_worn 30 rfl) ?_
      rotate_left
      refine V_iload_n (pc := 24) hG (dk dd_X2_worn 14 rfl) rfl ?_
      refine V_iload (pc := 25) hG (dk dd_X2_worn 15 rfl) rfl ?_
      refine V_ishr (pc := 27) hG (dk dd_X2_worn 16 rfl) ?_
      refine V_iconst (pc := 28) hG (dk dd_X2_worn 17 rfl) (v := 1) (by decide) ?_
      refine V_iand (pc := 29) hG (dk dd_X2_worn 18 rfl) ?_
      refine V_if_eq (pc := 30) hG (dk dd_X2_worn 19 rfl) (tgt := 43) (by decide) (fun h30 => ?_) (fun h30 => ?_)
      refine V_iinc (pc := 43) hG (dk dd_X2_worn 27 rfl) rfl (v := _ + 1) rfl (by decide) (lv' := [(0, _), (1, _), (2, _), (3, _), (4, _)]) rfl ?_
      refine V_goto (pc := 46) hG (dk dd_X2_worn 28 rfl) (tgt := 7) (by decide) ?_
      rotate_left
      refine V_iload_n (pc := 33) hG (dk dd_X2_worn 20 rfl) rfl ?_
      refine V_iconst (pc := 34) hG (dk dd_X2_worn 21 rfl) (v := 1) (by decide) ?_
      refine V_iload (pc := 35) hG (dk dd_X2_worn 22 rfl) rfl ?_
      refine V_ishl (pc := 37) hG (dk dd_X2_worn 23 rfl) ?_
      refine V_ior (pc := 38) hG (dk dd_X2_worn 24 rfl) ?_
      refine V_istore_n (pc := 39) hG (dk dd_X2_worn 25 rfl) (by decide) (lv' := [(0, _), (1, _), (2, _), (3, _), (4, _)]) rfl ?_
      refine V_iinc (pc := 40) hG (dk dd_X2_worn 26 rfl) rfl (v := _ + 1) rfl (by decide) (lv' := [(0, _), (1, _), (2, _), (3, _), (4, _)]) rfl ?_
      refine V_iinc (pc := 43) hG (dk dd_X2_worn 27 rfl) rfl (v := _ + 1) rfl (by decide) (lv' := [(0, _), (1, _), (2, _), (3, _), (4, _)]) rfl ?_
      refine V_goto (pc := 46) hG (dk dd_X2_worn 28 rfl) (tgt := 7) (by decide) ?_
      rotate_left
      -- leaves: return@50; return@50; stop 7; stop 7
      · exfalso; rw [e0] at h13; have := (nI_leI (by omega) (by omega)).mp h13; omega
      · refine hR.i ?_ rfl
        rw [e1] at h21
        have hh := (nI_leI (by omega) (by omega)).mp h21
        have := (wcnt_stop hh (8 - n)).1
        rw [show n + (8 - n) = 8 by omega] at this
        unfold wornN
        rw [this]
      · have hz := (q_t1 hD8 (by omega)).mp h30
        have := ih (n + 1) (by omega)
        rw [wset_s, wcnt_s] at this
        rw [if_neg (by rw [hz]; exact fun q => by cases q.1), if_neg (by rw [hz]; exact fun q => by cases q.1), nI_succ] at this
        exact this
      · have hz : D.testBit n = true := by
          cases hq : D.testBit n with
          | true => rfl
          | false => exact absurd ((q_t1 hD8 (by omega)).mpr hq) h30
        rw [e1] at h21
        have hh : wcnt (α 0 1) D n < α 0 1 := Nat.not_le.mp (fun q => h21 ((nI_leI (by omega) (by omega)).mpr q))
        have := ih (n + 1) (by omega)
        rw [wset_s, wcnt_s] at this
        rw [if_pos ⟨hz, hh⟩, if_pos ⟨hz, hh⟩, nI_succ, nI_succ, ← q_or _ hb2 _ (by omega)] at this
        exact this
  refine V_iconst (pc := 0) hG (dk dd_X2_worn 0 rfl) (v := 0) (by decide) ?_
  refine V_istore_n (pc := 1) hG (dk dd_X2_worn 1 rfl) (by decide) (lv' := [(0, _), (1, _), (2, _)]) rfl ?_
  refine V_iconst (pc := 2) hG (dk dd_X2_worn 2 rfl) (v := 0) (by decide) ?_
  refine V_istore_n (pc := 3) hG (dk dd_X2_worn 3 rfl) (by decide) (lv' := [(0, _), (1, _), (2, _), (3, _)]) rfl ?_
  refine V_iconst (pc := 4) hG (dk dd_X2_worn 4 rfl) (v := 0) (by decide) ?_
  refine V_istore (pc := 5) hG (dk dd_X2_worn 5 rfl) (by decide) (lv' := [(0, _), (1, _), (2, _), (3, _), (4, _)]) rfl ?_
  rotate_left
  -- leaves: stop 7
  · exact loop (α 0 0) 0 (by omega)
end
section
/-! ===== Court: sets of cases and hums, pairs; Integer.bitCount, Arrays.fill ===== -/
def deaN (α : Al) (D : Nat) : Nat → Nat
  | 0 => 0
  | h + 1 => deaN α D h ||| (if humN α h D = D then 2 ^ h else 0)
theorem deaN_s (α : Al) (D h : Nat) : deaN α D (h + 1) = deaN α D h ||| (if humN α h D = D then 2 ^ h else 0) := rfl
theorem deaN_lt (α : Al) (D : Nat) : ∀ n, deaN α D n < 2 ^ n
  | 0 => Nat.one_pos
  | n + 1 => by
    have h2 : 2 ^ n < 2 ^ (n + 1) := Nat.pow_lt_pow_right (by decide) (Nat.lt_succ_self n)
    have h := Nat.lt_trans (deaN_lt α D n) h2
    rw [deaN_s]
    split
    · exact or_lt h (Nat.lt_succ_self n)
    · rw [Nat.or_zero]; exact h
def claB (α : Al) (a b : Nat) : Prop := α 6 a = α 5 b ∨ α 6 b = α 5 a
def samB (α : Al) (a b : Nat) : Prop := ∀ D, D < 2 ^ α 0 0 → humN α a D = humN α b D
theorem le_i {a b : Nat} (h : nI a ≤ nI b) (ha : a < 2 ^ 31) (hb : b < 2 ^ 31) : a ≤ b := (nI_leI ha hb).mp h
theorem nle_i {a b : Nat} (h : ¬ nI a ≤ nI b) (ha : a < 2 ^ 31) (hb : b < 2 ^ 31) : b < a := Nat.not_le.mp fun q => h ((nI_leI ha hb).mpr q)
theorem c_dreamHeard {b : Nat} {μ : Mem} {α : Al} (hb : IsCo b) (hA : Abs (kac μ b) α) (hv : Val α) {x d : Int32} {c D : Nat} (hx : x = nI c) (hc : c < α 0 7) (hd : d = nI D) (hD : D < 2 ^ α 0 0) :
    Ct yX2_dreamHeard cX2_dreamHeard 3 (some .int) 3 [vR b, vI x, vI d] μ (some (vI (nI (heaN α c D)))) μ := by
  refine Ct.go RX2 rfl pn_X2 (Nat.le_of_ble_eq_true rfl) (fun C hG hR => ?_)
  have hC := hv.C
  have hk := hv.c hc
  have hr : vp_in x 5 := in_nI hx (by omega) (by decide)
  have e1 : μ (b + 4) x.toNatClampNeg = nI (α 4 c) := by rw [nI_cl hx (by omega)]; exact hA.2.2 4 c (by decide) (by decide) hc
  refine V_aload_n (pc := 0) hG (dk dd_X2_dreamHeard 0 rfl) rfl ?_
  refine V_aload_n (pc := 1) hG (dk dd_X2_dreamHeard 1 rfl) rfl ?_
  refine V_aload_n (pc := 2) hG (dk dd_X2_dreamHeard 2 rfl) rfl ?_
  refine V_getR (pc := 3) hG (dk dd_X2_dreamHeard 3 rfl) fl_X2_21 hb.s0 rfl ?_
  refine V_iload_n (pc := 6) hG (dk dd_X2_dreamHeard 4 rfl) rfl ?_
  refine V_iald (pc := 7) hG (dk dd_X2_dreamHeard 5 rfl) hb.s4 hr ?_
  refine V_iload_n (pc := 8) hG (dk dd_X2_dreamHeard 6 rfl) rfl ?_
  refine V_callVi (pc := 9) hG (dk dd_X2_dreamHeard 7 rfl) ml_X2_82 mo_X2_by hb.s0 rfl (c_by hb hA hv e1 hk.1 hd hD) (by decide) (by decide) rfl rfl rfl ?_
  refine V_callVi (pc := 12) hG (dk dd_X2_dreamHeard 8 rfl) ml_X2_89 mo_X2_worn hb.s0 rfl (c_worn hb hA hv rfl (humN_lt hv hk.1 hD)) (by decide) (by decide) rfl rfl rfl ?_
  refine V_iret (pc := 15) hG (dk dd_X2_dreamHeard 9 rfl) ?_
  rotate_left
  -- leaves: return@15
  · exact hR
theorem c_casesThatAre {b : Nat} {μ : Mem} {α : Al} (hb : IsCo b) (hA : Abs (kac μ b) α) (hC : α 0 7 ≤ 5) (h4 : ∀ c, c < α 0 7 → α 7 c < 4) {x : Int32} {w : Nat} (hx : x = nI w) (hw : w < 4) :
    Ct yX2_casesThatAre cX2_casesThatAre 4 (some .int) 0 [vR b, vI x] μ (some (vI (nI (thoN α w (α 0 7))))) μ := by
  refine Ct.go RX2 rfl pn_X2 (Nat.le_of_ble_eq_true rfl) (fun C hG hR => ?_)
  have e7 : μ b 7 = nI (α 0 7) := hA.1 7 (by decide)
  subst hx
  have loop : ∀ k n, n + k = α 0 7 → V C 4 [(0, vR b), (1, vI (nI w)), (2, vI (nI (thoN α w n))), (3, vI (nI n))] [] μ := by
    intro k
    induction k with
    | zero =>
      intro n hn
      refine V_iload_n (pc := 4) hG (dk dd_X2_casesThatAre 4 rfl) rfl ?_
      refine V_aload_n (pc := 5) hG (dk dd_X2_casesThatAre 5 rfl) rfl ?_
      refine V_getI (pc := 6) hG (dk dd_X2_casesThatAre 6 rfl) fl_X2_55 hb.s0 rfl ?_
      refine V_icmp_ge (pc := 9) hG (dk dd_X2_casesThatAre 7 rfl) (tgt := 38) (by decide) (fun h9 => ?_) (fun h9 => ?_)
      refine V_iload_n (pc := 38) hG (dk dd_X2_casesThatAre 24 rfl) rfl ?_
      refine V_iret (pc := 39) hG (dk dd_X2_casesThatAre 25 rfl) ?_
      rotate_left
      rotate_left
      -- leaves: return@39; stop 12
      · rw [show α 0 7 = n by omega] at hR; exact hR
      · exfalso; rw [e7] at h9; have := nle_i h9 (by omega) (by omega); omega
    | succ k ih =>
      intro n hn
      have hr : vp_in (nI n) 5 := vp_in_nI (by omega) (by decide)
      have e : μ (b + 7) (nI n).toNatClampNeg = nI (α 7 n) := by rw [nI_clamp (by omega)]; exact hA.2.2 7 n (by decide) (by decide) (by omega)
      have hlt : thoN α w n < 256 := Nat.lt_of_lt_of_le (thoN_lt α w n) (pow8 (by omega))
      have h4n := h4 n (by omega)
      have hI := ih (n + 1) (by omega)
      rw [thoN_s, nI_succ] at hI
      refine V_iload_n (pc := 4) hG (dk dd_X2_casesThatAre 4 rfl) rfl ?_
      refine V_aload_n (pc := 5) hG (dk dd_X2_casesThatAre 5 rfl) rfl ?_
      refine V_getI (pc := 6) hG (dk dd_X2_casesThatAre 6 rfl) fl_X2_55 hb.s0 rfl ?_
      refine V_icmp_ge (pc := 9) hG (dk dd_X2_casesThatAre 7 rfl) (tgt := 38) (by decide) (fun h9 => ?_) (fun h9 => ?_)
      refine V_iload_n (pc := 38) hG (dk dd_X2_casesThatAre 24 rfl) rfl ?_
      refine V_iret (pc := 39) hG (dk dd_X2_casesThatAre 25 rfl) ?_
      rotate_left
      refine V_iload_n (pc := 12) hG (dk dd_X2_casesThatAre 8 rfl) rfl ?_
      refine V_aload_n (pc := 13) hG (dk dd_X2_casesThatAre 9 rfl) rfl ?_
      refine V_getR (pc := 14) hG (dk dd_X2_casesThatAre 10 rfl) fl_X2_30 hb.s0 rfl ?_
      refine V_iload_n (pc := 17) hG (dk dd_X2_casesThatAre 11 rfl) rfl ?_
      refine V_iald (pc := 18) hG (dk dd_X2_casesThatAre 12 rfl) hb.s7 hr ?_
      refine V_iload_n (pc := 19) hG (dk dd_X2_casesThatAre 13 rfl) rfl ?_
      refine V_icmp_ne (pc := 20) hG (dk dd_X2_casesThatAre 14 rfl) (tgt := 29) (by decide) (fun h20 => ?_) (fun h20 => ?_)
      refine V_iconst (pc := 29) hG (dk dd_X2_casesThatAre 19 rfl) (v := 0) (by decide) ?_
      refine V_ior (pc := 30) hG (dk dd_X2_casesThatAre 20 rfl) ?_
      refine V_istore_n (pc := 31) hG (dk dd_X2_casesThatAre 21 rfl) (by decide) (lv' := [(0, _), (1, _), (2, _), (3, _)]) rfl ?_
      refine V_iinc (pc := 32) hG (dk dd_X2_casesThatAre 22 rfl) rfl (v := _ + 1) rfl (by decide) (lv' := [(0, _), (1, _), (2, _), (3, _)]) rfl ?_
      refine V_goto (pc := 35) hG (dk dd_X2_casesThatAre 23 rfl) (tgt := 4) (by decide) ?_
      rotate_left
      refine V_iconst (pc := 23) hG (dk dd_X2_casesThatAre 15 rfl) (v := 1) (by decide) ?_
      refine V_iload_n (pc := 24) hG (dk dd_X2_casesThatAre 16 rfl) rfl ?_
      refine V_ishl (pc := 25) hG (dk dd_X2_casesThatAre 17 rfl) ?_
      refine V_goto (pc := 26) hG (dk dd_X2_casesThatAre 18 rfl) (tgt := 30) (by decide) ?_
      refine V_ior (pc := 30) hG (dk dd_X2_casesThatAre 20 rfl) ?_
      refine V_istore_n (pc := 31) hG (dk dd_X2_casesThatAre 21 rfl) (by decide) (lv' := [(0, _), (1, _), (2, _), (3, _)]) rfl ?_
      refine V_iinc (pc := 32) hG (dk dd_X2_casesThatAre 22 rfl) rfl (v := _ + 1) rfl (by decide) (lv' := [(0, _), (1, _), (2, _), (3, _)]) rfl ?_
      refine V_goto (pc := 35) hG (dk dd_X2_casesThatAre 23 rfl) (tgt := 4) (by decide) ?_
      rotate_left
      -- leaves: return@39; stop 4; stop 4
      · exfalso; rw [e7] at h9; have := le_i h9 (by omega) (by omega); omega
      · rw [e] at h20
        rw [if_neg (fun q => h20 (by rw [q])), Nat.or_zero] at hI
        rw [Int32.or_zero]
        exact hI
      · rw [e] at h20
        rw [if_pos ((nI_eq (by omega) (by omega)).mp h20), ← q_or _ hlt _ (by omega)] at hI
        exact hI
  refine V_iconst (pc := 0) hG (dk dd_X2_casesThatAre 0 rfl) (v := 0) (by decide) ?_
  refine V_istore_n (pc := 1) hG (dk dd_X2_casesThatAre 1 rfl) (by decide) (lv' := [(0, _), (1, _), (2, _)]) rfl ?_
  refine V_iconst (pc := 2) hG (dk dd_X2_casesThatAre 2 rfl) (v := 0) (by decide) ?_
  refine V_istore_n (pc := 3) hG (dk dd_X2_casesThatAre 3 rfl) (by decide) (lv' := [(0, _), (1, _), (2, _), (3, _)]) rfl ?_
  rotate_left
  -- leaves: stop 4
  · exact loop (α 0 7) 0 (by omega)
theorem c_deafHums {b : Nat} {μ : Mem} {α : Al} (hb : IsCo b) (hA : Abs (kac μ b) α) (hv : Val α) :
    Ct yX2_deafHums cX2_deafHums 3 (some .int) 3 [vR b] μ (some (vI (nI (deaN α (α 0 3) (α 0 6))))) μ := by
  refine Ct.go RX2 rfl pn_X2 (Nat.le_of_ble_eq_true rfl) (fun C hG hR => ?_)
  have e6 : μ b 6 = nI (α 0 6) := hA.1 6 (by decide)
  have e3 : μ b 3 = nI (α 0 3) := hA.1 3 (by decide)
  have hH := hv.H
  have loop : ∀ k n, n + k = α 0 6 → V C 4 [(0, vR b), (1, vI (nI (deaN α (α 0 3) n))), (2, vI (nI n))] [] μ := by
    intro k
    induction k with
    | zero =>
      intro n hn
      refine V_iload_n (pc := 4) hG (dk dd_X2_deafHums 4 rfl) rfl ?_
      refine V_aload_n (pc := 5) hG (dk dd_X2_deafHums 5 rfl) rfl ?_
      refine V_getI (pc := 6) hG (dk dd_X2_deafHums 6 rfl) fl_X2_52 hb.s0 rfl ?_
      refine V_icmp_ge (pc := 9) hG (dk dd_X2_deafHums 7 rfl) (tgt := 44) (by decide) (fun h9 => ?_) (fun h9 => ?_)
      refine V_iload_n (pc := 44) hG (dk dd_X2_deafHums 26 rfl) rfl ?_
      refine V_iret (pc := 45) hG (dk dd_X2_deafHums 27 rfl) ?_
      rotate_left
      rotate_left
      -- leaves: return@45; stop 12
      · rw [show α 0 6 = n by omega] at hR; exact hR
      · exfalso; rw [e6] at h9; have := nle_i h9 (by omega) (by omega); omega
    | succ k ih =>
      intro n hn
      have hn6 : n < α 0 6 := by omega
      have hlt : deaN α (α 0 3) n < 256 := Nat.lt_of_lt_of_le (deaN_lt α _ n) (pow8 (by omega))
      have hI := ih (n + 1) (by omega)
      rw [deaN_s, nI_succ] at hI
      have hb1 := hv.lt (humN_lt hv hn6 hv.D)
      have hb2 := hv.lt hv.D
      refine V_iload_n (pc := 4) hG (dk dd_X2_deafHums 4 rfl) rfl ?_
      refine V_aload_n (pc := 5) hG (dk dd_X2_deafHums 5 rfl) rfl ?_
      refine V_getI (pc := 6) hG (dk dd_X2_deafHums 6 rfl) fl_X2_52 hb.s0 rfl ?_
      refine V_icmp_ge (pc := 9) hG (dk dd_X2_deafHums 7 rfl) (tgt := 44) (by decide) (fun h9 => ?_) (fun h9 => ?_)
      refine V_iload_n (pc := 44) hG (dk dd_X2_deafHums 26 rfl) rfl ?_
      refine V_iret (pc := 45) hG (dk dd_X2_deafHums 27 rfl) ?_
      rotate_left
      refine V_iload_n (pc := 12) hG (dk dd_X2_deafHums 8 rfl) rfl ?_
      refine V_aload_n (pc := 13) hG (dk dd_X2_deafHums 9 rfl) rfl ?_
      refine V_iload_n (pc := 14) hG (dk dd_X2_deafHums 10 rfl) rfl ?_
      refine V_aload_n (pc := 15) hG (dk dd_X2_deafHums 11 rfl) rfl ?_
      refine V_getI (pc := 16) hG (dk dd_X2_deafHums 12 rfl) fl_X2_43 hb.s0 rfl ?_
      refine V_callVi (pc := 19) hG (dk dd_X2_deafHums 13 rfl) ml_X2_82 mo_X2_by hb.s0 rfl (c_by hb hA hv rfl hn6 e3 hv.D) (by decide) (by decide) rfl rfl rfl ?_
      refine V_aload_n (pc := 22) hG (dk dd_X2_deafHums 14 rfl) rfl ?_
      refine V_getI (pc := 23) hG (dk dd_X2_deafHums 15 rfl) fl_X2_43 hb.s0 rfl ?_
      refine V_icmp_ne (pc := 26) hG (dk dd_X2_deafHums 16 rfl) (tgt := 35) (by decide) (fun h26 => ?_) (fun h26 => ?_)
      refine V_iconst (pc := 35) hG (dk dd_X2_deafHums 21 rfl) (v := 0) (by decide) ?_
      refine V_ior (pc := 36) hG (dk dd_X2_deafHums 22 rfl) ?_
      refine V_istore_n (pc := 37) hG (dk dd_X2_deafHums 23 rfl) (by decide) (lv' := [(0, _), (1, _), (2, _)]) rfl ?_
      refine V_iinc (pc := 38) hG (dk dd_X2_deafHums 24 rfl) rfl (v := _ + 1) rfl (by decide) (lv' := [(0, _), (1, _), (2, _)]) rfl ?_
      refine V_goto (pc := 41) hG (dk dd_X2_deafHums 25 rfl) (tgt := 4) (by decide) ?_
      rotate_left
      refine V_iconst (pc := 29) hG (dk dd_X2_deafHums 17 rfl) (v := 1) (by decide) ?_
      refine V_iload_n (pc := 30) hG (dk dd_X2_deafHums 18 rfl) rfl ?_
      refine V_ishl (pc := 31) hG (dk dd_X2_deafHums 19 rfl) ?_
      refine V_goto (pc := 32) hG (dk dd_X2_deafHums 20 rfl) (tgt := 36) (by decide) ?_
      refine V_ior (pc := 36) hG (dk dd_X2_deafHums 22 rfl) ?_
      refine V_istore_n (pc := 37) hG (dk dd_X2_deafHums 23 rfl) (by decide) (lv' := [(0, _), (1, _), (2, _)]) rfl ?_
      refine V_iinc (pc := 38) hG (dk dd_X2_deafHums 24 rfl) rfl (v := _ + 1) rfl (by decide) (lv' := [(0, _), (1, _), (2, _)]) rfl ?_
      refine V_goto (pc := 41) hG (dk dd_X2_deafHums 25 rfl) (tgt := 4) (by decide) ?_
      rotate_left
      -- leaves: return@45; stop 4; stop 4
      · exfalso; rw [e6] at h9; have := le_i h9 (by omega) (by omega); omega
      · rw [e3] at h26
        rw [if_neg (fun q => h26 (by rw [q])), Nat.or_zero] at hI
        rw [Int32.or_zero]
        exact hI
      · rw [e3] at h26
        rw [if_pos ((nI_eq (by omega) (by omega)).mp h26), ← q_or _ hlt _ (by omega)] at hI
        exact hI
  refine V_iconst (pc := 0) hG (dk dd_X2_deafHums 0 rfl) (v := 0) (by decide) ?_
  refine V_istore_n (pc := 1) hG (dk dd_X2_deafHums 1 rfl) (by decide) (lv' := [(0, _), (1, _)]) rfl ?_
  refine V_iconst (pc := 2) hG (dk dd_X2_deafHums 2 rfl) (v := 0) (by decide) ?_
  refine V_istore_n (pc := 3) hG (dk dd_X2_deafHums 3 rfl) (by decide) (lv' := [(0, _), (1, _), (2, _)]) rfl ?_
  rotate_left
  -- leaves: stop 4
  · exact loop (α 0 6) 0 (by omega)
/-- 1 or 0 -/
def is1 (x : Int32) (P : Prop) : Prop := (x = 1 ∧ P) ∨ (x = 0 ∧ ¬ P)
theorem is1.t {P : Prop} (h : P) : is1 1 P := Or.inl ⟨rfl, h⟩
theorem is1.f {P : Prop} (h : ¬ P) : is1 0 P := Or.inr ⟨rfl, h⟩
theorem is1.no {x : Int32} {P : Prop} (h : is1 x P) (e : x = 0) : ¬ P := by
  rcases h with ⟨q, _⟩ | ⟨_, q⟩
  · rw [q] at e; exact absurd e (by decide)
  · exact q
theorem is1.yes {x : Int32} {P : Prop} (h : is1 x P) (e : ¬ x = 0) : P := by
  rcases h with ⟨_, q⟩ | ⟨q, _⟩
  · exact q
  · exact absurd q e
theorem is1.bool {x : Int32} {P : Prop} (h : is1 x P) : x = 0 ∨ x = 1 := h.elim (fun q => Or.inr q.1) (fun q => Or.inl q.1)
theorem c_clash {b : Nat} {μ : Mem} {α : Al} (hb : IsCo b) (hA : Abs (kac μ b) α) (hv : Val α) {x y : Int32} {i j : Nat} (hx : x = nI i) (hi : i < α 0 7) (hy : y = nI j) (hj : j < α 0 7) :
    CtP yX2_clash cX2_clash 3 (some .boolean) 0 [vR b, vI x, vI y] μ (Pi (fun r μ' => μ' = μ ∧ is1 r (claB α i j))) := by
  refine CtP.go RX2 rfl pn_X2 (Nat.le_of_ble_eq_true rfl) (fun C hG hR => ?_)
  have hC := hv.C
  have ht := hv.t
  have h1 : vp_in x 5 := in_nI hx (by omega) (by decide)
  have h2 : vp_in y 5 := in_nI hy (by omega) (by decide)
  have c1 : x.toNatClampNeg = i := nI_cl hx (by omega)
  have c2 : y.toNatClampNeg = j := nI_cl hy (by omega)
  have e1 : μ (b + 6) x.toNatClampNeg = nI (α 6 i) := by rw [c1]; exact hA.2.2 6 i (by decide) (by decide) hi
  have e2 : μ (b + 5) y.toNatClampNeg = nI (α 5 j) := by rw [c2]; exact hA.2.2 5 j (by decide) (by decide) hj
  have e3 : μ (b + 6) y.toNatClampNeg = nI (α 6 j) := by rw [c2]; exact hA.2.2 6 j (by decide) (by decide) hj
  have e4 : μ (b + 5) x.toNatClampNeg = nI (α 5 i) := by rw [c1]; exact hA.2.2 5 i (by decide) (by decide) hi
  have k1 := hv.c hi
  have k2 := hv.c hj
  have l1 := k1.2.1; have l2 := k1.2.2.1; have l3 := k2.2.1; have l4 := k2.2.2.1
  refine V_aload_n (pc := 0) hG (dk dd_X2_clash 0 rfl) rfl ?_
  refine V_getR (pc := 1) hG (dk dd_X2_clash 1 rfl) fl_X2_27 hb.s0 rfl ?_
  refine V_iload_n (pc := 4) hG (dk dd_X2_clash 2 rfl) rfl ?_
  refine V_iald (pc := 5) hG (dk dd_X2_clash 3 rfl) hb.s6 h1 ?_
  refine V_aload_n (pc := 6) hG (dk dd_X2_clash 4 rfl) rfl ?_
  refine V_getR (pc := 7) hG (dk dd_X2_clash 5 rfl) fl_X2_24 hb.s0 rfl ?_
  refine V_iload_n (pc := 10) hG (dk dd_X2_clash 6 rfl) rfl ?_
  refine V_iald (pc := 11) hG (dk dd_X2_clash 7 rfl) hb.s5 h2 ?_
  refine V_icmp_eq (pc := 12) hG (dk dd_X2_clash 8 rfl) (tgt := 30) (by decide) (fun h12 => ?_) (fun h12 => ?_)
  refine V_iconst (pc := 30) hG (dk dd_X2_clash 18 rfl) (v := 1) (by decide) ?_
  refine V_goto (pc := 31) hG (dk dd_X2_clash 19 rfl) (tgt := 35) (by decide) ?_
  refine V_zretP (pc := 35) hG (dk dd_X2_clash 21 rfl) (by decide) hR (Pi.mk ?_)
  rotate_left
  refine V_aload_n (pc := 15) hG (dk dd_X2_clash 9 rfl) rfl ?_
  refine V_getR (pc := 16) hG (dk dd_X2_clash 10 rfl) fl_X2_27 hb.s0 rfl ?_
  refine V_iload_n (pc := 19) hG (dk dd_X2_clash 11 rfl) rfl ?_
  refine V_iald (pc := 20) hG (dk dd_X2_clash 12 rfl) hb.s6 h2 ?_
  refine V_aload_n (pc := 21) hG (dk dd_X2_clash 13 rfl) rfl ?_
  refine V_getR (pc := 22) hG (dk dd_X2_clash 14 rfl) fl_X2_24 hb.s0 rfl ?_
  refine V_iload_n (pc := 25) hG (dk dd_X2_clash 15 rfl) rfl ?_
  refine V_iald (pc := 26) hG (dk dd_X2_clash 16 rfl) hb.s5 h1 ?_
  refine V_icmp_ne (pc := 27) hG (dk dd_X2_clash 17 rfl) (tgt := 34) (by decide) (fun h27 => ?_) (fun h27 => ?_)
  refine V_iconst (pc := 34) hG (dk dd_X2_clash 20 rfl) (v := 0) (by decide) ?_
  refine V_zretP (pc := 35) hG (dk dd_X2_clash 21 rfl) (by decide) hR (Pi.mk ?_)
  rotate_left
  refine V_iconst (pc := 30) hG (dk dd_X2_clash 18 rfl) (v := 1) (by decide) ?_
  refine V_goto (pc := 31) hG (dk dd_X2_clash 19 rfl) (tgt := 35) (by decide) ?_
  refine V_zretP (pc := 35) hG (dk dd_X2_clash 21 rfl) (by decide) hR (Pi.mk ?_)
  rotate_left
  -- leaves: return@35; return@35; return@35
  · rw [e1, e2] at h12
    exact ⟨rfl, is1.t (Or.inl ((nI_eq (by omega) (by omega)).mp h12))⟩
  · rw [e1, e2] at h12; rw [e3, e4] at h27
    exact ⟨rfl, is1.f (fun q => q.elim (fun z => h12 (by rw [z])) (fun z => h27 (by rw [z])))⟩
  · rw [e3, e4] at h27
    exact ⟨rfl, is1.t (Or.inr ((nI_eq (by omega) (by omega)).mp h27))⟩
theorem c_doTheSame {b : Nat} {μ : Mem} {α : Al} (hb : IsCo b) (hA : Abs (kac μ b) α) (hv : Val α) {x y : Int32} {i j : Nat} (hx : x = nI i) (hi : i < α 0 6) (hy : y = nI j) (hj : j < α 0 6) :
    CtP yX2_doTheSame cX2_doTheSame 4 (some .boolean) 3 [vR b, vI x, vI y] μ (Pi (fun r μ' => μ' = μ ∧ is1 r (samB α i j))) := by
  refine CtP.go RX2 rfl pn_X2 (Nat.le_of_ble_eq_true rfl) (fun C hG hR => ?_)
  have e0 : bI (μ b 0) = nI (2 ^ α 0 0) := by rw [show μ b 0 = nI (α 0 0) from hA.1 0 (by decide)]; exact q_pow _ (by have := hv.t; omega)
  have hp := pow8 hv.t
  have loop : ∀ k n, n + k = 2 ^ α 0 0 → (∀ D, D < n → humN α i D = humN α j D) → V C 2 [(0, vR b), (1, vI x), (2, vI y), (3, vI (nI n))] [] μ := by
    intro k
    induction k with
    | zero =>
      intro n hn hs
      refine V_iload_n (pc := 2) hG (dk dd_X2_doTheSame 2 rfl) rfl ?_
      refine V_aload_n (pc := 3) hG (dk dd_X2_doTheSame 3 rfl) rfl ?_
      refine V_callVi (pc := 4) hG (dk dd_X2_doTheSame 4 rfl) ml_X2_70 mo_X2_dreamCount hb.s0 rfl (c_dreamCount hb) (by decide) (by decide) rfl rfl rfl ?_
      refine V_icmp_ge (pc := 7) hG (dk dd_X2_doTheSame 5 rfl) (tgt := 33) (by decide) (fun h7 => ?_) (fun h7 => ?_)
      refine V_iconst (pc := 33) hG (dk dd_X2_doTheSame 19 rfl) (v := 1) (by decide) ?_
      refine V_zretP (pc := 34) hG (dk dd_X2_doTheSame 20 rfl) (by decide) hR (Pi.mk ?_)
      rotate_left
      rotate_left
      -- leaves: return@34; stop 10
      · exact ⟨rfl, is1.t (fun D hD => hs D (by omega))⟩
      · exfalso; rw [e0] at h7; have := nle_i h7 (by omega) (by omega); omega
    | succ k ih =>
      intro n hn hs
      have hn2 : n < 2 ^ α 0 0 := by omega
      have hI := fun hq => ih (n + 1) (by omega) hq
      rw [nI_succ] at hI
      have b1 := hv.lt (humN_lt hv hi hn2)
      have b2 := hv.lt (humN_lt hv hj hn2)
      refine V_iload_n (pc := 2) hG (dk dd_X2_doTheSame 2 rfl) rfl ?_
      refine V_aload_n (pc := 3) hG (dk dd_X2_doTheSame 3 rfl) rfl ?_
      refine V_callVi (pc := 4) hG (dk dd_X2_doTheSame 4 rfl) ml_X2_70 mo_X2_dreamCount hb.s0 rfl (c_dreamCount hb) (by decide) (by decide) rfl rfl rfl ?_
      refine V_icmp_ge (pc := 7) hG (dk dd_X2_doTheSame 5 rfl) (tgt := 33) (by decide) (fun h7 => ?_) (fun h7 => ?_)
      refine V_iconst (pc := 33) hG (dk dd_X2_doTheSame 19 rfl) (v := 1) (by decide) ?_
      refine V_zretP (pc := 34) hG (dk dd_X2_doTheSame 20 rfl) (by decide) hR (Pi.mk ?_)
      rotate_left
      refine V_aload_n (pc := 10) hG (dk dd_X2_doTheSame 6 rfl) rfl ?_
      refine V_iload_n (pc := 11) hG (dk dd_X2_doTheSame 7 rfl) rfl ?_
      refine V_iload_n (pc := 12) hG (dk dd_X2_doTheSame 8 rfl) rfl ?_
      refine V_callVi (pc := 13) hG (dk dd_X2_doTheSame 9 rfl) ml_X2_82 mo_X2_by hb.s0 rfl (c_by hb hA hv hx hi rfl hn2) (by decide) (by decide) rfl rfl rfl ?_
      refine V_aload_n (pc := 16) hG (dk dd_X2_doTheSame 10 rfl) rfl ?_
      refine V_iload_n (pc := 17) hG (dk dd_X2_doTheSame 11 rfl) rfl ?_
      refine V_iload_n (pc := 18) hG (dk dd_X2_doTheSame 12 rfl) rfl ?_
      refine V_callVi (pc := 19) hG (dk dd_X2_doTheSame 13 rfl) ml_X2_82 mo_X2_by hb.s0 rfl (c_by hb hA hv hy hj rfl hn2) (by decide) (by decide) rfl rfl rfl ?_
      refine V_icmp_eq (pc := 22) hG (dk dd_X2_doTheSame 14 rfl) (tgt := 27) (by decide) (fun h22 => ?_) (fun h22 => ?_)
      refine V_iinc (pc := 27) hG (dk dd_X2_doTheSame 17 rfl) rfl (v := _ + 1) rfl (by decide) (lv' := [(0, _), (1, _), (2, _), (3, _)]) rfl ?_
      refine V_goto (pc := 30) hG (dk dd_X2_doTheSame 18 rfl) (tgt := 2) (by decide) ?_
      rotate_left
      refine V_iconst (pc := 25) hG (dk dd_X2_doTheSame 15 rfl) (v := 0) (by decide) ?_
      refine V_zretP (pc := 26) hG (dk dd_X2_doTheSame 16 rfl) (by decide) hR (Pi.mk ?_)
      rotate_left
      -- leaves: return@34; stop 2; return@26
      · exfalso; rw [e0] at h7; have := le_i h7 (by omega) (by omega); omega
      · refine hI (fun D hD => ?_)
        rcases Nat.lt_succ_iff_lt_or_eq.mp hD with q | q
        · exact hs D q
        · rw [q]; exact (nI_eq (by omega) (by omega)).mp h22
      · exact ⟨rfl, is1.f (fun q => h22 (by rw [q n hn2]))⟩
  refine V_iconst (pc := 0) hG (dk dd_X2_doTheSame 0 rfl) (v := 0) (by decide) ?_
  refine V_istore_n (pc := 1) hG (dk dd_X2_doTheSame 1 rfl) (by decide) (lv' := [(0, _), (1, _), (2, _), (3, _)]) rfl ?_
  rotate_left
  -- leaves: stop 2
  · exact loop (2 ^ α 0 0) 0 (by omega) (fun D hD => absurd hD (Nat.not_lt_zero D))
def bcF (x : Int32) : Int32 :=
  let us := fun (x y : Int32) => (x.toUInt32 >>> (y.toUInt32 &&& Int32.toUInt32 31)).toInt32
  let a := x - (us x 1 &&& 1431655765)
  let b := (a &&& 858993459) + (us a 2 &&& 858993459)
  let c := (b + us b 4) &&& 252645135
  let d := c + us c 8
  (d + us d 16) &&& 63
theorem bcF_N : ∀ D, D < 256 → bcF (nI D) = nI (bitsN D) := by decide +kernel
theorem c_bitCount {μ : Mem} {x : Int32} : Ct yJ6_bitCount_0f7a4 cJ6_bitCount_0f7a4 1 (some .int) 0 [vI x] μ (some (vI (bcF x))) μ := by
  refine Ct.go RJ6 rfl pn_J6 (Nat.le_of_ble_eq_true rfl) (fun C hG hR => ?_)
  refine V_iload_n (pc := 0) hG (dk dd_J6_bitCount_0f7a4 0 rfl) rfl ?_
  refine V_iload_n (pc := 1) hG (dk dd_J6_bitCount_0f7a4 1 rfl) rfl ?_
  refine V_iconst (pc := 2) hG (dk dd_J6_bitCount_0f7a4 2 rfl) (v := 1) (by decide) ?_
  refine V_iushr (pc := 3) hG (dk dd_J6_bitCount_0f7a4 3 rfl) ?_
  refine V_ldc_w (pc := 4) hG (dk dd_J6_bitCount_0f7a4 4 rfl) kk_J6_265 ?_
  refine V_iand (pc := 7) hG (dk dd_J6_bitCount_0f7a4 5 rfl) ?_
  refine V_isub (pc := 8) hG (dk dd_J6_bitCount_0f7a4 6 rfl) ?_
  refine V_istore_n (pc := 9) hG (dk dd_J6_bitCount_0f7a4 7 rfl) (by decide) (lv' := [(0, _)]) rfl ?_
  refine V_iload_n (pc := 10) hG (dk dd_J6_bitCount_0f7a4 8 rfl) rfl ?_
  refine V_ldc_w (pc := 11) hG (dk dd_J6_bitCount_0f7a4 9 rfl) kk_J6_266 ?_
  refine V_iand (pc := 14) hG (dk dd_J6_bitCount_0f7a4 10 rfl) ?_
  refine V_iload_n (pc := 15) hG (dk dd_J6_bitCount_0f7a4 11 rfl) rfl ?_
  refine V_iconst (pc := 16) hG (dk dd_J6_bitCount_0f7a4 12 rfl) (v := 2) (by decide) ?_
  refine V_iushr (pc := 17) hG (dk dd_J6_bitCount_0f7a4 13 rfl) ?_
  refine V_ldc_w (pc := 18) hG (dk dd_J6_bitCount_0f7a4 14 rfl) kk_J6_266 ?_
  refine V_iand (pc := 21) hG (dk dd_J6_bitCount_0f7a4 15 rfl) ?_
  refine V_iadd (pc := 22) hG (dk dd_J6_bitCount_0f7a4 16 rfl) ?_
  refine V_istore_n (pc := 23) hG (dk dd_J6_bitCount_0f7a4 17 rfl) (by decide) (lv' := [(0, _)]) rfl ?_
  refine V_iload_n (pc := 24) hG (dk dd_J6_bitCount_0f7a4 18 rfl) rfl ?_
  refine V_iload_n (pc := 25) hG (dk dd_J6_bitCount_0f7a4 19 rfl) rfl ?_
  refine V_iconst (pc := 26) hG (dk dd_J6_bitCount_0f7a4 20 rfl) (v := 4) (by decide) ?_
  refine V_iushr (pc := 27) hG (dk dd_J6_bitCount_0f7a4 21 rfl) ?_
  refine V_iadd (pc := 28) hG (dk dd_J6_bitCount_0f7a4 22 rfl) ?_
  refine V_ldc_w (pc := 29) hG (dk dd_J6_bitCount_0f7a4 23 rfl) kk_J6_267 ?_
  refine V_iand (pc := 32) hG (dk dd_J6_bitCount_0f7a4 24 rfl) ?_
  refine V_istore_n (pc := 33) hG (dk dd_J6_bitCount_0f7a4 25 rfl) (by decide) (lv' := [(0, _)]) rfl ?_
  refine V_iload_n (pc := 34) hG (dk dd_J6_bitCount_0f7a4 26 rfl) rfl ?_
  refine V_iload_n (pc := 35) hG (dk dd_J6_bitCount_0f7a4 27 rfl) rfl ?_
  refine V_bipush (pc := 36) hG (dk dd_J6_bitCount_0f7a4 28 rfl) (v := 8) (by decide) ?_
  refine V_iushr (pc := 38) hG (dk dd_J6_bitCount_0f7a4 29 rfl) ?_
  refine V_iadd (pc := 39) hG (dk dd_J6_bitCount_0f7a4 30 rfl) ?_
  refine V_istore_n (pc := 40) hG (dk dd_J6_bitCount_0f7a4 31 rfl) (by decide) (lv' := [(0, _)]) rfl ?_
  refine V_iload_n (pc := 41) hG (dk dd_J6_bitCount_0f7a4 32 rfl) rfl ?_
  refine V_iload_n (pc := 42) hG (dk dd_J6_bitCount_0f7a4 33 rfl) rfl ?_
  refine V_bipush (pc := 43) hG (dk dd_J6_bitCount_0f7a4 34 rfl) (v := 16) (by decide) ?_
  refine V_iushr (pc := 45) hG (dk dd_J6_bitCount_0f7a4 35 rfl) ?_
  refine V_iadd (pc := 46) hG (dk dd_J6_bitCount_0f7a4 36 rfl) ?_
  refine V_istore_n (pc := 47) hG (dk dd_J6_bitCount_0f7a4 37 rfl) (by decide) (lv' := [(0, _)]) rfl ?_
  refine V_iload_n (pc := 48) hG (dk dd_J6_bitCount_0f7a4 38 rfl) rfl ?_
  refine V_bipush (pc := 49) hG (dk dd_J6_bitCount_0f7a4 39 rfl) (v := 63) (by decide) ?_
  refine V_iand (pc := 51) hG (dk dd_J6_bitCount_0f7a4 40 rfl) ?_
  refine V_iret (pc := 52) hG (dk dd_J6_bitCount_0f7a4 41 rfl) ?_
  rotate_left
  -- leaves: return@52
  · exact hR
theorem c_bits {μ : Mem} {x : Int32} {D : Nat} (hx : x = nI D) (hD : D < 256) : Ct yJ6_bitCount_0f7a4 cJ6_bitCount_0f7a4 1 (some .int) 0 [vI x] μ (some (vI (nI (bitsN D)))) μ := by
  rw [← bcF_N D hD, ← hx]; exact c_bitCount
theorem c_fill {μ : Mem} {a n : Nat} {v : Int32} (ha : Sh[a]? = some (.inr (0, n, []))) (hn : n < 2 ^ 31) : CtP yJ7_fill_53178 cJ7_fill_53178 4 none 0 [vR a, vI v] μ (Pv (fun μ' => ∃ f, μ' = setc μ a f ∧ ∀ i, i < n → f i = v)) := by
  refine CtP.go RJ7 rfl pn_J7 (Nat.le_of_ble_eq_true rfl) (fun C hG hR => ?_)
  have loop : ∀ k i f, i + k = n → (∀ q, q < i → f q = v) → V C 5 [(0, vR a), (1, vI v), (2, vI (nI i)), (3, vI (nI n))] [] (setc μ a f) := by
    intro k
    induction k with
    | zero =>
      intro i f hi hf
      refine V_iload_n (pc := 5) hG (dk dd_J7_fill_53178 5 rfl) rfl ?_
      refine V_iload_n (pc := 6) hG (dk dd_J7_fill_53178 6 rfl) rfl ?_
      refine V_icmp_ge (pc := 7) hG (dk dd_J7_fill_53178 7 rfl) (tgt := 20) (by decide) (fun h7 => ?_) (fun h7 => ?_)
      refine V_vretP (pc := 20) hG (dk dd_J7_fill_53178 14 rfl) hR (Pv.mk ?_)
      rotate_left
      rotate_left
      -- leaves: return@20; stop 10
      · exact ⟨f, rfl, fun q hq => hf q (by omega)⟩
      · exfalso; have := nle_i h7 (by omega) (by omega); omega
    | succ k ih =>
      intro i f hi hf
      have hr : vp_in (nI i) n := vp_in_nI (by omega) hn
      have hI := ih (i + 1) (upd f i v) (by omega) (fun q hq => by
        by_cases e : q = i
        · rw [e, pk_us]
        · rw [pk_un e]; exact hf q (by omega))
      rw [nI_succ] at hI
      refine V_iload_n (pc := 5) hG (dk dd_J7_fill_53178 5 rfl) rfl ?_
      refine V_iload_n (pc := 6) hG (dk dd_J7_fill_53178 6 rfl) rfl ?_
      refine V_icmp_ge (pc := 7) hG (dk dd_J7_fill_53178 7 rfl) (tgt := 20) (by decide) (fun h7 => ?_) (fun h7 => ?_)
      refine V_vretP (pc := 20) hG (dk dd_J7_fill_53178 14 rfl) hR (Pv.mk ?_)
      rotate_left
      refine V_aload_n (pc := 10) hG (dk dd_J7_fill_53178 8 rfl) rfl ?_
      refine V_iload_n (pc := 11) hG (dk dd_J7_fill_53178 9 rfl) rfl ?_
      refine V_iload_n (pc := 12) hG (dk dd_J7_fill_53178 10 rfl) rfl ?_
      refine V_iast (pc := 13) hG (dk dd_J7_fill_53178 11 rfl) ha hr ?_
      refine V_iinc (pc := 14) hG (dk dd_J7_fill_53178 12 rfl) rfl (v := _ + 1) rfl (by decide) (lv' := [(0, _), (1, _), (2, _), (3, _)]) rfl ?_
      refine V_goto (pc := 17) hG (dk dd_J7_fill_53178 13 rfl) (tgt := 5) (by decide) ?_
      rotate_left
      -- leaves: return@20; stop 5
      · exfalso; have := le_i h7 (by omega) (by omega); omega
      · rw [setc_s, nI_clamp (show i < 2 ^ 31 by omega), setc_c]; exact hI
  refine V_iconst (pc := 0) hG (dk dd_J7_fill_53178 0 rfl) (v := 0) (by decide) ?_
  refine V_istore_n (pc := 1) hG (dk dd_J7_fill_53178 1 rfl) (by decide) (lv' := [(0, _), (1, _), (2, _)]) rfl ?_
  refine V_aload_n (pc := 2) hG (dk dd_J7_fill_53178 2 rfl) rfl ?_
  refine V_alen (pc := 3) hG (dk dd_J7_fill_53178 3 rfl) ha (by decide) rfl ?_
  refine V_istore_n (pc := 4) hG (dk dd_J7_fill_53178 4 rfl) (by decide) (lv' := [(0, _), (1, _), (2, _), (3, _)]) rfl ?_
  rotate_left
  -- leaves: stop 5
  · have := loop n 0 (μ a) (by omega) (fun q hq => absurd hq (Nat.not_lt_zero q))
    rw [setc_id] at this
    exact this
end
section
/-! ===== pairs; powers; a case heard in a draft; terms ===== -/
noncomputable def p1 (P : Prop) : Nat := @ite Nat P (Classical.propDecidable P) 1 0
theorem p1_t {P : Prop} (h : P) : p1 P = 1 := by unfold p1; exact if_pos h
theorem p1_f {P : Prop} (h : ¬ P) : p1 P = 0 := by unfold p1; exact if_neg h
theorem p1_le (P : Prop) : p1 P ≤ 1 := by unfold p1; split <;> decide
def sumT (f : Nat → Nat) : Nat → Nat
  | 0 => 0
  | n + 1 => sumT f n + f n
theorem sumT_s (f : Nat → Nat) (n : Nat) : sumT f (n + 1) = sumT f n + f n := rfl
theorem sumT_le {f : Nat → Nat} {c : Nat} (h : ∀ i, f i ≤ c) : ∀ n, sumT f n ≤ n * c
  | 0 => Nat.zero_le _
  | n + 1 => by rw [sumT_s, Nat.succ_mul]; exact Nat.add_le_add (sumT_le h n) (h n)
theorem sumT_0 {f : Nat → Nat} : ∀ {n : Nat}, (∀ i, i < n → f i = 0) → sumT f n = 0
  | 0, _ => rfl
  | n + 1, h => by rw [sumT_s, sumT_0 (fun i hi => h i (by omega)), h n (Nat.lt_succ_self n)]
noncomputable def g2 (P : Nat → Nat → Prop) (i j : Nat) : Nat := p1 (i < j ∧ P i j)
noncomputable def cnt2 (P : Nat → Nat → Prop) (N n : Nat) : Nat := sumT (fun i => sumT (g2 P i) N) n
def IsF (P : Nat → Nat → Prop) (N : Nat) (r : Int32) : Prop := (∃ i j, i < j ∧ j < N ∧ P i j ∧ r = nI (10 * i + j) ∧ ∀ i' j', i' < j' → j' < N → P i' j' → i < i' ∨ (i = i' ∧ j ≤ j')) ∨ ((∀ i j, i < j → j < N → ¬ P i j) ∧ r = -1000000)
theorem IsF.uniq {P : Nat → Nat → Prop} {N : Nat} {r r' : Int32} (h : IsF P N r) (h' : IsF P N r') : r = r' := by
  rcases h with ⟨i, j, a1, a2, a3, a4, a5⟩ | ⟨a1, a2⟩ <;> rcases h' with ⟨i', j', b1, b2, b3, b4, b5⟩ | ⟨b1, b2⟩
  · have h1 := a5 i' j' b1 b2 b3
    have h2 := b5 i j a1 a2 a3
    rw [a4, b4, show i = i' by omega, show j = j' by omega]
  · exact absurd a3 (b1 i j a1 a2)
  · exact absurd b3 (a1 i' j' b1 b2)
  · rw [a2, b2]
theorem g2_le (P : Nat → Nat → Prop) (i j : Nat) : g2 P i j ≤ 1 := p1_le _
theorem cnt2_le (P : Nat → Nat → Prop) (N n : Nat) : cnt2 P N n ≤ n * N := sumT_le (fun i => by have := sumT_le (g2_le P i) N; omega) n
theorem c_pairs {b : Nat} {μ : Mem} {α : Al} (hb : IsCo b) (hA : Abs (kac μ b) α) (hv : Val α) {z w : Int32} {N : Nat} {P : Nat → Nat → Prop} (hz : (z = 1 ∧ N = α 0 6 ∧ P = samB α) ∨ (z = 0 ∧ N = α 0 7 ∧ P = claB α)) (hw : w = 0 ∨ w = 1) :
    CtP yX2_pairs cX2_pairs 7 (some .int) 4 [vR b, vI z, vI w] μ (Pi (fun r μ' => μ' = μ ∧ (w = 0 → r = nI (cnt2 P N N)) ∧ (w = 1 → IsF P N r))) := by
  refine CtP.go RX2 rfl pn_X2 (Nat.le_of_ble_eq_true rfl) (fun C hG hR => ?_)
  have e6 : μ b 6 = nI (α 0 6) := hA.1 6 (by decide)
  have e7 : μ b 7 = nI (α 0 7) := hA.1 7 (by decide)
  have hH := hv.H
  have hC := hv.C
  have hN : N ≤ 6 := by rcases hz with q | q <;> omega
  have loop : ∀ ko i, i + ko = N → (w = 1 → ∀ i' j', i' < j' → j' < N → P i' j' → i ≤ i') → V C 22 [(0, vR b), (1, vI z), (2, vI w), (3, vI (nI N)), (4, vI (nI (cnt2 P N i))), (5, vI (nI i))] [] μ := by
    intro ko
    induction ko with
    | zero =>
      intro i hi hno
      refine V_iload (pc := 22) hG (dk dd_X2_pairs 12 rfl) rfl ?_
      refine V_iload_n (pc := 24) hG (dk dd_X2_pairs 13 rfl) rfl ?_
      refine V_icmp_ge (pc := 25) hG (dk dd_X2_pairs 14 rfl) (tgt := 98) (by decide) (fun h25 => ?_) (fun h25 => ?_)
      refine V_iload_n (pc := 98) hG (dk dd_X2_pairs 49 rfl) rfl ?_
      refine V_iconst (pc := 99) hG (dk dd_X2_pairs 50 rfl) (v := 1) (by decide) ?_
      refine V_icmp_ne (pc := 100) hG (dk dd_X2_pairs 51 rfl) (tgt := 108) (by decide) (fun h100 => ?_) (fun h100 => ?_)
      refine V_iload (pc := 108) hG (dk dd_X2_pairs 54 rfl) rfl ?_
      refine V_iretP (pc := 110) hG (dk dd_X2_pairs 55 rfl) hR (Pi.mk ?_)
      rotate_left
      refine V_ldc (pc := 103) hG (dk dd_X2_pairs 52 rfl) kk_X2_99 ?_
      refine V_goto (pc := 105) hG (dk dd_X2_pairs 53 rfl) (tgt := 110) (by decide) ?_
      refine V_iretP (pc := 110) hG (dk dd_X2_pairs 55 rfl) hR (Pi.mk ?_)
      rotate_left
      rotate_left
      -- leaves: return@110; return@110; stop 28
      · exact ⟨rfl, fun _ => by rw [show i = N by omega], fun q => absurd q h100⟩
      · exact ⟨rfl, fun q => absurd (q.symm.trans h100) (by decide), fun q => Or.inr ⟨fun i' j' a1 a2 a3 => by have := hno q i' j' a1 a2 a3; omega, rfl⟩⟩
      · exfalso; have := nle_i h25 (by omega) (by omega); omega
    | succ ko ih =>
      intro i hi hno
      have hg : sumT (g2 P i) (i + 1) = 0 := sumT_0 (fun j hj => p1_f (fun q => by omega))
      have inner : ∀ k j, j + k = N → i < j → (w = 1 → ∀ j', i < j' → j' < N → P i j' → j ≤ j') → V C 34 [(0, vR b), (1, vI z), (2, vI w), (3, vI (nI N)), (4, vI (nI (cnt2 P N i + sumT (g2 P i) j))), (5, vI (nI i)), (6, vI (nI j))] [] μ := by
        intro k
        induction k with
        | zero =>
          intro j hj hij hno2
          have hI := ih (i + 1) (by omega) (fun q i' j' a1 a2 a3 => by
            have h1 := hno q i' j' a1 a2 a3
            by_cases e : i' = i
            · subst e; have := hno2 q j' a1 a2 a3; omega
            · omega)
          have e : cnt2 P N (i + 1) = cnt2 P N i + sumT (g2 P i) j := by rw [show j = N by omega]; rfl
          rw [e, nI_succ] at hI
          refine V_iload (pc := 34) hG (dk dd_X2_pairs 19 rfl) rfl ?_
          refine V_iload_n (pc := 36) hG (dk dd_X2_pairs 20 rfl) rfl ?_
          refine V_icmp_ge (pc := 37) hG (dk dd_X2_pairs 21 rfl) (tgt := 92) (by decide) (fun h37 => ?_) (fun h37 => ?_)
          refine V_iinc (pc := 92) hG (dk dd_X2_pairs 47 rfl) rfl (v := _ + 1) rfl (by decide) (lv' := [(0, _), (1, _), (2, _), (3, _), (4, _), (5, _), (6, _)]) rfl ?_
          refine V_goto (pc := 95) hG (dk dd_X2_pairs 48 rfl) (tgt := 22) (by decide) ?_
          refine V_keep [0, 1, 2, 3, 4, 5] (lv' := [(0, _), (1, _), (2, _), (3, _), (4, _), (5, _)]) rfl ?_
          rotate_left
          rotate_left
          -- leaves: stop 22; stop 40
          · exact hI
          · exfalso; have := nle_i h37 (by omega) (by omega); omega
        | succ k ihk =>
          intro j hj hij hno2
          have hjN : j < N := by omega
          have next : ¬ P i j → V C 86 [(0, vR b), (1, vI z), (2, vI w), (3, vI (nI N)), (4, vI (nI (cnt2 P N i + sumT (g2 P i) j))), (5, vI (nI i)), (6, vI (nI j))] [] μ := by
            intro hnP
            have hI := ihk (j + 1) (by omega) (by omega) (fun q j' a1 a2 a3 => by
              have := hno2 q j' a1 a2 a3
              by_cases e : j' = j
              · subst e; exact absurd a3 hnP
              · omega)
            rw [sumT_s, show g2 P i j = 0 from p1_f (fun q => hnP q.2), nI_succ] at hI
            refine V_iinc (pc := 86) hG (dk dd_X2_pairs 45 rfl) rfl (v := _ + 1) rfl (by decide) (lv' := [(0, _), (1, _), (2, _), (3, _), (4, _), (5, _), (6, _)]) rfl ?_
            refine V_goto (pc := 89) hG (dk dd_X2_pairs 46 rfl) (tgt := 34) (by decide) ?_
            rotate_left
            -- leaves: stop 34
            · exact hI
          have found : P i j → V C 69 [(0, vR b), (1, vI z), (2, vI w), (3, vI (nI N)), (4, vI (nI (cnt2 P N i + sumT (g2 P i) j))), (5, vI (nI i)), (6, vI (nI j))] [] μ := by
            intro hPij
            refine V_iload_n (pc := 69) hG (dk dd_X2_pairs 35 rfl) rfl ?_
            refine V_iconst (pc := 70) hG (dk dd_X2_pairs 36 rfl) (v := 1) (by decide) ?_
            refine V_icmp_ne (pc := 71) hG (dk dd_X2_pairs 37 rfl) (tgt := 83) (by decide) (fun h71 => ?_) (fun h71 => ?_)
            refine V_iinc (pc := 83) hG (dk dd_X2_pairs 44 rfl) rfl (v := _ + 1) rfl (by decide) (lv' := [(0, _), (1, _), (2, _), (3, _), (4, _), (5, _), (6, _)]) rfl ?_
            refine V_iinc (pc := 86) hG (dk dd_X2_pairs 45 rfl) rfl (v := _ + 1) rfl (by decide) (lv' := [(0, _), (1, _), (2, _), (3, _), (4, _), (5, _), (6, _)]) rfl ?_
            refine V_goto (pc := 89) hG (dk dd_X2_pairs 46 rfl) (tgt := 34) (by decide) ?_
            rotate_left
            refine V_bipush (pc := 74) hG (dk dd_X2_pairs 38 rfl) (v := 10) (by decide) ?_
            refine V_iload (pc := 76) hG (dk dd_X2_pairs 39 rfl) rfl ?_
            refine V_imul (pc := 78) hG (dk dd_X2_pairs 40 rfl) ?_
            refine V_iload (pc := 79) hG (dk dd_X2_pairs 41 rfl) rfl ?_
            refine V_iadd (pc := 81) hG (dk dd_X2_pairs 42 rfl) ?_
            refine V_iretP (pc := 82) hG (dk dd_X2_pairs 43 rfl) hR (Pi.mk ?_)
            rotate_left
            -- leaves: stop 34; return@82
            · have hw0 : w = 0 := hw.resolve_right h71
              have hI := ihk (j + 1) (by omega) (by omega) (fun q => absurd q h71)
              rw [sumT_s, show g2 P i j = 1 from p1_t ⟨hij, hPij⟩, ← Nat.add_assoc, nI_succ, nI_succ] at hI
              exact hI
            · refine ⟨rfl, fun q => absurd (q.symm.trans h71) (by decide), fun q => Or.inl ⟨i, j, hij, hjN, hPij, ?_, fun i' j' a1 a2 a3 => ?_⟩⟩
              · rw [show (10 : Int32) = nI 10 from rfl, pk_mul, nI_add]
              · have h1 := hno q i' j' a1 a2 a3
                by_cases e : i' = i
                · subst e; exact Or.inr ⟨rfl, hno2 q j' a1 a2 a3⟩
                · left; omega
          refine V_iload (pc := 34) hG (dk dd_X2_pairs 19 rfl) rfl ?_
          refine V_iload_n (pc := 36) hG (dk dd_X2_pairs 20 rfl) rfl ?_
          refine V_icmp_ge (pc := 37) hG (dk dd_X2_pairs 21 rfl) (tgt := 92) (by decide) (fun h37 => ?_) (fun h37 => ?_)
          rotate_left
          refine V_iload_n (pc := 40) hG (dk dd_X2_pairs 22 rfl) rfl ?_
          refine V_if_eq (pc := 41) hG (dk dd_X2_pairs 23 rfl) (tgt := 58) (by decide) (fun h41 => ?_) (fun h41 => ?_)
          refine V_aload_n (pc := 58) hG (dk dd_X2_pairs 30 rfl) rfl ?_
          refine V_iload (pc := 59) hG (dk dd_X2_pairs 31 rfl) rfl ?_
          refine V_iload (pc := 61) hG (dk dd_X2_pairs 32 rfl) rfl ?_
          refine V_callVip (pc := 63) hG (dk dd_X2_pairs 33 rfl) ml_X2_96 mo_X2_clash hb.s0 rfl (c_clash (α := α) hb hA hv (i := i) (j := j) rfl ?_ rfl ?_) (by decide) (by decide) rfl rfl rfl (fun x63 m63 p63 => ?_)
          rotate_left
          rotate_left
          refine V_if_eq (pc := 66) hG (dk dd_X2_pairs 34 rfl) (tgt := 86) (by decide) (fun h66 => ?_) (fun h66 => ?_)
          rotate_left
          rotate_left
          refine V_aload_n (pc := 44) hG (dk dd_X2_pairs 24 rfl) rfl ?_
          refine V_iload (pc := 45) hG (dk dd_X2_pairs 25 rfl) rfl ?_
          refine V_iload (pc := 47) hG (dk dd_X2_pairs 26 rfl) rfl ?_
          refine V_callVip (pc := 49) hG (dk dd_X2_pairs 27 rfl) ml_X2_92 mo_X2_doTheSame hb.s0 rfl (c_doTheSame (α := α) hb hA hv (i := i) (j := j) rfl ?_ rfl ?_) (by decide) (by decide) rfl rfl rfl (fun x49 m49 p49 => ?_)
          rotate_left
          rotate_left
          refine V_if_eq (pc := 52) hG (dk dd_X2_pairs 28 rfl) (tgt := 86) (by decide) (fun h52 => ?_) (fun h52 => ?_)
          rotate_left
          refine V_goto (pc := 55) hG (dk dd_X2_pairs 29 rfl) (tgt := 69) (by decide) ?_
          rotate_left
          -- leaves: stop 92; call clash@63 0; call clash@63 1; stop 86; stop 69; call doTheSame@49 0; call doTheSame@49 1; stop 86; stop 69
          · exfalso; have := le_i h37 (by omega) (by omega); omega
          · rcases hz with q | q
            · exact absurd (h41.symm.trans q.1) (by decide)
            · omega
          · rcases hz with q | q
            · exact absurd (h41.symm.trans q.1) (by decide)
            · omega
          · obtain ⟨rfl, p63⟩ := p63
            rcases hz with q | q
            · exact absurd (h41.symm.trans q.1) (by decide)
            · exact next (by rw [q.2.2]; exact p63.no h66)
          · obtain ⟨rfl, p63⟩ := p63
            rcases hz with q | q
            · exact absurd (h41.symm.trans q.1) (by decide)
            · exact found (by rw [q.2.2]; exact p63.yes h66)
          · rcases hz with q | q
            · omega
            · exact absurd q.1 h41
          · rcases hz with q | q
            · omega
            · exact absurd q.1 h41
          · obtain ⟨rfl, p49⟩ := p49
            rcases hz with q | q
            · exact next (by rw [q.2.2]; exact p49.no h52)
            · exact absurd q.1 h41
          · obtain ⟨rfl, p49⟩ := p49
            rcases hz with q | q
            · exact found (by rw [q.2.2]; exact p49.yes h52)
            · exact absurd q.1 h41
      have hI := inner (N - (i + 1)) (i + 1) (by omega) (by omega) (fun _ j' a _ _ => by omega)
      rw [hg, Nat.add_zero, nI_succ] at hI
      refine V_iload (pc := 22) hG (dk dd_X2_pairs 12 rfl) rfl ?_
      refine V_iload_n (pc := 24) hG (dk dd_X2_pairs 13 rfl) rfl ?_
      refine V_icmp_ge (pc := 25) hG (dk dd_X2_pairs 14 rfl) (tgt := 98) (by decide) (fun h25 => ?_) (fun h25 => ?_)
      rotate_left
      refine V_iload (pc := 28) hG (dk dd_X2_pairs 15 rfl) rfl ?_
      refine V_iconst (pc := 30) hG (dk dd_X2_pairs 16 rfl) (v := 1) (by decide) ?_
      refine V_iadd (pc := 31) hG (dk dd_X2_pairs 17 rfl) ?_
      refine V_istore (pc := 32) hG (dk dd_X2_pairs 18 rfl) (by decide) (lv' := [(0, _), (1, _), (2, _), (3, _), (4, _), (5, _), (6, _)]) rfl ?_
      rotate_left
      -- leaves: stop 98; stop 34
      · exfalso; have := le_i h25 (by omega) (by omega); omega
      · exact hI
  have hI := loop N 0 (by omega) (fun _ i' _ _ _ _ => Nat.zero_le i')
  refine V_iload_n (pc := 0) hG (dk dd_X2_pairs 0 rfl) rfl ?_
  refine V_if_eq (pc := 1) hG (dk dd_X2_pairs 1 rfl) (tgt := 11) (by decide) (fun h1 => ?_) (fun h1 => ?_)
  refine V_aload_n (pc := 11) hG (dk dd_X2_pairs 5 rfl) rfl ?_
  refine V_getI (pc := 12) hG (dk dd_X2_pairs 6 rfl) fl_X2_55 hb.s0 rfl ?_
  refine V_istore_n (pc := 15) hG (dk dd_X2_pairs 7 rfl) (by decide) (lv' := [(0, _), (1, _), (2, _), (3, _)]) rfl ?_
  refine V_iconst (pc := 16) hG (dk dd_X2_pairs 8 rfl) (v := 0) (by decide) ?_
  refine V_istore (pc := 17) hG (dk dd_X2_pairs 9 rfl) (by decide) (lv' := [(0, _), (1, _), (2, _), (3, _), (4, _)]) rfl ?_
  refine V_iconst (pc := 19) hG (dk dd_X2_pairs 10 rfl) (v := 0) (by decide) ?_
  refine V_istore (pc := 20) hG (dk dd_X2_pairs 11 rfl) (by decide) (lv' := [(0, _), (1, _), (2, _), (3, _), (4, _), (5, _)]) rfl ?_
  rotate_left
  refine V_aload_n (pc := 4) hG (dk dd_X2_pairs 2 rfl) rfl ?_
  refine V_getI (pc := 5) hG (dk dd_X2_pairs 3 rfl) fl_X2_52 hb.s0 rfl ?_
  refine V_goto (pc := 8) hG (dk dd_X2_pairs 4 rfl) (tgt := 15) (by decide) ?_
  refine V_istore_n (pc := 15) hG (dk dd_X2_pairs 7 rfl) (by decide) (lv' := [(0, _), (1, _), (2, _), (3, _)]) rfl ?_
  refine V_iconst (pc := 16) hG (dk dd_X2_pairs 8 rfl) (v := 0) (by decide) ?_
  refine V_istore (pc := 17) hG (dk dd_X2_pairs 9 rfl) (by decide) (lv' := [(0, _), (1, _), (2, _), (3, _), (4, _)]) rfl ?_
  refine V_iconst (pc := 19) hG (dk dd_X2_pairs 10 rfl) (v := 0) (by decide) ?_
  refine V_istore (pc := 20) hG (dk dd_X2_pairs 11 rfl) (by decide) (lv' := [(0, _), (1, _), (2, _), (3, _), (4, _), (5, _)]) rfl ?_
  rotate_left
  -- leaves: stop 22; stop 22
  · rcases hz with q | q
    · exact absurd (h1.symm.trans q.1) (by decide)
    · rw [e7, ← q.2.1]; exact hI
  · rcases hz with q | q
    · rw [e6, ← q.2.1]; exact hI
    · exact absurd q.1 h1
end
section
/-! ===== courts that become others; acts ===== -/
theorem cp6 {f g : Nat → Int32} {i : Nat} (h : i < 6) : va_cpy f g (0 : Int32).toNatClampNeg (0 : Int32).toNatClampNeg (6 : Int32).toNatClampNeg i = f i := by
  show va_cpy f g 0 0 6 i = f i
  rw [pk_cpy_in (Nat.zero_le _) (by omega), Nat.zero_add, Nat.sub_zero]
theorem cp5 {f g : Nat → Int32} {i : Nat} (h : i < 5) : va_cpy f g (0 : Int32).toNatClampNeg (0 : Int32).toNatClampNeg (5 : Int32).toNatClampNeg i = f i := by
  show va_cpy f g 0 0 5 i = f i
  rw [pk_cpy_in (Nat.zero_le _) (by omega), Nat.zero_add, Nat.sub_zero]
def coLen (x : Nat) : Nat := if x = 0 then 8 else if x < 4 then 6 else 5
/-- the court at b is what the one at c was; nothing else has changed -/
def Became (b c : Nat) (μ μ' : Mem) : Prop := (∀ x i, x ≤ 7 → i < coLen x → μ' (b + x) i = μ (c + x) i) ∧ ∀ a, (a < b ∨ b + 7 < a) → μ' a = μ a
theorem Became.abs {b c : Nat} {μ μ' : Mem} {α : Al} (h : Became b c μ μ') (hA : Abs (kac μ c) α) (hH : α 0 6 ≤ 6) (hC : α 0 7 ≤ 5) : Abs (kac μ' b) α :=
  ⟨fun i hi => (h.1 0 i (by decide) hi).trans (hA.1 i hi), fun x q h1 h2 h3 => (h.1 x q (by omega) (by unfold coLen; rw [if_neg (by omega), if_pos (by omega)]; omega)).trans (hA.2.1 x q h1 h2 h3), fun x q h1 h2 h3 => (h.1 x q (by omega) (by unfold coLen; rw [if_neg (by omega), if_neg (by omega)]; omega)).trans (hA.2.2 x q h1 h2 h3)⟩
set_option maxHeartbeats 4000000 in
theorem c_become {b c : Nat} {μ : Mem} (hb : IsCo b) (hc : IsCo c) (hne : b ≠ c) : CtP yX2_become cX2_become 2 none 0 [vR b, vR c] μ (Pv (fun μ' => Became b c μ μ')) := by
  refine CtP.go RX2 rfl pn_X2 (Nat.le_of_ble_eq_true rfl) (fun C hG hR => ?_)
  have hb' : b = 15 ∨ b = 23 ∨ b = 35 ∨ b = 43 := hb
  have hc' : c = 15 ∨ c = 23 ∨ c = 35 ∨ c = 43 := hc
  refine V_aload_n (pc := 0) hG (dk dd_X2_become 0 rfl) rfl ?_
  refine V_aload_n (pc := 1) hG (dk dd_X2_become 1 rfl) rfl ?_
  refine V_getI (pc := 2) hG (dk dd_X2_become 2 rfl) fl_X2_33 hc.s0 rfl ?_
  refine V_putI (pc := 5) hG (dk dd_X2_become 3 rfl) fl_X2_33 hb.s0 rfl rfl ?_
  refine V_aload_n (pc := 8) hG (dk dd_X2_become 4 rfl) rfl ?_
  refine V_aload_n (pc := 9) hG (dk dd_X2_become 5 rfl) rfl ?_
  refine V_getI (pc := 10) hG (dk dd_X2_become 6 rfl) fl_X2_37 hc.s0 rfl ?_
  refine V_putI (pc := 13) hG (dk dd_X2_become 7 rfl) fl_X2_37 hb.s0 rfl rfl ?_
  refine V_aload_n (pc := 16) hG (dk dd_X2_become 8 rfl) rfl ?_
  refine V_aload_n (pc := 17) hG (dk dd_X2_become 9 rfl) rfl ?_
  refine V_getI (pc := 18) hG (dk dd_X2_become 10 rfl) fl_X2_40 hc.s0 rfl ?_
  refine V_putI (pc := 21) hG (dk dd_X2_become 11 rfl) fl_X2_40 hb.s0 rfl rfl ?_
  refine V_aload_n (pc := 24) hG (dk dd_X2_become 12 rfl) rfl ?_
  refine V_aload_n (pc := 25) hG (dk dd_X2_become 13 rfl) rfl ?_
  refine V_getI (pc := 26) hG (dk dd_X2_become 14 rfl) fl_X2_43 hc.s0 rfl ?_
  refine V_putI (pc := 29) hG (dk dd_X2_become 15 rfl) fl_X2_43 hb.s0 rfl rfl ?_
  refine V_aload_n (pc := 32) hG (dk dd_X2_become 16 rfl) rfl ?_
  refine V_aload_n (pc := 33) hG (dk dd_X2_become 17 rfl) rfl ?_
  refine V_getI (pc := 34) hG (dk dd_X2_become 18 rfl) fl_X2_46 hc.s0 rfl ?_
  refine V_putI (pc := 37) hG (dk dd_X2_become 19 rfl) fl_X2_46 hb.s0 rfl rfl ?_
  refine V_aload_n (pc := 40) hG (dk dd_X2_become 20 rfl) rfl ?_
  refine V_aload_n (pc := 41) hG (dk dd_X2_become 21 rfl) rfl ?_
  refine V_getI (pc := 42) hG (dk dd_X2_become 22 rfl) fl_X2_49 hc.s0 rfl ?_
  refine V_putI (pc := 45) hG (dk dd_X2_become 23 rfl) fl_X2_49 hb.s0 rfl rfl ?_
  refine V_aload_n (pc := 48) hG (dk dd_X2_become 24 rfl) rfl ?_
  refine V_aload_n (pc := 49) hG (dk dd_X2_become 25 rfl) rfl ?_
  refine V_getI (pc := 50) hG (dk dd_X2_become 26 rfl) fl_X2_52 hc.s0 rfl ?_
  refine V_putI (pc := 53) hG (dk dd_X2_become 27 rfl) fl_X2_52 hb.s0 rfl rfl ?_
  refine V_aload_n (pc := 56) hG (dk dd_X2_become 28 rfl) rfl ?_
  refine V_aload_n (pc := 57) hG (dk dd_X2_become 29 rfl) rfl ?_
  refine V_getI (pc := 58) hG (dk dd_X2_become 30 rfl) fl_X2_55 hc.s0 rfl ?_
  refine V_putI (pc := 61) hG (dk dd_X2_become 31 rfl) fl_X2_55 hb.s0 rfl rfl ?_
  refine V_aload_n (pc := 64) hG (dk dd_X2_become 32 rfl) rfl ?_
  refine V_getR (pc := 65) hG (dk dd_X2_become 33 rfl) fl_X2_9 hc.s0 rfl ?_
  refine V_iconst (pc := 68) hG (dk dd_X2_become 34 rfl) (v := 0) (by decide) ?_
  refine V_aload_n (pc := 69) hG (dk dd_X2_become 35 rfl) rfl ?_
  refine V_getR (pc := 70) hG (dk dd_X2_become 36 rfl) fl_X2_9 hb.s0 rfl ?_
  refine V_iconst (pc := 73) hG (dk dd_X2_become 37 rfl) (v := 0) (by decide) ?_
  refine V_bipush (pc := 74) hG (dk dd_X2_become 38 rfl) (v := 6) (by decide) ?_
  -- arraycopy
  refine V_acopy (pc := 76) hG (dk dd_X2_become 39 rfl) ml_X2_64 hc.s1 hb.s1 (by decide) (by decide) (by decide) (by decide) (by decide) rfl ?_
  refine V_aload_n (pc := 79) hG (dk dd_X2_become 40 rfl) rfl ?_
  refine V_getR (pc := 80) hG (dk dd_X2_become 41 rfl) fl_X2_15 hc.s0 rfl ?_
  refine V_iconst (pc := 83) hG (dk dd_X2_become 42 rfl) (v := 0) (by decide) ?_
  refine V_aload_n (pc := 84) hG (dk dd_X2_become 43 rfl) rfl ?_
  refine V_getR (pc := 85) hG (dk dd_X2_become 44 rfl) fl_X2_15 hb.s0 rfl ?_
  refine V_iconst (pc := 88) hG (dk dd_X2_become 45 rfl) (v := 0) (by decide) ?_
  refine V_bipush (pc := 89) hG (dk dd_X2_become 46 rfl) (v := 6) (by decide) ?_
  -- arraycopy
  refine V_acopy (pc := 91) hG (dk dd_X2_become 47 rfl) ml_X2_64 hc.s2 hb.s2 (by decide) (by decide) (by decide) (by decide) (by decide) rfl ?_
  refine V_aload_n (pc := 94) hG (dk dd_X2_become 48 rfl) rfl ?_
  refine V_getR (pc := 95) hG (dk dd_X2_become 49 rfl) fl_X2_18 hc.s0 rfl ?_
  refine V_iconst (pc := 98) hG (dk dd_X2_become 50 rfl) (v := 0) (by decide) ?_
  refine V_aload_n (pc := 99) hG (dk dd_X2_become 51 rfl) rfl ?_
  refine V_getR (pc := 100) hG (dk dd_X2_become 52 rfl) fl_X2_18 hb.s0 rfl ?_
  refine V_iconst (pc := 103) hG (dk dd_X2_become 53 rfl) (v := 0) (by decide) ?_
  refine V_bipush (pc := 104) hG (dk dd_X2_become 54 rfl) (v := 6) (by decide) ?_
  -- arraycopy
  refine V_acopy (pc := 106) hG (dk dd_X2_become 55 rfl) ml_X2_64 hc.s3 hb.s3 (by decide) (by decide) (by decide) (by decide) (by decide) rfl ?_
  refine V_aload_n (pc := 109) hG (dk dd_X2_become 56 rfl) rfl ?_
  refine V_getR (pc := 110) hG (dk dd_X2_become 57 rfl) fl_X2_21 hc.s0 rfl ?_
  refine V_iconst (pc := 113) hG (dk dd_X2_become 58 rfl) (v := 0) (by decide) ?_
  refine V_aload_n (pc := 114) hG (dk dd_X2_become 59 rfl) rfl ?_
  refine V_getR (pc := 115) hG (dk dd_X2_become 60 rfl) fl_X2_21 hb.s0 rfl ?_
  refine V_iconst (pc := 118) hG (dk dd_X2_become 61 rfl) (v := 0) (by decide) ?_
  refine V_iconst (pc := 119) hG (dk dd_X2_become 62 rfl) (v := 5) (by decide) ?_
  -- arraycopy
  refine V_acopy (pc := 120) hG (dk dd_X2_become 63 rfl) ml_X2_64 hc.s4 hb.s4 (by decide) (by decide) (by decide) (by decide) (by decide) rfl ?_
  refine V_aload_n (pc := 123) hG (dk dd_X2_become 64 rfl) rfl ?_
  refine V_getR (pc := 124) hG (dk dd_X2_become 65 rfl) fl_X2_24 hc.s0 rfl ?_
  refine V_iconst (pc := 127) hG (dk dd_X2_become 66 rfl) (v := 0) (by decide) ?_
  refine V_aload_n (pc := 128) hG (dk dd_X2_become 67 rfl) rfl ?_
  refine V_getR (pc := 129) hG (dk dd_X2_become 68 rfl) fl_X2_24 hb.s0 rfl ?_
  refine V_iconst (pc := 132) hG (dk dd_X2_become 69 rfl) (v := 0) (by decide) ?_
  refine V_iconst (pc := 133) hG (dk dd_X2_become 70 rfl) (v := 5) (by decide) ?_
  -- arraycopy
  refine V_acopy (pc := 134) hG (dk dd_X2_become 71 rfl) ml_X2_64 hc.s5 hb.s5 (by decide) (by decide) (by decide) (by decide) (by decide) rfl ?_
  refine V_aload_n (pc := 137) hG (dk dd_X2_become 72 rfl) rfl ?_
  refine V_getR (pc := 138) hG (dk dd_X2_become 73 rfl) fl_X2_27 hc.s0 rfl ?_
  refine V_iconst (pc := 141) hG (dk dd_X2_become 74 rfl) (v := 0) (by decide) ?_
  refine V_aload_n (pc := 142) hG (dk dd_X2_become 75 rfl) rfl ?_
  refine V_getR (pc := 143) hG (dk dd_X2_become 76 rfl) fl_X2_27 hb.s0 rfl ?_
  refine V_iconst (pc := 146) hG (dk dd_X2_become 77 rfl) (v := 0) (by decide) ?_
  refine V_iconst (pc := 147) hG (dk dd_X2_become 78 rfl) (v := 5) (by decide) ?_
  -- arraycopy
  refine V_acopy (pc := 148) hG (dk dd_X2_become 79 rfl) ml_X2_64 hc.s6 hb.s6 (by decide) (by decide) (by decide) (by decide) (by decide) rfl ?_
  refine V_aload_n (pc := 151) hG (dk dd_X2_become 80 rfl) rfl ?_
  refine V_getR (pc := 152) hG (dk dd_X2_become 81 rfl) fl_X2_30 hc.s0 rfl ?_
  refine V_iconst (pc := 155) hG (dk dd_X2_become 82 rfl) (v := 0) (by decide) ?_
  refine V_aload_n (pc := 156) hG (dk dd_X2_become 83 rfl) rfl ?_
  refine V_getR (pc := 157) hG (dk dd_X2_become 84 rfl) fl_X2_30 hb.s0 rfl ?_
  refine V_iconst (pc := 160) hG (dk dd_X2_become 85 rfl) (v := 0) (by decide) ?_
  refine V_iconst (pc := 161) hG (dk dd_X2_become 86 rfl) (v := 5) (by decide) ?_
  -- arraycopy
  refine V_acopy (pc := 162) hG (dk dd_X2_become 87 rfl) ml_X2_64 hc.s7 hb.s7 (by decide) (by decide) (by decide) (by decide) (by decide) rfl ?_
  refine V_vretP (pc := 165) hG (dk dd_X2_become 88 rfl) hR (Pv.mk ?_)
  rotate_left
  -- leaves: return@165
  · refine ⟨fun x i hx hi => ?_, fun a ha => ?_⟩
    · rcases (show x = 0 ∨ x = 1 ∨ x = 2 ∨ x = 3 ∨ x = 4 ∨ x = 5 ∨ x = 6 ∨ x = 7 by omega) with rfl | rfl | rfl | rfl | rfl | rfl | rfl | rfl
      · have hi : i < 8 := hi
        simp (disch := omega) only [setc_s, setc_n, Nat.add_zero]
        rcases (show i = 0 ∨ i = 1 ∨ i = 2 ∨ i = 3 ∨ i = 4 ∨ i = 5 ∨ i = 6 ∨ i = 7 by omega) with rfl | rfl | rfl | rfl | rfl | rfl | rfl | rfl <;> rfl
      all_goals (simp (disch := omega) only [setc_s, setc_n]; first | exact cp6 hi | exact cp5 hi)
    · simp (disch := omega) only [setc_n]
/-- a block of 14 numbers: what an act can change -/
def Blk (f : Nat → Int32) (o : Nat) (α : Al) : Prop := f o = nI (α 0 3) ∧ f (o + 1) = nI (α 0 4) ∧ f (o + 2) = nI (α 0 5) ∧ (∀ c, c < α 0 7 → f (o + 3 + c) = nI (α 7 c)) ∧ (∀ h, h < α 0 6 → f (o + 8 + h) = nI (α 2 h))
set_option maxHeartbeats 4000000 in
theorem c_writeChanging {μ : Mem} {α : Al} (hA : Abs (kac μ 15) α) (hH : α 0 6 ≤ 6) (hC : α 0 7 ≤ 5) {x : Int32} {o : Nat} (hx : x = nI o) (ho : o + 14 ≤ 336) : CtP yX2_writeChanging cX2_writeChanging 3 none 0 [vR 15, vR 33, vI x] μ (Pv (fun μ' => ∃ f, μ' = setc μ 33 f ∧ Blk f o α ∧ ∀ q, (q < o ∨ o + 14 ≤ q) → f q = μ 33 q)) := by
  refine CtP.go RX2 rfl pn_X2 (Nat.le_of_ble_eq_true rfl) (fun C hG hR => ?_)
  subst hx
  have a1 : nI o + 1 = nI (o + 1) := nI_add o 1
  have a2 : nI o + 2 = nI (o + 2) := nI_add o 2
  have a3 : nI o + 3 = nI (o + 3) := nI_add o 3
  have a8 : nI (o + 3) + 5 = nI (o + 8) := nI_add (o + 3) 5
  have r0 : vp_in (nI o) 336 := vp_in_nI (by omega) (by decide)
  have r1 : vp_in (nI o + 1) 336 := by rw [a1]; exact vp_in_nI (by omega) (by decide)
  have r2 : vp_in (nI o + 2) 336 := by rw [a2]; exact vp_in_nI (by omega) (by decide)
  have n3 : ¬ nI o + 3 < 0 := by rw [a3]; exact nI_pos (by omega)
  have n8 : ¬ nI o + 3 + 5 < 0 := by rw [a3, a8]; exact nI_pos (by omega)
  have s3 : (nI o + 3).toNatClampNeg = o + 3 := by rw [a3]; exact nI_clamp (by omega)
  have s8 : (nI o + 3 + 5).toNatClampNeg = o + 8 := by rw [a3, a8]; exact nI_clamp (by omega)
  have c0 : (nI o).toNatClampNeg = o := nI_clamp (by omega)
  have c1 : (nI o + 1).toNatClampNeg = o + 1 := by rw [a1]; exact nI_clamp (by omega)
  have c2 : (nI o + 2).toNatClampNeg = o + 2 := by rw [a2]; exact nI_clamp (by omega)
  refine V_aload_n (pc := 0) hG (dk dd_X2_writeChanging 0 rfl) rfl ?_
  refine V_iload_n (pc := 1) hG (dk dd_X2_writeChanging 1 rfl) rfl ?_
  refine V_aload_n (pc := 2) hG (dk dd_X2_writeChanging 2 rfl) rfl ?_
  refine V_getI (pc := 3) hG (dk dd_X2_writeChanging 3 rfl) fl_X2_43 sh_15 rfl ?_
  refine V_iast (pc := 6) hG (dk dd_X2_writeChanging 4 rfl) sh_33 r0 ?_
  refine V_aload_n (pc := 7) hG (dk dd_X2_writeChanging 5 rfl) rfl ?_
  refine V_iload_n (pc := 8) hG (dk dd_X2_writeChanging 6 rfl) rfl ?_
  refine V_iconst (pc := 9) hG (dk dd_X2_writeChanging 7 rfl) (v := 1) (by decide) ?_
  refine V_iadd (pc := 10) hG (dk dd_X2_writeChanging 8 rfl) ?_
  refine V_aload_n (pc := 11) hG (dk dd_X2_writeChanging 9 rfl) rfl ?_
  refine V_getI (pc := 12) hG (dk dd_X2_writeChanging 10 rfl) fl_X2_46 sh_15 rfl ?_
  refine V_iast (pc := 15) hG (dk dd_X2_writeChanging 11 rfl) sh_33 r1 ?_
  refine V_aload_n (pc := 16) hG (dk dd_X2_writeChanging 12 rfl) rfl ?_
  refine V_iload_n (pc := 17) hG (dk dd_X2_writeChanging 13 rfl) rfl ?_
  refine V_iconst (pc := 18) hG (dk dd_X2_writeChanging 14 rfl) (v := 2) (by decide) ?_
  refine V_iadd (pc := 19) hG (dk dd_X2_writeChanging 15 rfl) ?_
  refine V_aload_n (pc := 20) hG (dk dd_X2_writeChanging 16 rfl) rfl ?_
  refine V_getI (pc := 21) hG (dk dd_X2_writeChanging 17 rfl) fl_X2_49 sh_15 rfl ?_
  refine V_iast (pc := 24) hG (dk dd_X2_writeChanging 18 rfl) sh_33 r2 ?_
  refine V_aload_n (pc := 25) hG (dk dd_X2_writeChanging 19 rfl) rfl ?_
  refine V_getR (pc := 26) hG (dk dd_X2_writeChanging 20 rfl) fl_X2_30 sh_15 rfl ?_
  refine V_iconst (pc := 29) hG (dk dd_X2_writeChanging 21 rfl) (v := 0) (by decide) ?_
  refine V_aload_n (pc := 30) hG (dk dd_X2_writeChanging 22 rfl) rfl ?_
  refine V_iload_n (pc := 31) hG (dk dd_X2_writeChanging 23 rfl) rfl ?_
  refine V_iconst (pc := 32) hG (dk dd_X2_writeChanging 24 rfl) (v := 3) (by decide) ?_
  refine V_iadd (pc := 33) hG (dk dd_X2_writeChanging 25 rfl) ?_
  refine V_iconst (pc := 34) hG (dk dd_X2_writeChanging 26 rfl) (v := 5) (by decide) ?_
  -- arraycopy
  refine V_acopy (pc := 35) hG (dk dd_X2_writeChanging 27 rfl) ml_X2_64 sh_22 sh_33 (by decide) n3 (by decide) (by decide) (by rw [s3]; show o + 3 + 5 ≤ 336; omega) rfl ?_
  refine V_aload_n (pc := 38) hG (dk dd_X2_writeChanging 28 rfl) rfl ?_
  refine V_getR (pc := 39) hG (dk dd_X2_writeChanging 29 rfl) fl_X2_15 sh_15 rfl ?_
  refine V_iconst (pc := 42) hG (dk dd_X2_writeChanging 30 rfl) (v := 0) (by decide) ?_
  refine V_aload_n (pc := 43) hG (dk dd_X2_writeChanging 31 rfl) rfl ?_
  refine V_iload_n (pc := 44) hG (dk dd_X2_writeChanging 32 rfl) rfl ?_
  refine V_iconst (pc := 45) hG (dk dd_X2_writeChanging 33 rfl) (v := 3) (by decide) ?_
  refine V_iadd (pc := 46) hG (dk dd_X2_writeChanging 34 rfl) ?_
  refine V_iconst (pc := 47) hG (dk dd_X2_writeChanging 35 rfl) (v := 5) (by decide) ?_
  refine V_iadd (pc := 48) hG (dk dd_X2_writeChanging 36 rfl) ?_
  refine V_bipush (pc := 49) hG (dk dd_X2_writeChanging 37 rfl) (v := 6) (by decide) ?_
  -- arraycopy
  refine V_acopy (pc := 51) hG (dk dd_X2_writeChanging 38 rfl) ml_X2_64 sh_17 sh_33 (by decide) n8 (by decide) (by decide) (by rw [s8]; show o + 8 + 6 ≤ 336; omega) rfl ?_
  refine V_vretP (pc := 54) hG (dk dd_X2_writeChanging 39 rfl) hR (Pv.mk ?_)
  rotate_left
  -- leaves: return@54
  · simp (disch := omega) only [setc_s, setc_n, setc_c, c0, c1, c2, s3, s8]
    refine ⟨_, rfl, ⟨?_, ?_, ?_, fun c hc => ?_, fun h hh => ?_⟩, fun q hq => ?_⟩
    · rw [pk_cpy_out (by left; omega), pk_cpy_out (by left; omega), pk_un (by omega), pk_un (by omega), pk_us]; exact hA.1 3 (by decide)
    · rw [pk_cpy_out (by left; omega), pk_cpy_out (by left; omega), pk_un (by omega), pk_us]; exact hA.1 4 (by decide)
    · rw [pk_cpy_out (by left; omega), pk_cpy_out (by left; omega), pk_us]; exact hA.1 5 (by decide)
    · rw [pk_cpy_out (by left; omega), pk_cpy_in (by omega) (by show _ < o + 3 + 5; omega), show (0 : Int32).toNatClampNeg + (o + 3 + c - (o + 3)) = c by show 0 + _ = c; omega]; exact hA.2.2 7 c (by decide) (by decide) hc
    · rw [pk_cpy_in (by omega) (by show _ < o + 8 + 6; omega), show (0 : Int32).toNatClampNeg + (o + 8 + h - (o + 8)) = h by show 0 + _ = h; omega]; exact hA.2.1 2 h (by decide) (by decide) hh
    · rw [pk_cpy_out (by show _ ∨ o + 8 + 6 ≤ q; omega), pk_cpy_out (by show _ ∨ o + 3 + 5 ≤ q; omega), pk_un (by omega), pk_un (by omega), pk_un (by omega)]
/-- what an act can't change is alike -/
def Sta (α β : Al) : Prop := (∀ i, i < 8 → i ≠ 3 → i ≠ 4 → i ≠ 5 → α 0 i = β 0 i) ∧ (∀ x h, (x = 1 ∨ x = 3) → h < α 0 6 → α x h = β x h) ∧ (∀ x c, (x = 4 ∨ x = 5 ∨ x = 6) → c < α 0 7 → α x c = β x c)
theorem Sta.rf (α : Al) : Sta α α := ⟨fun _ _ _ _ _ => rfl, fun _ _ _ _ => rfl, fun _ _ _ _ => rfl⟩
theorem Sta.tr {α β γ : Al} (h : Sta α β) (k : Sta β γ) : Sta α γ := by
  have e6 := h.1 6 (by decide) (by decide) (by decide) (by decide)
  have e7 := h.1 7 (by decide) (by decide) (by decide) (by decide)
  exact ⟨fun i a b c d => (h.1 i a b c d).trans (k.1 i a b c d), fun x q a b => (h.2.1 x q a b).trans (k.2.1 x q a (by omega)), fun x q a b => (h.2.2 x q a b).trans (k.2.2 x q a (by omega))⟩
theorem Sta.sy {α β : Al} (h : Sta α β) : Sta β α := by
  have e6 := h.1 6 (by decide) (by decide) (by decide) (by decide)
  have e7 := h.1 7 (by decide) (by decide) (by decide) (by decide)
  exact ⟨fun i a b c d => (h.1 i a b c d).symm, fun x q a b => (h.2.1 x q a (by omega)).symm, fun x q a b => (h.2.2 x q a (by omega)).symm⟩
set_option maxHeartbeats 4000000 in
theorem c_readChanging {μ : Mem} {α β : Al} (hA : Abs (kac μ 15) α) (hs : Sta α β) (hH : α 0 6 ≤ 6) (hC : α 0 7 ≤ 5) {x : Int32} {o : Nat} (hx : x = nI o) (ho : o + 14 ≤ 336) (hB : Blk (μ 33) o β) : CtP yX2_readChanging cX2_readChanging 3 none 0 [vR 15, vR 33, vI x] μ (Pv (fun μ' => Abs (kac μ' 15) β ∧ ∀ a, (a < 15 ∨ 22 < a) → μ' a = μ a)) := by
  refine CtP.go RX2 rfl pn_X2 (Nat.le_of_ble_eq_true rfl) (fun C hG hR => ?_)
  subst hx
  have a1 : nI o + 1 = nI (o + 1) := nI_add o 1
  have a2 : nI o + 2 = nI (o + 2) := nI_add o 2
  have a3 : nI o + 3 = nI (o + 3) := nI_add o 3
  have a8 : nI (o + 3) + 5 = nI (o + 8) := nI_add (o + 3) 5
  have r0 : vp_in (nI o) 336 := vp_in_nI (by omega) (by decide)
  have r1 : vp_in (nI o + 1) 336 := by rw [a1]; exact vp_in_nI (by omega) (by decide)
  have r2 : vp_in (nI o + 2) 336 := by rw [a2]; exact vp_in_nI (by omega) (by decide)
  have n3 : ¬ nI o + 3 < 0 := by rw [a3]; exact nI_pos (by omega)
  have n8 : ¬ nI o + 3 + 5 < 0 := by rw [a3, a8]; exact nI_pos (by omega)
  have s3 : (nI o + 3).toNatClampNeg = o + 3 := by rw [a3]; exact nI_clamp (by omega)
  have s8 : (nI o + 3 + 5).toNatClampNeg = o + 8 := by rw [a3, a8]; exact nI_clamp (by omega)
  have c0 : (nI o).toNatClampNeg = o := nI_clamp (by omega)
  have c1 : (nI o + 1).toNatClampNeg = o + 1 := by rw [a1]; exact nI_clamp (by omega)
  have c2 : (nI o + 2).toNatClampNeg = o + 2 := by rw [a2]; exact nI_clamp (by omega)
  have e6 := hs.1 6 (by decide) (by decide) (by decide) (by decide)
  have e7 := hs.1 7 (by decide) (by decide) (by decide) (by decide)
  obtain ⟨b1, b2, b3, b4, b5⟩ := hB
  refine V_aload_n (pc := 0) hG (dk dd_X2_readChanging 0 rfl) rfl ?_
  refine V_aload_n (pc := 1) hG (dk dd_X2_readChanging 1 rfl) rfl ?_
  refine V_iload_n (pc := 2) hG (dk dd_X2_readChanging 2 rfl) rfl ?_
  refine V_iald (pc := 3) hG (dk dd_X2_readChanging 3 rfl) sh_33 r0 ?_
  refine V_putI (pc := 4) hG (dk dd_X2_readChanging 4 rfl) fl_X2_43 sh_15 rfl rfl ?_
  refine V_aload_n (pc := 7) hG (dk dd_X2_readChanging 5 rfl) rfl ?_
  refine V_aload_n (pc := 8) hG (dk dd_X2_readChanging 6 rfl) rfl ?_
  refine V_iload_n (pc := 9) hG (dk dd_X2_readChanging 7 rfl) rfl ?_
  refine V_iconst (pc := 10) hG (dk dd_X2_readChanging 8 rfl) (v := 1) (by decide) ?_
  refine V_iadd (pc := 11) hG (dk dd_X2_readChanging 9 rfl) ?_
  refine V_iald (pc := 12) hG (dk dd_X2_readChanging 10 rfl) sh_33 r1 ?_
  refine V_putI (pc := 13) hG (dk dd_X2_readChanging 11 rfl) fl_X2_46 sh_15 rfl rfl ?_
  refine V_aload_n (pc := 16) hG (dk dd_X2_readChanging 12 rfl) rfl ?_
  refine V_aload_n (pc := 17) hG (dk dd_X2_readChanging 13 rfl) rfl ?_
  refine V_iload_n (pc := 18) hG (dk dd_X2_readChanging 14 rfl) rfl ?_
  refine V_iconst (pc := 19) hG (dk dd_X2_readChanging 15 rfl) (v := 2) (by decide) ?_
  refine V_iadd (pc := 20) hG (dk dd_X2_readChanging 16 rfl) ?_
  refine V_iald (pc := 21) hG (dk dd_X2_readChanging 17 rfl) sh_33 r2 ?_
  refine V_putI (pc := 22) hG (dk dd_X2_readChanging 18 rfl) fl_X2_49 sh_15 rfl rfl ?_
  refine V_aload_n (pc := 25) hG (dk dd_X2_readChanging 19 rfl) rfl ?_
  refine V_iload_n (pc := 26) hG (dk dd_X2_readChanging 20 rfl) rfl ?_
  refine V_iconst (pc := 27) hG (dk dd_X2_readChanging 21 rfl) (v := 3) (by decide) ?_
  refine V_iadd (pc := 28) hG (dk dd_X2_readChanging 22 rfl) ?_
  refine V_aload_n (pc := 29) hG (dk dd_X2_readChanging 23 rfl) rfl ?_
  refine V_getR (pc := 30) hG (dk dd_X2_readChanging 24 rfl) fl_X2_30 sh_15 rfl ?_
  refine V_iconst (pc := 33) hG (dk dd_X2_readChanging 25 rfl) (v := 0) (by decide) ?_
  refine V_iconst (pc := 34) hG (dk dd_X2_readChanging 26 rfl) (v := 5) (by decide) ?_
  -- arraycopy
  refine V_acopy (pc := 35) hG (dk dd_X2_readChanging 27 rfl) ml_X2_64 sh_33 sh_22 n3 (by decide) (by decide) (by rw [s3]; show o + 3 + 5 ≤ 336; omega) (by decide) rfl ?_
  refine V_aload_n (pc := 38) hG (dk dd_X2_readChanging 28 rfl) rfl ?_
  refine V_iload_n (pc := 39) hG (dk dd_X2_readChanging 29 rfl) rfl ?_
  refine V_iconst (pc := 40) hG (dk dd_X2_readChanging 30 rfl) (v := 3) (by decide) ?_
  refine V_iadd (pc := 41) hG (dk dd_X2_readChanging 31 rfl) ?_
  refine V_iconst (pc := 42) hG (dk dd_X2_readChanging 32 rfl) (v := 5) (by decide) ?_
  refine V_iadd (pc := 43) hG (dk dd_X2_readChanging 33 rfl) ?_
  refine V_aload_n (pc := 44) hG (dk dd_X2_readChanging 34 rfl) rfl ?_
  refine V_getR (pc := 45) hG (dk dd_X2_readChanging 35 rfl) fl_X2_15 sh_15 rfl ?_
  refine V_iconst (pc := 48) hG (dk dd_X2_readChanging 36 rfl) (v := 0) (by decide) ?_
  refine V_bipush (pc := 49) hG (dk dd_X2_readChanging 37 rfl) (v := 6) (by decide) ?_
  -- arraycopy
  refine V_acopy (pc := 51) hG (dk dd_X2_readChanging 38 rfl) ml_X2_64 sh_33 sh_17 n8 (by decide) (by decide) (by rw [s8]; show o + 8 + 6 ≤ 336; omega) (by decide) rfl ?_
  refine V_vretP (pc := 54) hG (dk dd_X2_readChanging 39 rfl) hR (Pv.mk ?_)
  rotate_left
  -- leaves: return@54
  · refine ⟨⟨fun i hi => ?_, fun y h h1 h2 h3 => ?_, fun y c h1 h2 h3 => ?_⟩, fun a ha => by simp (disch := omega) only [setc_n]⟩
    · unfold kac
      simp (disch := omega) only [setc_s, setc_n, Nat.add_zero, c0, c1, c2]
      rcases (show i = 0 ∨ i = 1 ∨ i = 2 ∨ i = 3 ∨ i = 4 ∨ i = 5 ∨ i = 6 ∨ i = 7 by omega) with rfl | rfl | rfl | rfl | rfl | rfl | rfl | rfl
      · rw [← hs.1 0 (by decide) (by decide) (by decide) (by decide)]; exact hA.1 0 (by decide)
      · rw [← hs.1 1 (by decide) (by decide) (by decide) (by decide)]; exact hA.1 1 (by decide)
      · rw [← hs.1 2 (by decide) (by decide) (by decide) (by decide)]; exact hA.1 2 (by decide)
      · exact b1
      · exact b2
      · exact b3
      · rw [← e6]; exact hA.1 6 (by decide)
      · rw [← e7]; exact hA.1 7 (by decide)
    · unfold kac
      rcases (show y = 1 ∨ y = 2 ∨ y = 3 by omega) with rfl | rfl | rfl
      · simp (disch := omega) only [setc_n]
        rw [← hs.2.1 1 h (Or.inl rfl) (by omega)]; exact hA.2.1 1 h (by decide) (by decide) (by omega)
      · simp (disch := omega) only [setc_s, setc_n, s8]
        rw [pk_cpy_in (by show 0 ≤ h; omega) (by show h < 0 + 6; omega)]; exact b5 h h3
      · simp (disch := omega) only [setc_n]
        rw [← hs.2.1 3 h (Or.inr rfl) (by omega)]; exact hA.2.1 3 h (by decide) (by decide) (by omega)
    · unfold kac
      rcases (show y = 4 ∨ y = 5 ∨ y = 6 ∨ y = 7 by omega) with rfl | rfl | rfl | rfl
      · simp (disch := omega) only [setc_n]
        rw [← hs.2.2 4 c (Or.inl rfl) (by omega)]; exact hA.2.2 4 c (by decide) (by decide) (by omega)
      · simp (disch := omega) only [setc_n]
        rw [← hs.2.2 5 c (Or.inr (Or.inl rfl)) (by omega)]; exact hA.2.2 5 c (by decide) (by decide) (by omega)
      · simp (disch := omega) only [setc_n]
        rw [← hs.2.2 6 c (Or.inr (Or.inr rfl)) (by omega)]; exact hA.2.2 6 c (by decide) (by decide) (by omega)
      · simp (disch := omega) only [setc_s, setc_n, s3]
        rw [pk_cpy_in (by show 0 ≤ c; omega) (by show c < 0 + 5; omega)]; exact b4 c h3
end
section
/-! ===== rows, tape: small methods ===== -/
theorem c_isRow {μ : Mem} {x : Int32} : CtP yX5_isRow cX5_isRow 2 (some .boolean) 0 [vR 1, vI x] μ (Pi (fun r μ' => μ' = μ ∧ is1 r (0 ≤ x ∧ x < 8))) := by
  refine CtP.go RX5 rfl pn_X5 (Nat.le_of_ble_eq_true rfl) (fun C hG hR => ?_)
  refine V_iload_n (pc := 0) hG (dk dd_X5_isRow 0 rfl) rfl ?_
  refine V_if_lt (pc := 1) hG (dk dd_X5_isRow 1 rfl) (tgt := 14) (by decide) (fun h1 => ?_) (fun h1 => ?_)
  refine V_iconst (pc := 14) hG (dk dd_X5_isRow 7 rfl) (v := 0) (by decide) ?_
  refine V_zretP (pc := 15) hG (dk dd_X5_isRow 8 rfl) (by decide) hR (Pi.mk ?_)
  rotate_left
  refine V_iload_n (pc := 4) hG (dk dd_X5_isRow 2 rfl) rfl ?_
  refine V_bipush (pc := 5) hG (dk dd_X5_isRow 3 rfl) (v := 8) (by decide) ?_
  refine V_icmp_ge (pc := 7) hG (dk dd_X5_isRow 4 rfl) (tgt := 14) (by decide) (fun h7 => ?_) (fun h7 => ?_)
  refine V_iconst (pc := 14) hG (dk dd_X5_isRow 7 rfl) (v := 0) (by decide) ?_
  refine V_zretP (pc := 15) hG (dk dd_X5_isRow 8 rfl) (by decide) hR (Pi.mk ?_)
  rotate_left
  refine V_iconst (pc := 10) hG (dk dd_X5_isRow 5 rfl) (v := 1) (by decide) ?_
  refine V_goto (pc := 11) hG (dk dd_X5_isRow 6 rfl) (tgt := 15) (by decide) ?_
  refine V_zretP (pc := 15) hG (dk dd_X5_isRow 8 rfl) (by decide) hR (Pi.mk ?_)
  rotate_left
  -- leaves: return@15; return@15; return@15
  · first | exact ⟨rfl, is1.t (by clear hG hR; grind)⟩ | exact ⟨rfl, is1.f (by clear hG hR; grind)⟩
  · first | exact ⟨rfl, is1.t (by clear hG hR; grind)⟩ | exact ⟨rfl, is1.f (by clear hG hR; grind)⟩
  · first | exact ⟨rfl, is1.t (by clear hG hR; grind)⟩ | exact ⟨rfl, is1.f (by clear hG hR; grind)⟩
theorem c_isLane {μ : Mem} {x : Int32} : CtP yX5_isLane cX5_isLane 2 (some .boolean) 0 [vR 1, vI x] μ (Pi (fun r μ' => μ' = μ ∧ is1 r (0 ≤ x ∧ x < 3))) := by
  refine CtP.go RX5 rfl pn_X5 (Nat.le_of_ble_eq_true rfl) (fun C hG hR => ?_)
  refine V_iload_n (pc := 0) hG (dk dd_X5_isLane 0 rfl) rfl ?_
  refine V_if_lt (pc := 1) hG (dk dd_X5_isLane 1 rfl) (tgt := 13) (by decide) (fun h1 => ?_) (fun h1 => ?_)
  refine V_iconst (pc := 13) hG (dk dd_X5_isLane 7 rfl) (v := 0) (by decide) ?_
  refine V_zretP (pc := 14) hG (dk dd_X5_isLane 8 rfl) (by decide) hR (Pi.mk ?_)
  rotate_left
  refine V_iload_n (pc := 4) hG (dk dd_X5_isLane 2 rfl) rfl ?_
  refine V_iconst (pc := 5) hG (dk dd_X5_isLane 3 rfl) (v := 3) (by decide) ?_
  refine V_icmp_ge (pc := 6) hG (dk dd_X5_isLane 4 rfl) (tgt := 13) (by decide) (fun h6 => ?_) (fun h6 => ?_)
  refine V_iconst (pc := 13) hG (dk dd_X5_isLane 7 rfl) (v := 0) (by decide) ?_
  refine V_zretP (pc := 14) hG (dk dd_X5_isLane 8 rfl) (by decide) hR (Pi.mk ?_)
  rotate_left
  refine V_iconst (pc := 9) hG (dk dd_X5_isLane 5 rfl) (v := 1) (by decide) ?_
  refine V_goto (pc := 10) hG (dk dd_X5_isLane 6 rfl) (tgt := 14) (by decide) ?_
  refine V_zretP (pc := 14) hG (dk dd_X5_isLane 8 rfl) (by decide) hR (Pi.mk ?_)
  rotate_left
  -- leaves: return@14; return@14; return@14
  · first | exact ⟨rfl, is1.t (by clear hG hR; grind)⟩ | exact ⟨rfl, is1.f (by clear hG hR; grind)⟩
  · first | exact ⟨rfl, is1.t (by clear hG hR; grind)⟩ | exact ⟨rfl, is1.f (by clear hG hR; grind)⟩
  · first | exact ⟨rfl, is1.t (by clear hG hR; grind)⟩ | exact ⟨rfl, is1.f (by clear hG hR; grind)⟩
theorem c_isMissing {μ : Mem} {x : Int32} {n : Nat} (hx : x = nI n) (hn : n < 8) : CtP yX5_isMissing cX5_isMissing 2 (some .boolean) 0 [vR 1, vI x] μ (Pi (fun r μ' => μ' = μ ∧ is1 r (μ 11 n = -1))) := by
  refine CtP.go RX5 rfl pn_X5 (Nat.le_of_ble_eq_true rfl) (fun C hG hR => ?_)
  have hr : vp_in x 8 := in_nI hx hn (by decide)
  have hc : x.toNatClampNeg = n := nI_cl hx (by omega)
  refine V_aload_n (pc := 0) hG (dk dd_X5_isMissing 0 rfl) rfl ?_
  refine V_getR (pc := 1) hG (dk dd_X5_isMissing 1 rfl) fl_X5_16 sh_1 rfl ?_
  refine V_iload_n (pc := 4) hG (dk dd_X5_isMissing 2 rfl) rfl ?_
  refine V_iald (pc := 5) hG (dk dd_X5_isMissing 3 rfl) sh_11 hr ?_
  refine V_iconst (pc := 6) hG (dk dd_X5_isMissing 4 rfl) (v := -1) (by decide) ?_
  refine V_icmp_ne (pc := 7) hG (dk dd_X5_isMissing 5 rfl) (tgt := 14) (by decide) (fun h7 => ?_) (fun h7 => ?_)
  refine V_iconst (pc := 14) hG (dk dd_X5_isMissing 8 rfl) (v := 0) (by decide) ?_
  refine V_zretP (pc := 15) hG (dk dd_X5_isMissing 9 rfl) (by decide) hR (Pi.mk ?_)
  rotate_left
  refine V_iconst (pc := 10) hG (dk dd_X5_isMissing 6 rfl) (v := 1) (by decide) ?_
  refine V_goto (pc := 11) hG (dk dd_X5_isMissing 7 rfl) (tgt := 15) (by decide) ?_
  refine V_zretP (pc := 15) hG (dk dd_X5_isMissing 9 rfl) (by decide) hR (Pi.mk ?_)
  rotate_left
  -- leaves: return@15; return@15
  · rw [hc] at h7; first | exact ⟨rfl, is1.t h7⟩ | exact ⟨rfl, is1.f h7⟩
  · rw [hc] at h7; first | exact ⟨rfl, is1.t h7⟩ | exact ⟨rfl, is1.f h7⟩
theorem c_areAlike {μ : Mem} {x y : Int32} {n m : Nat} (hx : x = nI n) (hn : n < 8) (hy : y = nI m) (hm : m < 8) : CtP yX5_areAlike cX5_areAlike 3 (some .boolean) 0 [vR 1, vI x, vI y] μ (Pi (fun r μ' => μ' = μ ∧ is1 r (μ 11 n = μ 11 m))) := by
  refine CtP.go RX5 rfl pn_X5 (Nat.le_of_ble_eq_true rfl) (fun C hG hR => ?_)
  have hr : vp_in x 8 := in_nI hx hn (by decide)
  have hc : x.toNatClampNeg = n := nI_cl hx (by omega)
  have hq : vp_in y 8 := in_nI hy hm (by decide)
  have hd : y.toNatClampNeg = m := nI_cl hy (by omega)
  refine V_aload_n (pc := 0) hG (dk dd_X5_areAlike 0 rfl) rfl ?_
  refine V_getR (pc := 1) hG (dk dd_X5_areAlike 1 rfl) fl_X5_16 sh_1 rfl ?_
  refine V_iload_n (pc := 4) hG (dk dd_X5_areAlike 2 rfl) rfl ?_
  refine V_iald (pc := 5) hG (dk dd_X5_areAlike 3 rfl) sh_11 hr ?_
  refine V_aload_n (pc := 6) hG (dk dd_X5_areAlike 4 rfl) rfl ?_
  refine V_getR (pc := 7) hG (dk dd_X5_areAlike 5 rfl) fl_X5_16 sh_1 rfl ?_
  refine V_iload_n (pc := 10) hG (dk dd_X5_areAlike 6 rfl) rfl ?_
  refine V_iald (pc := 11) hG (dk dd_X5_areAlike 7 rfl) sh_11 hq ?_
  refine V_icmp_ne (pc := 12) hG (dk dd_X5_areAlike 8 rfl) (tgt := 19) (by decide) (fun h12 => ?_) (fun h12 => ?_)
  refine V_iconst (pc := 19) hG (dk dd_X5_areAlike 11 rfl) (v := 0) (by decide) ?_
  refine V_zretP (pc := 20) hG (dk dd_X5_areAlike 12 rfl) (by decide) hR (Pi.mk ?_)
  rotate_left
  refine V_iconst (pc := 15) hG (dk dd_X5_areAlike 9 rfl) (v := 1) (by decide) ?_
  refine V_goto (pc := 16) hG (dk dd_X5_areAlike 10 rfl) (tgt := 20) (by decide) ?_
  refine V_zretP (pc := 20) hG (dk dd_X5_areAlike 12 rfl) (by decide) hR (Pi.mk ?_)
  rotate_left
  -- leaves: return@20; return@20
  · rw [hc, hd] at h12; first | exact ⟨rfl, is1.t h12⟩ | exact ⟨rfl, is1.f h12⟩
  · rw [hc, hd] at h12; first | exact ⟨rfl, is1.t h12⟩ | exact ⟨rfl, is1.f h12⟩
/-- what is found at a row: 1 missing, 2 no such place, 0 nothing -/
def lookN (μ : Mem) (n : Nat) (i k : Int32) : Int32 := if μ 11 n = -1 then 1 else if 0 ≤ i ∧ 0 ≤ k ∧ k ≤ μ 12 n ∧ i ≤ μ 12 n - k then 0 else 2
theorem c_lookedAt {μ : Mem} {x i k : Int32} {n : Nat} (hx : x = nI n) (hn : n < 8) : CtP yX5_lookedAt cX5_lookedAt 4 (some .int) 1 [vR 1, vI x, vI i, vI k] μ (Pi (fun r μ' => μ' = μ ∧ r = lookN μ n i k)) := by
  refine CtP.go RX5 rfl pn_X5 (Nat.le_of_ble_eq_true rfl) (fun C hG hR => ?_)
  have hr : vp_in x 8 := in_nI hx hn (by decide)
  have hc : x.toNatClampNeg = n := nI_cl hx (by omega)
  refine V_aload_n (pc := 0) hG (dk dd_X5_lookedAt 0 rfl) rfl ?_
  refine V_iload_n (pc := 1) hG (dk dd_X5_lookedAt 1 rfl) rfl ?_
  refine V_callVip (pc := 2) hG (dk dd_X5_lookedAt 2 rfl) ml_X5_23 mo_X5_isMissing sh_1 rfl (c_isMissing hx hn) (by decide) (by decide) rfl rfl rfl (fun x2 m2 p2 => ?_)
  refine V_if_eq (pc := 5) hG (dk dd_X5_lookedAt 3 rfl) (tgt := 10) (by decide) (fun h5 => ?_) (fun h5 => ?_)
  refine V_iload_n (pc := 10) hG (dk dd_X5_lookedAt 6 rfl) rfl ?_
  refine V_if_lt (pc := 11) hG (dk dd_X5_lookedAt 7 rfl) (tgt := 40) (by decide) (fun h11 => ?_) (fun h11 => ?_)
  refine V_iconst (pc := 40) hG (dk dd_X5_lookedAt 24 rfl) (v := 2) (by decide) ?_
  refine V_goto (pc := 41) hG (dk dd_X5_lookedAt 25 rfl) (tgt := 45) (by decide) ?_
  refine V_iretP (pc := 45) hG (dk dd_X5_lookedAt 27 rfl) hR (Pi.mk ?_)
  rotate_left
  refine V_iload_n (pc := 14) hG (dk dd_X5_lookedAt 8 rfl) rfl ?_
  refine V_if_lt (pc := 15) hG (dk dd_X5_lookedAt 9 rfl) (tgt := 40) (by decide) (fun h15 => ?_) (fun h15 => ?_)
  refine V_iconst (pc := 40) hG (dk dd_X5_lookedAt 24 rfl) (v := 2) (by decide) ?_
  refine V_goto (pc := 41) hG (dk dd_X5_lookedAt 25 rfl) (tgt := 45) (by decide) ?_
  refine V_iretP (pc := 45) hG (dk dd_X5_lookedAt 27 rfl) hR (Pi.mk ?_)
  rotate_left
  refine V_iload_n (pc := 18) hG (dk dd_X5_lookedAt 10 rfl) rfl ?_
  refine V_aload_n (pc := 19) hG (dk dd_X5_lookedAt 11 rfl) rfl ?_
  refine V_getR (pc := 20) hG (dk dd_X5_lookedAt 12 rfl) fl_X5_20 sh_1 rfl ?_
  refine V_iload_n (pc := 23) hG (dk dd_X5_lookedAt 13 rfl) rfl ?_
  refine V_iald (pc := 24) hG (dk dd_X5_lookedAt 14 rfl) sh_12 hr ?_
  refine V_icmp_gt (pc := 25) hG (dk dd_X5_lookedAt 15 rfl) (tgt := 40) (by decide) (fun h25 => ?_) (fun h25 => ?_)
  refine V_iconst (pc := 40) hG (dk dd_X5_lookedAt 24 rfl) (v := 2) (by decide) ?_
  refine V_goto (pc := 41) hG (dk dd_X5_lookedAt 25 rfl) (tgt := 45) (by decide) ?_
  refine V_iretP (pc := 45) hG (dk dd_X5_lookedAt 27 rfl) hR (Pi.mk ?_)
  rotate_left
  refine V_iload_n (pc := 28) hG (dk dd_X5_lookedAt 16 rfl) rfl ?_
  refine V_aload_n (pc := 29) hG (dk dd_X5_lookedAt 17 rfl) rfl ?_
  refine V_getR (pc := 30) hG (dk dd_X5_lookedAt 18 rfl) fl_X5_20 sh_1 rfl ?_
  refine V_iload_n (pc := 33) hG (dk dd_X5_lookedAt 19 rfl) rfl ?_
  refine V_iald (pc := 34) hG (dk dd_X5_lookedAt 20 rfl) sh_12 hr ?_
  refine V_iload_n (pc := 35) hG (dk dd_X5_lookedAt 21 rfl) rfl ?_
  refine V_isub (pc := 36) hG (dk dd_X5_lookedAt 22 rfl) ?_
  refine V_icmp_le (pc := 37) hG (dk dd_X5_lookedAt 23 rfl) (tgt := 44) (by decide) (fun h37 => ?_) (fun h37 => ?_)
  refine V_iconst (pc := 44) hG (dk dd_X5_lookedAt 26 rfl) (v := 0) (by decide) ?_
  refine V_iretP (pc := 45) hG (dk dd_X5_lookedAt 27 rfl) hR (Pi.mk ?_)
  rotate_left
  refine V_iconst (pc := 40) hG (dk dd_X5_lookedAt 24 rfl) (v := 2) (by decide) ?_
  refine V_goto (pc := 41) hG (dk dd_X5_lookedAt 25 rfl) (tgt := 45) (by decide) ?_
  refine V_iretP (pc := 45) hG (dk dd_X5_lookedAt 27 rfl) hR (Pi.mk ?_)
  rotate_left
  refine V_iconst (pc := 8) hG (dk dd_X5_lookedAt 4 rfl) (v := 1) (by decide) ?_
  refine V_iretP (pc := 9) hG (dk dd_X5_lookedAt 5 rfl) hR (Pi.mk ?_)
  rotate_left
  -- leaves: return@45; return@45; return@45; return@45; return@45; return@9
  · obtain ⟨rfl, p2⟩ := p2; have q := p2.no h5; refine ⟨rfl, ?_⟩; unfold lookN; clear hG hR; grind
  · obtain ⟨rfl, p2⟩ := p2; have q := p2.no h5; refine ⟨rfl, ?_⟩; unfold lookN; clear hG hR; grind
  · obtain ⟨rfl, p2⟩ := p2; have q := p2.no h5; refine ⟨rfl, ?_⟩; unfold lookN; rw [hc] at h25; clear hG hR; grind
  · obtain ⟨rfl, p2⟩ := p2; have q := p2.no h5; refine ⟨rfl, ?_⟩; unfold lookN; rw [hc] at h25 h37; clear hG hR; grind
  · obtain ⟨rfl, p2⟩ := p2; have q := p2.no h5; refine ⟨rfl, ?_⟩; unfold lookN; rw [hc] at h25 h37; clear hG hR; grind
  · obtain ⟨rfl, p2⟩ := p2; exact ⟨rfl, (if_pos (p2.yes h5)).symm⟩
theorem c_isFull {μ : Mem} : CtP yX6_isFull cX6_isFull 1 (some .boolean) 0 [vR 13] μ (Pi (fun r μ' => μ' = μ ∧ is1 r (120 ≤ μ 13 1))) := by
  refine CtP.go RX6 rfl pn_X6 (Nat.le_of_ble_eq_true rfl) (fun C hG hR => ?_)
  refine V_aload_n (pc := 0) hG (dk dd_X6_isFull 0 rfl) rfl ?_
  refine V_getI (pc := 1) hG (dk dd_X6_isFull 1 rfl) fl_X6_13 sh_13 rfl ?_
  refine V_bipush (pc := 4) hG (dk dd_X6_isFull 2 rfl) (v := 120) (by decide) ?_
  refine V_icmp_lt (pc := 6) hG (dk dd_X6_isFull 3 rfl) (tgt := 13) (by decide) (fun h6 => ?_) (fun h6 => ?_)
  refine V_iconst (pc := 13) hG (dk dd_X6_isFull 6 rfl) (v := 0) (by decide) ?_
  refine V_zretP (pc := 14) hG (dk dd_X6_isFull 7 rfl) (by decide) hR (Pi.mk ?_)
  rotate_left
  refine V_iconst (pc := 9) hG (dk dd_X6_isFull 4 rfl) (v := 1) (by decide) ?_
  refine V_goto (pc := 10) hG (dk dd_X6_isFull 5 rfl) (tgt := 14) (by decide) ?_
  refine V_zretP (pc := 14) hG (dk dd_X6_isFull 7 rfl) (by decide) hR (Pi.mk ?_)
  rotate_left
  -- leaves: return@14; return@14
  · first | exact ⟨rfl, is1.t (by clear hG hR; grind)⟩ | exact ⟨rfl, is1.f (by clear hG hR; grind)⟩
  · first | exact ⟨rfl, is1.t (by clear hG hR; grind)⟩ | exact ⟨rfl, is1.f (by clear hG hR; grind)⟩
theorem c_found {μ : Mem} {x : Int32} : CtP yX9_found cX9_found 2 (some .int) 0 [vR 0, vI x] μ (Pi (fun r μ' => μ' = setc μ 0 (upd (μ 0) 12 x) ∧ r = -1000010 - x)) := by
  refine CtP.go RX9 rfl pn_X9 (Nat.le_of_ble_eq_true rfl) (fun C hG hR => ?_)
  refine V_aload_n (pc := 0) hG (dk dd_X9_found 0 rfl) rfl ?_
  refine V_iload_n (pc := 1) hG (dk dd_X9_found 1 rfl) rfl ?_
  refine V_putI (pc := 2) hG (dk dd_X9_found 2 rfl) fl_X9_371 sh_0 rfl rfl ?_
  refine V_ldc_w (pc := 5) hG (dk dd_X9_found 3 rfl) kk_X9_374 ?_
  refine V_iload_n (pc := 8) hG (dk dd_X9_found 4 rfl) rfl ?_
  refine V_isub (pc := 9) hG (dk dd_X9_found 5 rfl) ?_
  refine V_iretP (pc := 10) hG (dk dd_X9_found 6 rfl) hR (Pi.mk ?_)
  rotate_left
  -- leaves: return@10
  · exact ⟨rfl, rfl⟩
theorem c_fine {μ : Mem} {x : Int32} : CtP yX9_fine cX9_fine 2 (some .int) 0 [vR 0, vI x] μ (Pi (fun r μ' => μ' = setc μ 0 (upd (μ 0) 12 0) ∧ r = x)) := by
  refine CtP.go RX9 rfl pn_X9 (Nat.le_of_ble_eq_true rfl) (fun C hG hR => ?_)
  refine V_aload_n (pc := 0) hG (dk dd_X9_fine 0 rfl) rfl ?_
  refine V_iconst (pc := 1) hG (dk dd_X9_fine 1 rfl) (v := 0) (by decide) ?_
  refine V_putI (pc := 2) hG (dk dd_X9_fine 2 rfl) fl_X9_371 sh_0 rfl rfl ?_
  refine V_iload_n (pc := 5) hG (dk dd_X9_fine 3 rfl) rfl ?_
  refine V_iretP (pc := 6) hG (dk dd_X9_fine 4 rfl) hR (Pi.mk ?_)
  rotate_left
  -- leaves: return@6
  · exact ⟨rfl, rfl⟩
theorem c_isToldLength {μ : Mem} {x : Int32} : CtP yX9_isToldLength cX9_isToldLength 1 (some .boolean) 0 [vI x] μ (Pi (fun r μ' => μ' = μ ∧ is1 r (1 ≤ x ∧ x ≤ 12))) := by
  refine CtP.go RX9 rfl pn_X9 (Nat.le_of_ble_eq_true rfl) (fun C hG hR => ?_)
  refine V_iload_n (pc := 0) hG (dk dd_X9_isToldLength 0 rfl) rfl ?_
  refine V_iconst (pc := 1) hG (dk dd_X9_isToldLength 1 rfl) (v := 1) (by decide) ?_
  refine V_icmp_lt (pc := 2) hG (dk dd_X9_isToldLength 2 rfl) (tgt := 15) (by decide) (fun h2 => ?_) (fun h2 => ?_)
  refine V_iconst (pc := 15) hG (dk dd_X9_isToldLength 8 rfl) (v := 0) (by decide) ?_
  refine V_zretP (pc := 16) hG (dk dd_X9_isToldLength 9 rfl) (by decide) hR (Pi.mk ?_)
  rotate_left
  refine V_iload_n (pc := 5) hG (dk dd_X9_isToldLength 3 rfl) rfl ?_
  refine V_bipush (pc := 6) hG (dk dd_X9_isToldLength 4 rfl) (v := 12) (by decide) ?_
  refine V_icmp_gt (pc := 8) hG (dk dd_X9_isToldLength 5 rfl) (tgt := 15) (by decide) (fun h8 => ?_) (fun h8 => ?_)
  refine V_iconst (pc := 15) hG (dk dd_X9_isToldLength 8 rfl) (v := 0) (by decide) ?_
  refine V_zretP (pc := 16) hG (dk dd_X9_isToldLength 9 rfl) (by decide) hR (Pi.mk ?_)
  rotate_left
  refine V_iconst (pc := 11) hG (dk dd_X9_isToldLength 6 rfl) (v := 1) (by decide) ?_
  refine V_goto (pc := 12) hG (dk dd_X9_isToldLength 7 rfl) (tgt := 16) (by decide) ?_
  refine V_zretP (pc := 16) hG (dk dd_X9_isToldLength 9 rfl) (by decide) hR (Pi.mk ?_)
  rotate_left
  -- leaves: return@16; return@16; return@16
  · first | exact ⟨rfl, is1.t (by clear hG hR; grind)⟩ | exact ⟨rfl, is1.f (by clear hG hR; grind)⟩
  · first | exact ⟨rfl, is1.t (by clear hG hR; grind)⟩ | exact ⟨rfl, is1.f (by clear hG hR; grind)⟩
  · first | exact ⟨rfl, is1.t (by clear hG hR; grind)⟩ | exact ⟨rfl, is1.f (by clear hG hR; grind)⟩
theorem c_isBehind {μ : Mem} {x : Int32} : CtP yX9_isBehind cX9_isBehind 1 (some .boolean) 0 [vI x] μ (Pi (fun r μ' => μ' = μ ∧ is1 r (0 ≤ x ∧ x ≤ 8))) := by
  refine CtP.go RX9 rfl pn_X9 (Nat.le_of_ble_eq_true rfl) (fun C hG hR => ?_)
  refine V_iload_n (pc := 0) hG (dk dd_X9_isBehind 0 rfl) rfl ?_
  refine V_if_lt (pc := 1) hG (dk dd_X9_isBehind 1 rfl) (tgt := 14) (by decide) (fun h1 => ?_) (fun h1 => ?_)
  refine V_iconst (pc := 14) hG (dk dd_X9_isBehind 7 rfl) (v := 0) (by decide) ?_
  refine V_zretP (pc := 15) hG (dk dd_X9_isBehind 8 rfl) (by decide) hR (Pi.mk ?_)
  rotate_left
  refine V_iload_n (pc := 4) hG (dk dd_X9_isBehind 2 rfl) rfl ?_
  refine V_bipush (pc := 5) hG (dk dd_X9_isBehind 3 rfl) (v := 8) (by decide) ?_
  refine V_icmp_gt (pc := 7) hG (dk dd_X9_isBehind 4 rfl) (tgt := 14) (by decide) (fun h7 => ?_) (fun h7 => ?_)
  refine V_iconst (pc := 14) hG (dk dd_X9_isBehind 7 rfl) (v := 0) (by decide) ?_
  refine V_zretP (pc := 15) hG (dk dd_X9_isBehind 8 rfl) (by decide) hR (Pi.mk ?_)
  rotate_left
  refine V_iconst (pc := 10) hG (dk dd_X9_isBehind 5 rfl) (v := 1) (by decide) ?_
  refine V_goto (pc := 11) hG (dk dd_X9_isBehind 6 rfl) (tgt := 15) (by decide) ?_
  refine V_zretP (pc := 15) hG (dk dd_X9_isBehind 8 rfl) (by decide) hR (Pi.mk ?_)
  rotate_left
  -- leaves: return@15; return@15; return@15
  · first | exact ⟨rfl, is1.t (by clear hG hR; grind)⟩ | exact ⟨rfl, is1.f (by clear hG hR; grind)⟩
  · first | exact ⟨rfl, is1.t (by clear hG hR; grind)⟩ | exact ⟨rfl, is1.f (by clear hG hR; grind)⟩
  · first | exact ⟨rfl, is1.t (by clear hG hR; grind)⟩ | exact ⟨rfl, is1.f (by clear hG hR; grind)⟩
theorem c_isOneOfTwo {μ : Mem} {x : Int32} : CtP yX9_isOneOfTwo cX9_isOneOfTwo 1 (some .boolean) 0 [vI x] μ (Pi (fun r μ' => μ' = μ ∧ is1 r (x = 0 ∨ x = 1))) := by
  refine CtP.go RX9 rfl pn_X9 (Nat.le_of_ble_eq_true rfl) (fun C hG hR => ?_)
  refine V_iload_n (pc := 0) hG (dk dd_X9_isOneOfTwo 0 rfl) rfl ?_
  refine V_if_eq (pc := 1) hG (dk dd_X9_isOneOfTwo 1 rfl) (tgt := 9) (by decide) (fun h1 => ?_) (fun h1 => ?_)
  refine V_iconst (pc := 9) hG (dk dd_X9_isOneOfTwo 5 rfl) (v := 1) (by decide) ?_
  refine V_goto (pc := 10) hG (dk dd_X9_isOneOfTwo 6 rfl) (tgt := 14) (by decide) ?_
  refine V_zretP (pc := 14) hG (dk dd_X9_isOneOfTwo 8 rfl) (by decide) hR (Pi.mk ?_)
  rotate_left
  refine V_iload_n (pc := 4) hG (dk dd_X9_isOneOfTwo 2 rfl) rfl ?_
  refine V_iconst (pc := 5) hG (dk dd_X9_isOneOfTwo 3 rfl) (v := 1) (by decide) ?_
  refine V_icmp_ne (pc := 6) hG (dk dd_X9_isOneOfTwo 4 rfl) (tgt := 13) (by decide) (fun h6 => ?_) (fun h6 => ?_)
  refine V_iconst (pc := 13) hG (dk dd_X9_isOneOfTwo 7 rfl) (v := 0) (by decide) ?_
  refine V_zretP (pc := 14) hG (dk dd_X9_isOneOfTwo 8 rfl) (by decide) hR (Pi.mk ?_)
  rotate_left
  refine V_iconst (pc := 9) hG (dk dd_X9_isOneOfTwo 5 rfl) (v := 1) (by decide) ?_
  refine V_goto (pc := 10) hG (dk dd_X9_isOneOfTwo 6 rfl) (tgt := 14) (by decide) ?_
  refine V_zretP (pc := 14) hG (dk dd_X9_isOneOfTwo 8 rfl) (by decide) hR (Pi.mk ?_)
  rotate_left
  -- leaves: return@14; return@14; return@14
  · first | exact ⟨rfl, is1.t (by clear hG hR; grind)⟩ | exact ⟨rfl, is1.f (by clear hG hR; grind)⟩
  · first | exact ⟨rfl, is1.t (by clear hG hR; grind)⟩ | exact ⟨rfl, is1.f (by clear hG hR; grind)⟩
  · first | exact ⟨rfl, is1.t (by clear hG hR; grind)⟩ | exact ⟨rfl, is1.f (by clear hG hR; grind)⟩
theorem c_isImage {μ : Mem} {x : Int32} : CtP yX9_isImage cX9_isImage 1 (some .boolean) 0 [vI x] μ (Pi (fun r μ' => μ' = μ ∧ is1 r (0 ≤ x ∧ x < 2))) := by
  refine CtP.go RX9 rfl pn_X9 (Nat.le_of_ble_eq_true rfl) (fun C hG hR => ?_)
  refine V_iload_n (pc := 0) hG (dk dd_X9_isImage 0 rfl) rfl ?_
  refine V_if_lt (pc := 1) hG (dk dd_X9_isImage 1 rfl) (tgt := 13) (by decide) (fun h1 => ?_) (fun h1 => ?_)
  refine V_iconst (pc := 13) hG (dk dd_X9_isImage 7 rfl) (v := 0) (by decide) ?_
  refine V_zretP (pc := 14) hG (dk dd_X9_isImage 8 rfl) (by decide) hR (Pi.mk ?_)
  rotate_left
  refine V_iload_n (pc := 4) hG (dk dd_X9_isImage 2 rfl) rfl ?_
  refine V_iconst (pc := 5) hG (dk dd_X9_isImage 3 rfl) (v := 2) (by decide) ?_
  refine V_icmp_ge (pc := 6) hG (dk dd_X9_isImage 4 rfl) (tgt := 13) (by decide) (fun h6 => ?_) (fun h6 => ?_)
  refine V_iconst (pc := 13) hG (dk dd_X9_isImage 7 rfl) (v := 0) (by decide) ?_
  refine V_zretP (pc := 14) hG (dk dd_X9_isImage 8 rfl) (by decide) hR (Pi.mk ?_)
  rotate_left
  refine V_iconst (pc := 9) hG (dk dd_X9_isImage 5 rfl) (v := 1) (by decide) ?_
  refine V_goto (pc := 10) hG (dk dd_X9_isImage 6 rfl) (tgt := 14) (by decide) ?_
  refine V_zretP (pc := 14) hG (dk dd_X9_isImage 8 rfl) (by decide) hR (Pi.mk ?_)
  rotate_left
  -- leaves: return@14; return@14; return@14
  · first | exact ⟨rfl, is1.t (by clear hG hR; grind)⟩ | exact ⟨rfl, is1.f (by clear hG hR; grind)⟩
  · first | exact ⟨rfl, is1.t (by clear hG hR; grind)⟩ | exact ⟨rfl, is1.f (by clear hG hR; grind)⟩
  · first | exact ⟨rfl, is1.t (by clear hG hR; grind)⟩ | exact ⟨rfl, is1.f (by clear hG hR; grind)⟩
theorem c_kindAbove {μ : Mem} {x : Int32} : CtP yX9_kindAbove cX9_kindAbove 1 (some .int) 0 [vI x] μ (Pi (fun r μ' => μ' = μ ∧ r = (if x = 2 ∨ x = 3 then 1 else if x = 5 then 4 else 0))) := by
  refine CtP.go RX9 rfl pn_X9 (Nat.le_of_ble_eq_true rfl) (fun C hG hR => ?_)
  refine V_iload_n (pc := 0) hG (dk dd_X9_kindAbove 0 rfl) rfl ?_
  refine V_tsw (pc := 1) hG (dk dd_X9_kindAbove 1 rfl) (cs := [(2, 32), (3, 34), (4, 38), (5, 36)]) (td := 38) (by decide +kernel) ?_
  refine And.intro (fun h1_2 => ?_) (fun h1_2 => ?_)
  refine V_iconst (pc := 32) hG (dk dd_X9_kindAbove 2 rfl) (v := 1) (by decide) ?_
  refine V_iretP (pc := 33) hG (dk dd_X9_kindAbove 3 rfl) hR (Pi.mk ?_)
  rotate_left
  refine And.intro (fun h1_3 => ?_) (fun h1_3 => ?_)
  refine V_iconst (pc := 34) hG (dk dd_X9_kindAbove 4 rfl) (v := 1) (by decide) ?_
  refine V_iretP (pc := 35) hG (dk dd_X9_kindAbove 5 rfl) hR (Pi.mk ?_)
  rotate_left
  refine And.intro (fun h1_4 => ?_) (fun h1_4 => ?_)
  refine V_iconst (pc := 38) hG (dk dd_X9_kindAbove 8 rfl) (v := 0) (by decide) ?_
  refine V_iretP (pc := 39) hG (dk dd_X9_kindAbove 9 rfl) hR (Pi.mk ?_)
  rotate_left
  refine And.intro (fun h1_5 => ?_) (fun h1_5 => ?_)
  refine V_iconst (pc := 36) hG (dk dd_X9_kindAbove 6 rfl) (v := 4) (by decide) ?_
  refine V_iretP (pc := 37) hG (dk dd_X9_kindAbove 7 rfl) hR (Pi.mk ?_)
  rotate_left
  show V _ _ _ _ _
  refine V_iconst (pc := 38) hG (dk dd_X9_kindAbove 8 rfl) (v := 0) (by decide) ?_
  refine V_iretP (pc := 39) hG (dk dd_X9_kindAbove 9 rfl) hR (Pi.mk ?_)
  rotate_left
  -- leaves: return@33; return@35; return@39; return@37; return@39
  · exact ⟨rfl, by clear hG hR; grind⟩
  · exact ⟨rfl, by clear hG hR; grind⟩
  · exact ⟨rfl, by clear hG hR; grind⟩
  · exact ⟨rfl, by clear hG hR; grind⟩
  · exact ⟨rfl, by clear hG hR; grind⟩
theorem c_isAlso {μ : Mem} {k w : Int32} : CtP yX9_isAlso cX9_isAlso 2 (some .boolean) 1 [vI k, vI w] μ (Pi (fun r μ' => μ' = μ ∧ is1 r (w = 0 ∨ w = k ∨ w = (if k = 2 ∨ k = 3 then 1 else if k = 5 then 4 else 0)))) := by
  refine CtP.go RX9 rfl pn_X9 (Nat.le_of_ble_eq_true rfl) (fun C hG hR => ?_)
  refine V_iload_n (pc := 0) hG (dk dd_X9_isAlso 0 rfl) rfl ?_
  refine V_if_eq (pc := 1) hG (dk dd_X9_isAlso 1 rfl) (tgt := 17) (by decide) (fun h1 => ?_) (fun h1 => ?_)
  refine V_iconst (pc := 17) hG (dk dd_X9_isAlso 9 rfl) (v := 1) (by decide) ?_
  refine V_goto (pc := 18) hG (dk dd_X9_isAlso 10 rfl) (tgt := 22) (by decide) ?_
  refine V_zretP (pc := 22) hG (dk dd_X9_isAlso 12 rfl) (by decide) hR (Pi.mk ?_)
  rotate_left
  refine V_iload_n (pc := 4) hG (dk dd_X9_isAlso 2 rfl) rfl ?_
  refine V_iload_n (pc := 5) hG (dk dd_X9_isAlso 3 rfl) rfl ?_
  refine V_icmp_eq (pc := 6) hG (dk dd_X9_isAlso 4 rfl) (tgt := 17) (by decide) (fun h6 => ?_) (fun h6 => ?_)
  refine V_iconst (pc := 17) hG (dk dd_X9_isAlso 9 rfl) (v := 1) (by decide) ?_
  refine V_goto (pc := 18) hG (dk dd_X9_isAlso 10 rfl) (tgt := 22) (by decide) ?_
  refine V_zretP (pc := 22) hG (dk dd_X9_isAlso 12 rfl) (by decide) hR (Pi.mk ?_)
  rotate_left
  refine V_iload_n (pc := 9) hG (dk dd_X9_isAlso 5 rfl) rfl ?_
  refine V_iload_n (pc := 10) hG (dk dd_X9_isAlso 6 rfl) rfl ?_
  refine V_callSip (pc := 11) hG (dk dd_X9_isAlso 7 rfl) ml_X9_378 mo_X9_kindAbove c_kindAbove (by decide) (by decide) rfl rfl rfl (fun x11 m11 p11 => ?_)
  refine V_icmp_ne (pc := 14) hG (dk dd_X9_isAlso 8 rfl) (tgt := 21) (by decide) (fun h14 => ?_) (fun h14 => ?_)
  refine V_iconst (pc := 21) hG (dk dd_X9_isAlso 11 rfl) (v := 0) (by decide) ?_
  refine V_zretP (pc := 22) hG (dk dd_X9_isAlso 12 rfl) (by decide) hR (Pi.mk ?_)
  rotate_left
  refine V_iconst (pc := 17) hG (dk dd_X9_isAlso 9 rfl) (v := 1) (by decide) ?_
  refine V_goto (pc := 18) hG (dk dd_X9_isAlso 10 rfl) (tgt := 22) (by decide) ?_
  refine V_zretP (pc := 22) hG (dk dd_X9_isAlso 12 rfl) (by decide) hR (Pi.mk ?_)
  rotate_left
  -- leaves: return@22; return@22; return@22; return@22
  · exact ⟨rfl, is1.t (Or.inl h1)⟩
  · exact ⟨rfl, is1.t (Or.inr (Or.inl h6))⟩
  · obtain ⟨rfl, rfl⟩ := p11; exact ⟨rfl, is1.f (fun q => q.elim h1 (fun q => q.elim h6 h14))⟩
  · obtain ⟨rfl, rfl⟩ := p11; exact ⟨rfl, is1.t (Or.inr (Or.inr h14))⟩
end
section
/-! ===== rows: items; tape; acts ===== -/
theorem itS {n : Nat} (h : n < 8) : Sh[3 + n]? = some (.inr (0, 40, [])) := by
  rcases (show n = 0 ∨ n = 1 ∨ n = 2 ∨ n = 3 ∨ n = 4 ∨ n = 5 ∨ n = 6 ∨ n = 7 by omega) with rfl | rfl | rfl | rfl | rfl | rfl | rfl | rfl <;> rfl
theorem rs8 {x : Int32} {n : Nat} (hx : x.toNatClampNeg = n) (h : n < 8) : [3, 4, 5, 6, 7, 8, 9, 10][x.toNatClampNeg]? = some (3 + n) := by
  rw [hx]
  rcases (show n = 0 ∨ n = 1 ∨ n = 2 ∨ n = 3 ∨ n = 4 ∨ n = 5 ∨ n = 6 ∨ n = 7 by omega) with rfl | rfl | rfl | rfl | rfl | rfl | rfl | rfl <;> rfl
/-- a number as a lane keeps it -/
def lanV (l v : Int32) : Int32 := if l = 0 then v.toInt8.toInt32 else if l = 1 then v.toInt16.toInt32 else v
theorem c_make {μ : Mem} {x l k : Int32} {n : Nat} (hx : x = nI n) (hn : n < 8) : CtP yX5_make cX5_make 4 none 1 [vR 1, vI x, vI l, vI k] μ (Pv (fun μ' => ∃ f, μ' = setc (setc (setc μ (3 + n) f) 11 (upd (μ 11) n l)) 12 (upd (μ 12) n k) ∧ ∀ i, i < 40 → f i = 0)) := by
  refine CtP.go RX5 rfl pn_X5 (Nat.le_of_ble_eq_true rfl) (fun C hG hR => ?_)
  have hr : vp_in x 8 := in_nI hx hn (by decide)
  have hc : x.toNatClampNeg = n := nI_cl hx (by omega)
  refine V_aload_n (pc := 0) hG (dk dd_X5_make 0 rfl) rfl ?_
  refine V_getR (pc := 1) hG (dk dd_X5_make 1 rfl) fl_X5_13 sh_1 rfl ?_
  refine V_iload_n (pc := 4) hG (dk dd_X5_make 2 rfl) rfl ?_
  refine V_ald3 (pc := 5) hG (dk dd_X5_make 3 rfl) sh_2 hr (rs8 hc hn) ?_
  refine V_iconst (pc := 6) hG (dk dd_X5_make 4 rfl) (v := 0) (by decide) ?_
  refine V_callSvp (pc := 7) hG (dk dd_X5_make 5 rfl) ml_X5_27 mo_J7_fill_53178 (c_fill (itS hn) (by decide)) (by decide) (by decide) rfl rfl rfl (fun m7 p7 => ?_)
  refine V_aload_n (pc := 10) hG (dk dd_X5_make 6 rfl) rfl ?_
  refine V_getR (pc := 11) hG (dk dd_X5_make 7 rfl) fl_X5_16 sh_1 rfl ?_
  refine V_iload_n (pc := 14) hG (dk dd_X5_make 8 rfl) rfl ?_
  refine V_iload_n (pc := 15) hG (dk dd_X5_make 9 rfl) rfl ?_
  refine V_iast (pc := 16) hG (dk dd_X5_make 10 rfl) sh_11 hr ?_
  refine V_aload_n (pc := 17) hG (dk dd_X5_make 11 rfl) rfl ?_
  refine V_getR (pc := 18) hG (dk dd_X5_make 12 rfl) fl_X5_20 sh_1 rfl ?_
  refine V_iload_n (pc := 21) hG (dk dd_X5_make 13 rfl) rfl ?_
  refine V_iload_n (pc := 22) hG (dk dd_X5_make 14 rfl) rfl ?_
  refine V_iast (pc := 23) hG (dk dd_X5_make 15 rfl) sh_12 hr ?_
  refine V_vretP (pc := 24) hG (dk dd_X5_make 16 rfl) hR (Pv.mk ?_)
  rotate_left
  -- leaves: return@24
  · obtain ⟨f, rfl, hf⟩ := p7; refine ⟨f, ?_, hf⟩; simp (disch := omega) only [setc_n, hc]
theorem c_put {μ : Mem} {x i v : Int32} {n k : Nat} (hx : x = nI n) (hn : n < 8) (hi : i = nI k) (hk : k < 40) : CtP yX5_put cX5_put 4 (some .int) 1 [vR 1, vI x, vI i, vI v] μ (Pi (fun r μ' => μ' = setc μ (3 + n) (upd (μ (3 + n)) k (lanV (μ 11 n) v)) ∧ r = lanV (μ 11 n) v)) := by
  refine CtP.go RX5 rfl pn_X5 (Nat.le_of_ble_eq_true rfl) (fun C hG hR => ?_)
  have hr : vp_in x 8 := in_nI hx hn (by decide)
  have hc : x.toNatClampNeg = n := nI_cl hx (by omega)
  have hi2 : vp_in i 40 := in_nI hi hk (by decide)
  have hd : i.toNatClampNeg = k := nI_cl hi (by omega)
  refine V_aload_n (pc := 0) hG (dk dd_X5_put 0 rfl) rfl ?_
  refine V_getR (pc := 1) hG (dk dd_X5_put 1 rfl) fl_X5_13 sh_1 rfl ?_
  refine V_iload_n (pc := 4) hG (dk dd_X5_put 2 rfl) rfl ?_
  refine V_ald3 (pc := 5) hG (dk dd_X5_put 3 rfl) sh_2 hr (rs8 hc hn) ?_
  refine V_iload_n (pc := 6) hG (dk dd_X5_put 4 rfl) rfl ?_
  refine V_aload_n (pc := 7) hG (dk dd_X5_put 5 rfl) rfl ?_
  refine V_getR (pc := 8) hG (dk dd_X5_put 6 rfl) fl_X5_16 sh_1 rfl ?_
  refine V_iload_n (pc := 11) hG (dk dd_X5_put 7 rfl) rfl ?_
  refine V_iald (pc := 12) hG (dk dd_X5_put 8 rfl) sh_11 hr ?_
  refine V_if_ne (pc := 13) hG (dk dd_X5_put 9 rfl) (tgt := 21) (by decide) (fun h13 => ?_) (fun h13 => ?_)
  refine V_aload_n (pc := 21) hG (dk dd_X5_put 13 rfl) rfl ?_
  refine V_getR (pc := 22) hG (dk dd_X5_put 14 rfl) fl_X5_16 sh_1 rfl ?_
  refine V_iload_n (pc := 25) hG (dk dd_X5_put 15 rfl) rfl ?_
  refine V_iald (pc := 26) hG (dk dd_X5_put 16 rfl) sh_11 hr ?_
  refine V_iconst (pc := 27) hG (dk dd_X5_put 17 rfl) (v := 1) (by decide) ?_
  refine V_icmp_ne (pc := 28) hG (dk dd_X5_put 18 rfl) (tgt := 36) (by decide) (fun h28 => ?_) (fun h28 => ?_)
  refine V_iload_n (pc := 36) hG (dk dd_X5_put 22 rfl) rfl ?_
  refine V_iast (pc := 37) hG (dk dd_X5_put 23 rfl) (itS hn) hi2 ?_
  refine V_aload_n (pc := 38) hG (dk dd_X5_put 24 rfl) rfl ?_
  refine V_getR (pc := 39) hG (dk dd_X5_put 25 rfl) fl_X5_13 sh_1 rfl ?_
  refine V_iload_n (pc := 42) hG (dk dd_X5_put 26 rfl) rfl ?_
  refine V_ald3 (pc := 43) hG (dk dd_X5_put 27 rfl) sh_2 hr (rs8 hc hn) ?_
  refine V_iload_n (pc := 44) hG (dk dd_X5_put 28 rfl) rfl ?_
  refine V_iald (pc := 45) hG (dk dd_X5_put 29 rfl) (itS hn) hi2 ?_
  refine V_iretP (pc := 46) hG (dk dd_X5_put 30 rfl) hR (Pi.mk ?_)
  rotate_left
  refine V_iload_n (pc := 31) hG (dk dd_X5_put 19 rfl) rfl ?_
  refine V_i2s (pc := 32) hG (dk dd_X5_put 20 rfl) ?_
  refine V_goto (pc := 33) hG (dk dd_X5_put 21 rfl) (tgt := 37) (by decide) ?_
  refine V_iast (pc := 37) hG (dk dd_X5_put 23 rfl) (itS hn) hi2 ?_
  refine V_aload_n (pc := 38) hG (dk dd_X5_put 24 rfl) rfl ?_
  refine V_getR (pc := 39) hG (dk dd_X5_put 25 rfl) fl_X5_13 sh_1 rfl ?_
  refine V_iload_n (pc := 42) hG (dk dd_X5_put 26 rfl) rfl ?_
  refine V_ald3 (pc := 43) hG (dk dd_X5_put 27 rfl) sh_2 hr (rs8 hc hn) ?_
  refine V_iload_n (pc := 44) hG (dk dd_X5_put 28 rfl) rfl ?_
  refine V_iald (pc := 45) hG (dk dd_X5_put 29 rfl) (itS hn) hi2 ?_
  refine V_iretP (pc := 46) hG (dk dd_X5_put 30 rfl) hR (Pi.mk ?_)
  rotate_left
  refine V_iload_n (pc := 16) hG (dk dd_X5_put 10 rfl) rfl ?_
  refine V_i2b (pc := 17) hG (dk dd_X5_put 11 rfl) ?_
  refine V_goto (pc := 18) hG (dk dd_X5_put 12 rfl) (tgt := 37) (by decide) ?_
  refine V_iast (pc := 37) hG (dk dd_X5_put 23 rfl) (itS hn) hi2 ?_
  refine V_aload_n (pc := 38) hG (dk dd_X5_put 24 rfl) rfl ?_
  refine V_getR (pc := 39) hG (dk dd_X5_put 25 rfl) fl_X5_13 sh_1 rfl ?_
  refine V_iload_n (pc := 42) hG (dk dd_X5_put 26 rfl) rfl ?_
  refine V_ald3 (pc := 43) hG (dk dd_X5_put 27 rfl) sh_2 hr (rs8 hc hn) ?_
  refine V_iload_n (pc := 44) hG (dk dd_X5_put 28 rfl) rfl ?_
  refine V_iald (pc := 45) hG (dk dd_X5_put 29 rfl) (itS hn) hi2 ?_
  refine V_iretP (pc := 46) hG (dk dd_X5_put 30 rfl) hR (Pi.mk ?_)
  rotate_left
  -- leaves: return@46; return@46; return@46
  · rw [hc] at h13 h28; simp only [hd, setc_s, pk_us]; unfold lanV; rw [if_neg h13, if_neg h28]; exact ⟨rfl, rfl⟩
  · rw [hc] at h13 h28; simp only [hd, setc_s, pk_us]; unfold lanV; rw [if_neg h13, if_pos h28]; exact ⟨rfl, rfl⟩
  · rw [hc] at h13; simp only [hd, setc_s, pk_us]; unfold lanV; rw [if_pos h13]; exact ⟨rfl, rfl⟩
theorem c_remove {μ : Mem} {x : Int32} {n : Nat} (hx : x = nI n) (hn : n < 8) : CtP yX5_remove cX5_remove 2 (some .int) 0 [vR 1, vI x] μ (Pi (fun r μ' => μ' = setc μ 11 (upd (μ 11) n (-1)) ∧ r = μ 12 n)) := by
  refine CtP.go RX5 rfl pn_X5 (Nat.le_of_ble_eq_true rfl) (fun C hG hR => ?_)
  have hr : vp_in x 8 := in_nI hx hn (by decide)
  have hc : x.toNatClampNeg = n := nI_cl hx (by omega)
  refine V_aload_n (pc := 0) hG (dk dd_X5_remove 0 rfl) rfl ?_
  refine V_getR (pc := 1) hG (dk dd_X5_remove 1 rfl) fl_X5_16 sh_1 rfl ?_
  refine V_iload_n (pc := 4) hG (dk dd_X5_remove 2 rfl) rfl ?_
  refine V_iconst (pc := 5) hG (dk dd_X5_remove 3 rfl) (v := -1) (by decide) ?_
  refine V_iast (pc := 6) hG (dk dd_X5_remove 4 rfl) sh_11 hr ?_
  refine V_aload_n (pc := 7) hG (dk dd_X5_remove 5 rfl) rfl ?_
  refine V_getR (pc := 8) hG (dk dd_X5_remove 6 rfl) fl_X5_20 sh_1 rfl ?_
  refine V_iload_n (pc := 11) hG (dk dd_X5_remove 7 rfl) rfl ?_
  refine V_iald (pc := 12) hG (dk dd_X5_remove 8 rfl) sh_12 hr ?_
  refine V_iretP (pc := 13) hG (dk dd_X5_remove 9 rfl) hR (Pi.mk ?_)
  rotate_left
  -- leaves: return@13
  · rw [hc]; exact ⟨rfl, by rw [setc_n (by decide)]⟩
theorem c_move {μ : Mem} {x i y j k : Int32} {n m a b c : Nat} (hx : x = nI n) (hn : n < 8) (hy : y = nI m) (hm : m < 8) (hi : i = nI a) (hj : j = nI b) (hk : k = nI c) (ha : a + c ≤ 40) (hb : b + c ≤ 40) : CtP yX5_move cX5_move 6 none 0 [vR 1, vI x, vI i, vI y, vI j, vI k] μ (Pv (fun μ' => μ' = setc μ (3 + m) (va_cpy (μ (3 + n)) (μ (3 + m)) a b c))) := by
  refine CtP.go RX5 rfl pn_X5 (Nat.le_of_ble_eq_true rfl) (fun C hG hR => ?_)
  have hr : vp_in x 8 := in_nI hx hn (by decide)
  have hc : x.toNatClampNeg = n := nI_cl hx (by omega)
  have hq : vp_in y 8 := in_nI hy hm (by decide)
  have hd : y.toNatClampNeg = m := nI_cl hy (by omega)
  have h1 : i.toNatClampNeg = a := nI_cl hi (by omega)
  have h2 : j.toNatClampNeg = b := nI_cl hj (by omega)
  have h3 : k.toNatClampNeg = c := nI_cl hk (by omega)
  refine V_aload_n (pc := 0) hG (dk dd_X5_move 0 rfl) rfl ?_
  refine V_getR (pc := 1) hG (dk dd_X5_move 1 rfl) fl_X5_13 sh_1 rfl ?_
  refine V_iload_n (pc := 4) hG (dk dd_X5_move 2 rfl) rfl ?_
  refine V_ald3 (pc := 5) hG (dk dd_X5_move 3 rfl) sh_2 hr (rs8 hc hn) ?_
  refine V_iload_n (pc := 6) hG (dk dd_X5_move 4 rfl) rfl ?_
  refine V_aload_n (pc := 7) hG (dk dd_X5_move 5 rfl) rfl ?_
  refine V_getR (pc := 8) hG (dk dd_X5_move 6 rfl) fl_X5_13 sh_1 rfl ?_
  refine V_iload_n (pc := 11) hG (dk dd_X5_move 7 rfl) rfl ?_
  refine V_ald3 (pc := 12) hG (dk dd_X5_move 8 rfl) sh_2 hq (rs8 hd hm) ?_
  refine V_iload (pc := 13) hG (dk dd_X5_move 9 rfl) rfl ?_
  refine V_iload (pc := 15) hG (dk dd_X5_move 10 rfl) rfl ?_
  -- arraycopy
  refine V_acopy (pc := 17) hG (dk dd_X5_move 11 rfl) ml_X5_33 (itS hn) (itS hm) (by rw [hi]; exact nI_pos (by omega)) (by rw [hj]; exact nI_pos (by omega)) (by rw [hk]; exact nI_pos (by omega)) (by rw [h1, h3]; exact ha) (by rw [h2, h3]; exact hb) rfl ?_
  refine V_vretP (pc := 20) hG (dk dd_X5_move 12 rfl) hR (Pv.mk ?_)
  rotate_left
  -- leaves: return@20
  · rw [h1, h2, h3]
def hmN (μ : Mem) (a : Nat) : Nat → Nat
  | 0 => 0
  | n + 1 => hmN μ a n + (if μ a n = -1 then 0 else 1)
theorem hmN_le (μ : Mem) (a : Nat) : ∀ n, hmN μ a n ≤ n
  | 0 => Nat.le_refl _
  | n + 1 => by have := hmN_le μ a n; show hmN μ a n + _ ≤ _; split <;> omega
theorem c_howMany {μ : Mem} : CtP yX5_howMany cX5_howMany 3 (some .int) 1 [vR 1] μ (Pi (fun r μ' => μ' = μ ∧ r = nI (hmN μ 11 8))) := by
  refine CtP.go RX5 rfl pn_X5 (Nat.le_of_ble_eq_true rfl) (fun C hG hR => ?_)
  have loop : ∀ k n, n + k = 8 → V C 4 [(0, vR 1), (1, vI (nI (hmN μ 11 n))), (2, vI (nI n))] [] μ := by
    intro k
    induction k with
    | zero =>
      intro n hn
      refine V_iload_n (pc := 4) hG (dk dd_X5_howMany 4 rfl) rfl ?_
      refine V_bipush (pc := 5) hG (dk dd_X5_howMany 5 rfl) (v := 8) (by decide) ?_
      refine V_icmp_ge (pc := 7) hG (dk dd_X5_howMany 6 rfl) (tgt := 32) (by decide) (fun h7 => ?_) (fun h7 => ?_)
      refine V_iload_n (pc := 32) hG (dk dd_X5_howMany 19 rfl) rfl ?_
      refine V_iretP (pc := 33) hG (dk dd_X5_howMany 20 rfl) hR (Pi.mk ?_)
      rotate_left
      rotate_left
      -- leaves: return@33; stop 10
      · exact ⟨rfl, by rw [show n = 8 by omega]⟩
      · exfalso; have := nle_i (a := 8) h7 (by omega) (by omega); omega
    | succ k ih =>
      intro n hn
      have hI := ih (n + 1) (by omega)
      rw [nI_succ, show hmN μ 11 (n + 1) = hmN μ 11 n + (if μ 11 n = -1 then 0 else 1) from rfl] at hI
      refine V_iload_n (pc := 4) hG (dk dd_X5_howMany 4 rfl) rfl ?_
      refine V_bipush (pc := 5) hG (dk dd_X5_howMany 5 rfl) (v := 8) (by decide) ?_
      refine V_icmp_ge (pc := 7) hG (dk dd_X5_howMany 6 rfl) (tgt := 32) (by decide) (fun h7 => ?_) (fun h7 => ?_)
      rotate_left
      refine V_iload_n (pc := 10) hG (dk dd_X5_howMany 7 rfl) rfl ?_
      refine V_aload_n (pc := 11) hG (dk dd_X5_howMany 8 rfl) rfl ?_
      refine V_iload_n (pc := 12) hG (dk dd_X5_howMany 9 rfl) rfl ?_
      refine V_callVip (pc := 13) hG (dk dd_X5_howMany 10 rfl) ml_X5_23 mo_X5_isMissing sh_1 rfl (c_isMissing (n := n) rfl (by omega)) (by decide) (by decide) rfl rfl rfl (fun x13 m13 p13 => ?_)
      refine V_if_eq (pc := 16) hG (dk dd_X5_howMany 11 rfl) (tgt := 23) (by decide) (fun h16 => ?_) (fun h16 => ?_)
      refine V_iconst (pc := 23) hG (dk dd_X5_howMany 14 rfl) (v := 1) (by decide) ?_
      refine V_iadd (pc := 24) hG (dk dd_X5_howMany 15 rfl) ?_
      refine V_istore_n (pc := 25) hG (dk dd_X5_howMany 16 rfl) (by decide) (lv' := [(0, _), (1, _), (2, _)]) rfl ?_
      refine V_iinc (pc := 26) hG (dk dd_X5_howMany 17 rfl) rfl (v := _ + 1) rfl (by decide) (lv' := [(0, _), (1, _), (2, _)]) rfl ?_
      refine V_goto (pc := 29) hG (dk dd_X5_howMany 18 rfl) (tgt := 4) (by decide) ?_
      rotate_left
      refine V_iconst (pc := 19) hG (dk dd_X5_howMany 12 rfl) (v := 0) (by decide) ?_
      refine V_goto (pc := 20) hG (dk dd_X5_howMany 13 rfl) (tgt := 24) (by decide) ?_
      refine V_iadd (pc := 24) hG (dk dd_X5_howMany 15 rfl) ?_
      refine V_istore_n (pc := 25) hG (dk dd_X5_howMany 16 rfl) (by decide) (lv' := [(0, _), (1, _), (2, _)]) rfl ?_
      refine V_iinc (pc := 26) hG (dk dd_X5_howMany 17 rfl) rfl (v := _ + 1) rfl (by decide) (lv' := [(0, _), (1, _), (2, _)]) rfl ?_
      refine V_goto (pc := 29) hG (dk dd_X5_howMany 18 rfl) (tgt := 4) (by decide) ?_
      rotate_left
      -- leaves: stop 32; stop 4; stop 4
      · exfalso; have := le_i (a := 8) h7 (by omega) (by omega); omega
      · obtain ⟨rfl, p13⟩ := p13
        rw [if_neg (p13.no h16), nI_succ] at hI; exact hI
      · obtain ⟨rfl, p13⟩ := p13
        rw [if_pos (p13.yes h16), Nat.add_zero] at hI; rw [Int32.add_zero]; exact hI
  refine V_iconst (pc := 0) hG (dk dd_X5_howMany 0 rfl) (v := 0) (by decide) ?_
  refine V_istore_n (pc := 1) hG (dk dd_X5_howMany 1 rfl) (by decide) (lv' := [(0, _), (1, _)]) rfl ?_
  refine V_iconst (pc := 2) hG (dk dd_X5_howMany 2 rfl) (v := 0) (by decide) ?_
  refine V_istore_n (pc := 3) hG (dk dd_X5_howMany 3 rfl) (by decide) (lv' := [(0, _), (1, _), (2, _)]) rfl ?_
  rotate_left
  -- leaves: stop 4
  · exact loop 8 0 (by omega)
theorem c_tadd {μ : Mem} {x : Int32} {n : Nat} (hn : μ 13 1 = nI n) (h : n < 120) : CtP yX6_add cX6_add 2 (some .int) 0 [vR 13, vI x] μ (Pi (fun r μ' => μ' = setc (setc μ 14 (upd (μ 14) n x)) 13 (upd (μ 13) 1 (nI (n + 1))) ∧ r = nI (n + 1))) := by
  refine CtP.go RX6 rfl pn_X6 (Nat.le_of_ble_eq_true rfl) (fun C hG hR => ?_)
  refine V_aload_n (pc := 0) hG (dk dd_X6_add 0 rfl) rfl ?_
  refine V_getR (pc := 1) hG (dk dd_X6_add 1 rfl) fl_X6_9 sh_13 rfl ?_
  refine V_aload_n (pc := 4) hG (dk dd_X6_add 2 rfl) rfl ?_
  refine V_getI (pc := 5) hG (dk dd_X6_add 3 rfl) fl_X6_13 sh_13 rfl ?_
  refine V_iload_n (pc := 8) hG (dk dd_X6_add 4 rfl) rfl ?_
  refine V_iast (pc := 9) hG (dk dd_X6_add 5 rfl) sh_14 (by rw [hn]; exact vp_in_nI h (by decide)) ?_
  refine V_aload_n (pc := 10) hG (dk dd_X6_add 6 rfl) rfl ?_
  refine V_dup (pc := 11) hG (dk dd_X6_add 7 rfl) rfl ?_
  refine V_getI (pc := 12) hG (dk dd_X6_add 8 rfl) fl_X6_13 sh_13 rfl ?_
  refine V_iconst (pc := 15) hG (dk dd_X6_add 9 rfl) (v := 1) (by decide) ?_
  refine V_iadd (pc := 16) hG (dk dd_X6_add 10 rfl) ?_
  refine V_putI (pc := 17) hG (dk dd_X6_add 11 rfl) fl_X6_13 sh_13 rfl rfl ?_
  refine V_aload_n (pc := 20) hG (dk dd_X6_add 12 rfl) rfl ?_
  refine V_getI (pc := 21) hG (dk dd_X6_add 13 rfl) fl_X6_13 sh_13 rfl ?_
  refine V_iretP (pc := 24) hG (dk dd_X6_add 14 rfl) hR (Pi.mk ?_)
  rotate_left
  -- leaves: return@24
  · refine ⟨?_, ?_⟩ <;> simp (disch := omega) only [setc_s, setc_n, hn, nI_clamp (show n < 2 ^ 31 by omega), nI_1, pk_us]
theorem c_tat {μ : Mem} {x : Int32} {n p : Nat} (hn : μ 13 1 = nI n) (h : n ≤ 120) (hx : x = nI p) (hp : p < 1000) : CtP yX6_at cX6_at 2 (some .int) 0 [vR 13, vI x] μ (Pi (fun r μ' => μ' = μ ∧ r = (if p < n then μ 14 p else -1))) := by
  refine CtP.go RX6 rfl pn_X6 (Nat.le_of_ble_eq_true rfl) (fun C hG hR => ?_)
  refine V_iload_n (pc := 0) hG (dk dd_X6_at 0 rfl) rfl ?_
  refine V_if_lt (pc := 1) hG (dk dd_X6_at 1 rfl) (tgt := 21) (by decide) (fun h1 => ?_) (fun h1 => ?_)
  refine V_iconst (pc := 21) hG (dk dd_X6_at 11 rfl) (v := -1) (by decide) ?_
  refine V_iretP (pc := 22) hG (dk dd_X6_at 12 rfl) hR (Pi.mk ?_)
  rotate_left
  refine V_iload_n (pc := 4) hG (dk dd_X6_at 2 rfl) rfl ?_
  refine V_aload_n (pc := 5) hG (dk dd_X6_at 3 rfl) rfl ?_
  refine V_getI (pc := 6) hG (dk dd_X6_at 4 rfl) fl_X6_13 sh_13 rfl ?_
  refine V_icmp_ge (pc := 9) hG (dk dd_X6_at 5 rfl) (tgt := 21) (by decide) (fun h9 => ?_) (fun h9 => ?_)
  refine V_iconst (pc := 21) hG (dk dd_X6_at 11 rfl) (v := -1) (by decide) ?_
  refine V_iretP (pc := 22) hG (dk dd_X6_at 12 rfl) hR (Pi.mk ?_)
  rotate_left
  refine V_aload_n (pc := 12) hG (dk dd_X6_at 6 rfl) rfl ?_
  refine V_getR (pc := 13) hG (dk dd_X6_at 7 rfl) fl_X6_9 sh_13 rfl ?_
  refine V_iload_n (pc := 16) hG (dk dd_X6_at 8 rfl) rfl ?_
  refine V_iald (pc := 17) hG (dk dd_X6_at 9 rfl) sh_14 (by rw [hn, hx] at h9; rw [hx]; exact vp_in_nI (by have := nle_i h9 (by omega) (by omega); omega) (by decide)) ?_
  refine V_goto (pc := 18) hG (dk dd_X6_at 10 rfl) (tgt := 22) (by decide) ?_
  refine V_iretP (pc := 22) hG (dk dd_X6_at 12 rfl) hR (Pi.mk ?_)
  rotate_left
  -- leaves: return@22; return@22; return@22
  · exfalso; rw [hx] at h1; exact nI_pos (by omega) h1
  · rw [hn, hx] at h9; have := le_i h9 (by omega) (by omega); exact ⟨rfl, (if_neg (by omega)).symm⟩
  · rw [hn, hx] at h9; have := nle_i h9 (by omega) (by omega); exact ⟨rfl, by rw [if_pos (by omega), nI_cl hx (by omega)]⟩
def isFig (μ : Mem) (n p : Nat) : Prop := p < n ∧ 48 ≤ μ 14 p ∧ μ 14 p ≤ 57
theorem c_isFigure {μ : Mem} {x : Int32} {n p : Nat} (hn : μ 13 1 = nI n) (h : n ≤ 120) (hx : x = nI p) (hp : p < 1000) : CtP yX6_isFigure cX6_isFigure 2 (some .boolean) 0 [vR 13, vI x] μ (Pi (fun r μ' => μ' = μ ∧ is1 r (isFig μ n p))) := by
  refine CtP.go RX6 rfl pn_X6 (Nat.le_of_ble_eq_true rfl) (fun C hG hR => ?_)
  have hc : x.toNatClampNeg = p := nI_cl hx (by omega)
  refine V_iload_n (pc := 0) hG (dk dd_X6_isFigure 0 rfl) rfl ?_
  refine V_if_lt (pc := 1) hG (dk dd_X6_isFigure 1 rfl) (tgt := 38) (by decide) (fun h1 => ?_) (fun h1 => ?_)
  refine V_iconst (pc := 38) hG (dk dd_X6_isFigure 20 rfl) (v := 0) (by decide) ?_
  refine V_zretP (pc := 39) hG (dk dd_X6_isFigure 21 rfl) (by decide) hR (Pi.mk ?_)
  rotate_left
  refine V_iload_n (pc := 4) hG (dk dd_X6_isFigure 2 rfl) rfl ?_
  refine V_aload_n (pc := 5) hG (dk dd_X6_isFigure 3 rfl) rfl ?_
  refine V_getI (pc := 6) hG (dk dd_X6_isFigure 4 rfl) fl_X6_13 sh_13 rfl ?_
  refine V_icmp_ge (pc := 9) hG (dk dd_X6_isFigure 5 rfl) (tgt := 38) (by decide) (fun h9 => ?_) (fun h9 => ?_)
  refine V_iconst (pc := 38) hG (dk dd_X6_isFigure 20 rfl) (v := 0) (by decide) ?_
  refine V_zretP (pc := 39) hG (dk dd_X6_isFigure 21 rfl) (by decide) hR (Pi.mk ?_)
  rotate_left
  refine V_aload_n (pc := 12) hG (dk dd_X6_isFigure 6 rfl) rfl ?_
  refine V_getR (pc := 13) hG (dk dd_X6_isFigure 7 rfl) fl_X6_9 sh_13 rfl ?_
  refine V_iload_n (pc := 16) hG (dk dd_X6_isFigure 8 rfl) rfl ?_
  refine V_iald (pc := 17) hG (dk dd_X6_isFigure 9 rfl) sh_14 (by rw [hn, hx] at h9; rw [hx]; exact vp_in_nI (by have := nle_i h9 (by omega) (by omega); omega) (by decide)) ?_
  refine V_bipush (pc := 18) hG (dk dd_X6_isFigure 10 rfl) (v := 48) (by decide) ?_
  refine V_icmp_lt (pc := 20) hG (dk dd_X6_isFigure 11 rfl) (tgt := 38) (by decide) (fun h20 => ?_) (fun h20 => ?_)
  refine V_iconst (pc := 38) hG (dk dd_X6_isFigure 20 rfl) (v := 0) (by decide) ?_
  refine V_zretP (pc := 39) hG (dk dd_X6_isFigure 21 rfl) (by decide) hR (Pi.mk ?_)
  rotate_left
  refine V_aload_n (pc := 23) hG (dk dd_X6_isFigure 12 rfl) rfl ?_
  refine V_getR (pc := 24) hG (dk dd_X6_isFigure 13 rfl) fl_X6_9 sh_13 rfl ?_
  refine V_iload_n (pc := 27) hG (dk dd_X6_isFigure 14 rfl) rfl ?_
  refine V_iald (pc := 28) hG (dk dd_X6_isFigure 15 rfl) sh_14 (by rw [hn, hx] at h9; rw [hx]; exact vp_in_nI (by have := nle_i h9 (by omega) (by omega); omega) (by decide)) ?_
  refine V_bipush (pc := 29) hG (dk dd_X6_isFigure 16 rfl) (v := 57) (by decide) ?_
  refine V_icmp_gt (pc := 31) hG (dk dd_X6_isFigure 17 rfl) (tgt := 38) (by decide) (fun h31 => ?_) (fun h31 => ?_)
  refine V_iconst (pc := 38) hG (dk dd_X6_isFigure 20 rfl) (v := 0) (by decide) ?_
  refine V_zretP (pc := 39) hG (dk dd_X6_isFigure 21 rfl) (by decide) hR (Pi.mk ?_)
  rotate_left
  refine V_iconst (pc := 34) hG (dk dd_X6_isFigure 18 rfl) (v := 1) (by decide) ?_
  refine V_goto (pc := 35) hG (dk dd_X6_isFigure 19 rfl) (tgt := 39) (by decide) ?_
  refine V_zretP (pc := 39) hG (dk dd_X6_isFigure 21 rfl) (by decide) hR (Pi.mk ?_)
  rotate_left
  -- leaves: return@39; return@39; return@39; return@39; return@39
  · exfalso; rw [hx] at h1; exact nI_pos (by omega) h1
  · rw [hn, hx] at h9; have := le_i h9 (by omega) (by omega); exact ⟨rfl, is1.f (fun q => by have := q.1; omega)⟩
  · rw [hc] at h20; exact ⟨rfl, is1.f (fun q => by have := q.2.1; clear hG hR; grind)⟩
  · rw [hc] at h31; exact ⟨rfl, is1.f (fun q => by have := q.2.2; clear hG hR; grind)⟩
  · rw [hc] at h20 h31; rw [hn, hx] at h9; have h9' := nle_i h9 (by omega) (by omega); exact ⟨rfl, is1.t ⟨h9', by clear hG hR; grind, by clear hG hR; grind⟩⟩
theorem c_tclear {μ : Mem} : CtP yX6_clear cX6_clear 1 none 0 [vR 13] μ (Pv (fun μ' => μ' = setc μ 13 (upd (μ 13) 1 0))) := by
  refine CtP.go RX6 rfl pn_X6 (Nat.le_of_ble_eq_true rfl) (fun C hG hR => ?_)
  refine V_aload_n (pc := 0) hG (dk dd_X6_clear 0 rfl) rfl ?_
  refine V_iconst (pc := 1) hG (dk dd_X6_clear 1 rfl) (v := 0) (by decide) ?_
  refine V_putI (pc := 2) hG (dk dd_X6_clear 2 rfl) fl_X6_13 sh_13 rfl rfl ?_
  refine V_vretP (pc := 5) hG (dk dd_X6_clear 3 rfl) hR (Pv.mk ?_)
  rotate_left
  -- leaves: return@5
  · rfl
theorem c_aclear {μ : Mem} : CtP yX0_clear cX0_clear 1 none 0 [vR 32] μ (Pv (fun μ' => μ' = setc μ 32 (upd (upd (μ 32) 1 0) 2 0))) := by
  refine CtP.go RX0 rfl pn_X0 (Nat.le_of_ble_eq_true rfl) (fun C hG hR => ?_)
  refine V_aload_n (pc := 0) hG (dk dd_X0_clear 0 rfl) rfl ?_
  refine V_iconst (pc := 1) hG (dk dd_X0_clear 1 rfl) (v := 0) (by decide) ?_
  refine V_putI (pc := 2) hG (dk dd_X0_clear 2 rfl) fl_X0_15 sh_32 rfl rfl ?_
  refine V_aload_n (pc := 5) hG (dk dd_X0_clear 3 rfl) rfl ?_
  refine V_iconst (pc := 6) hG (dk dd_X0_clear 4 rfl) (v := 0) (by decide) ?_
  refine V_putI (pc := 7) hG (dk dd_X0_clear 5 rfl) fl_X0_23 sh_32 rfl rfl ?_
  refine V_vretP (pc := 10) hG (dk dd_X0_clear 6 rfl) hR (Pv.mk ?_)
  rotate_left
  -- leaves: return@10
  · simp only [setc_s, setc_c]
end
section
/-! ===== acts: the ring of 24 blocks ===== -/
def Ring (μ : Mem) (As : Nat → Al) (L nx : Nat) : Prop := μ 32 1 = nI nx ∧ nx < 24 ∧ μ 32 2 = nI L ∧ L ≤ 24 ∧ ∀ i, i < L → Blk (μ 33) (14 * ((nx + 23 - i) % 24)) (As i)
theorem Blk.of {f g : Nat → Int32} {o : Nat} {α : Al} (h : Blk f o α) (hH : α 0 6 ≤ 6) (hC : α 0 7 ≤ 5) (hq : ∀ q, o ≤ q → q < o + 14 → g q = f q) : Blk g o α := by
  obtain ⟨h1, h2, h3, h4, h5⟩ := h
  exact ⟨by rw [hq o (by omega) (by omega)]; exact h1, by rw [hq _ (by omega) (by omega)]; exact h2, by rw [hq _ (by omega) (by omega)]; exact h3, fun c hc => by rw [hq _ (by omega) (by omega)]; exact h4 c hc, fun c hc => by rw [hq _ (by omega) (by omega)]; exact h5 c hc⟩
def pushA (α : Al) (As : Nat → Al) : Nat → Al := fun i => if i = 0 then α else As (i - 1)
theorem c_keep {μ : Mem} {α : Al} {As : Nat → Al} {L nx : Nat} (hA : Abs (kac μ 15) α) (hH : α 0 6 ≤ 6) (hC : α 0 7 ≤ 5) (hR0 : Ring μ As L nx) (hAs : ∀ i, i < L → As i 0 6 ≤ 6 ∧ As i 0 7 ≤ 5) :
    CtP yX0_keep cX0_keep 2 none 1 [vR 32, vR 15] μ (Pv (fun μ' => Ring μ' (pushA α As) (min (L + 1) 24) ((nx + 1) % 24) ∧ ∀ a, a ≠ 32 → a ≠ 33 → μ' a = μ a)) := by
  refine CtP.go RX0 rfl pn_X0 (Nat.le_of_ble_eq_true rfl) (fun C hG hR => ?_)
  obtain ⟨r1, r2, r3, r4, r5⟩ := hR0
  have ho : μ 32 1 * 14 = nI (14 * nx) := by rw [r1, show (14 : Int32) = nI 14 from rfl, pk_mul, Nat.mul_comm]
  have hmin : (if (24 : Int32) < nI (L + 1) then (24 : Int32) else nI (L + 1)) = nI (min (L + 1) 24) := by
    by_cases q : L + 1 ≤ 24
    · rw [Nat.min_eq_left q, if_neg (fun z => by have := (nI_ltI (a := 24) (by decide) (by omega)).mp z; omega)]
    · rw [Nat.min_eq_right (by omega), if_pos (show (24 : Int32) < nI (L + 1) from (nI_ltI (a := 24) (b := L + 1) (by decide) (by omega)).mpr (by omega))]; rfl
  have fin : ∀ f nx', nx' = (nx + 1) % 24 → Blk f (14 * nx) α → (∀ q, (q < 14 * nx ∨ 14 * nx + 14 ≤ q) → f q = μ 33 q) → ∀ μ', μ' = setc (setc μ 33 f) 32 (upd (upd (μ 32) 1 (nI nx')) 2 (nI (min (L + 1) 24))) → Ring μ' (pushA α As) (min (L + 1) 24) ((nx + 1) % 24) ∧ ∀ a, a ≠ 32 → a ≠ 33 → μ' a = μ a := by
    intro f nx' hnx hB hf μ' hμ
    subst hμ
    refine ⟨⟨?_, Nat.mod_lt _ (by decide), ?_, Nat.min_le_right _ _, fun i hi => ?_⟩, fun a h1 h2 => by rw [setc_n h1, setc_n h2]⟩
    · rw [setc_s, pk_un (by decide), pk_us, hnx]
    · rw [setc_s, pk_us]
    · rw [setc_n (by decide), setc_s]
      have hi' : i < 24 ∧ i < L + 1 := by omega
      by_cases e : i = 0
      · subst e
        rw [show ((nx + 1) % 24 + 23 - 0) % 24 = nx by omega]
        exact hB
      · have e2 : ((nx + 1) % 24 + 23 - i) % 24 = (nx + 23 - (i - 1)) % 24 := by omega
        rw [e2]
        show Blk f _ (if i = 0 then α else As (i - 1))
        rw [if_neg e]
        have hb := r5 (i - 1) (by omega)
        exact hb.of (hAs (i - 1) (by omega)).1 (hAs (i - 1) (by omega)).2 (fun q q1 q2 => hf q (by omega))
  refine V_aload_n (pc := 0) hG (dk dd_X0_keep 0 rfl) rfl ?_
  refine V_aload_n (pc := 1) hG (dk dd_X0_keep 1 rfl) rfl ?_
  refine V_getR (pc := 2) hG (dk dd_X0_keep 2 rfl) fl_X0_11 sh_32 rfl ?_
  refine V_aload_n (pc := 5) hG (dk dd_X0_keep 3 rfl) rfl ?_
  refine V_getI (pc := 6) hG (dk dd_X0_keep 4 rfl) fl_X0_15 sh_32 rfl ?_
  refine V_bipush (pc := 9) hG (dk dd_X0_keep 5 rfl) (v := 14) (by decide) ?_
  refine V_imul (pc := 11) hG (dk dd_X0_keep 6 rfl) ?_
  refine V_callVvp (pc := 12) hG (dk dd_X0_keep 7 rfl) ml_X0_19 mo_X2_writeChanging sh_15 rfl (c_writeChanging hA hH hC ho (by omega)) (by decide) (by decide) rfl rfl rfl (fun m12 p12 => ?_)
  refine V_aload_n (pc := 15) hG (dk dd_X0_keep 8 rfl) rfl ?_
  refine V_aload_n (pc := 16) hG (dk dd_X0_keep 9 rfl) rfl ?_
  refine V_getI (pc := 17) hG (dk dd_X0_keep 10 rfl) fl_X0_15 sh_32 rfl ?_
  refine V_iconst (pc := 20) hG (dk dd_X0_keep 11 rfl) (v := 1) (by decide) ?_
  refine V_iadd (pc := 21) hG (dk dd_X0_keep 12 rfl) ?_
  refine V_bipush (pc := 22) hG (dk dd_X0_keep 13 rfl) (v := 24) (by decide) ?_
  refine V_icmp_ge (pc := 24) hG (dk dd_X0_keep 14 rfl) (tgt := 36) (by decide) (fun h24 => ?_) (fun h24 => ?_)
  refine V_iconst (pc := 36) hG (dk dd_X0_keep 20 rfl) (v := 0) (by decide) ?_
  refine V_putI (pc := 37) hG (dk dd_X0_keep 21 rfl) fl_X0_15 sh_32 rfl rfl ?_
  refine V_aload_n (pc := 40) hG (dk dd_X0_keep 22 rfl) rfl ?_
  refine V_aload_n (pc := 41) hG (dk dd_X0_keep 23 rfl) rfl ?_
  refine V_getI (pc := 42) hG (dk dd_X0_keep 24 rfl) fl_X0_23 sh_32 rfl ?_
  refine V_iconst (pc := 45) hG (dk dd_X0_keep 25 rfl) (v := 1) (by decide) ?_
  refine V_iadd (pc := 46) hG (dk dd_X0_keep 26 rfl) ?_
  refine V_bipush (pc := 47) hG (dk dd_X0_keep 27 rfl) (v := 24) (by decide) ?_
  refine V_mmin (pc := 49) hG (dk dd_X0_keep 28 rfl) ml_X0_26 rfl ?_
  refine V_putI (pc := 52) hG (dk dd_X0_keep 29 rfl) fl_X0_23 sh_32 rfl rfl ?_
  refine V_vretP (pc := 55) hG (dk dd_X0_keep 30 rfl) hR (Pv.mk ?_)
  rotate_left
  refine V_aload_n (pc := 27) hG (dk dd_X0_keep 15 rfl) rfl ?_
  refine V_getI (pc := 28) hG (dk dd_X0_keep 16 rfl) fl_X0_15 sh_32 rfl ?_
  refine V_iconst (pc := 31) hG (dk dd_X0_keep 17 rfl) (v := 1) (by decide) ?_
  refine V_iadd (pc := 32) hG (dk dd_X0_keep 18 rfl) ?_
  refine V_goto (pc := 33) hG (dk dd_X0_keep 19 rfl) (tgt := 37) (by decide) ?_
  refine V_putI (pc := 37) hG (dk dd_X0_keep 21 rfl) fl_X0_15 sh_32 rfl rfl ?_
  refine V_aload_n (pc := 40) hG (dk dd_X0_keep 22 rfl) rfl ?_
  refine V_aload_n (pc := 41) hG (dk dd_X0_keep 23 rfl) rfl ?_
  refine V_getI (pc := 42) hG (dk dd_X0_keep 24 rfl) fl_X0_23 sh_32 rfl ?_
  refine V_iconst (pc := 45) hG (dk dd_X0_keep 25 rfl) (v := 1) (by decide) ?_
  refine V_iadd (pc := 46) hG (dk dd_X0_keep 26 rfl) ?_
  refine V_bipush (pc := 47) hG (dk dd_X0_keep 27 rfl) (v := 24) (by decide) ?_
  refine V_mmin (pc := 49) hG (dk dd_X0_keep 28 rfl) ml_X0_26 rfl ?_
  refine V_putI (pc := 52) hG (dk dd_X0_keep 29 rfl) fl_X0_23 sh_32 rfl rfl ?_
  refine V_vretP (pc := 55) hG (dk dd_X0_keep 30 rfl) hR (Pv.mk ?_)
  rotate_left
  -- leaves: return@55; return@55
  · obtain ⟨f, rfl, hB, hf⟩ := p12
    simp (disch := omega) only [setc_s, setc_n, setc_c, r1, nI_1] at h24 ⊢
    have := le_i (a := 24) h24 (by omega) (by omega)
    refine fin f 0 (by omega) hB hf _ ?_
    rw [pk_un (by decide), r3, nI_1, hmin]; rfl
  · obtain ⟨f, rfl, hB, hf⟩ := p12
    simp (disch := omega) only [setc_s, setc_n, setc_c, r1, nI_1] at h24 ⊢
    have := nle_i (a := 24) h24 (by omega) (by omega)
    refine fin f (nx + 1) (by omega) hB hf _ ?_
    rw [pk_un (by decide), r3, nI_1, hmin]
theorem c_takeBack {μ : Mem} {α : Al} {As : Nat → Al} {L nx : Nat} (hA : Abs (kac μ 15) α) (hH : α 0 6 ≤ 6) (hC : α 0 7 ≤ 5) (hR0 : Ring μ As L nx) (hL : 0 < L) (hs : Sta α (As 0)) :
    CtP yX0_takeBack cX0_takeBack 2 (some .int) 1 [vR 32, vR 15] μ (Pi (fun r μ' => r = nI (L - 1) ∧ Abs (kac μ' 15) (As 0) ∧ Ring μ' (fun i => As (i + 1)) (L - 1) ((nx + 23) % 24) ∧ ∀ a, a ≠ 32 → (a < 15 ∨ 22 < a) → μ' a = μ a)) := by
  refine CtP.go RX0 rfl pn_X0 (Nat.le_of_ble_eq_true rfl) (fun C hG hR => ?_)
  obtain ⟨r1, r2, r3, r4, r5⟩ := hR0
  have rest : ∀ nx', nx' = (nx + 23) % 24 → V C 22 [(0, vR 32), (1, vR 15)] [] (setc μ 32 (upd (μ 32) 1 (nI nx'))) := by
    intro nx' hnx
    have hA2 : Abs (kac (setc μ 32 (upd (μ 32) 1 (nI nx'))) 15) α := by
      have e : ∀ x, x ≤ 7 → setc μ 32 (upd (μ 32) 1 (nI nx')) (15 + x) = μ (15 + x) := fun x hx => setc_n (by omega)
      exact ⟨fun i hi => by unfold kac; rw [e 0 (by decide)]; exact hA.1 i hi, fun x h a b c => by unfold kac; rw [e x (by omega)]; exact hA.2.1 x h a b c, fun x h a b c => by unfold kac; rw [e x (by omega)]; exact hA.2.2 x h a b c⟩
    have ho : setc μ 32 (upd (μ 32) 1 (nI nx')) 32 1 * 14 = nI (14 * nx') := by rw [setc_s, pk_us, show (14 : Int32) = nI 14 from rfl, pk_mul, Nat.mul_comm]
    have hB : Blk (setc μ 32 (upd (μ 32) 1 (nI nx')) 33) (14 * nx') (As 0) := by
      rw [setc_n (by decide), hnx]; exact r5 0 hL
    refine V_aload_n (pc := 22) hG (dk dd_X0_takeBack 11 rfl) rfl ?_
    refine V_aload_n (pc := 23) hG (dk dd_X0_takeBack 12 rfl) rfl ?_
    refine V_getR (pc := 24) hG (dk dd_X0_takeBack 13 rfl) fl_X0_11 sh_32 rfl ?_
    refine V_aload_n (pc := 27) hG (dk dd_X0_takeBack 14 rfl) rfl ?_
    refine V_getI (pc := 28) hG (dk dd_X0_takeBack 15 rfl) fl_X0_15 sh_32 rfl ?_
    refine V_bipush (pc := 31) hG (dk dd_X0_takeBack 16 rfl) (v := 14) (by decide) ?_
    refine V_imul (pc := 33) hG (dk dd_X0_takeBack 17 rfl) ?_
    refine V_callVvp (pc := 34) hG (dk dd_X0_takeBack 18 rfl) ml_X0_32 mo_X2_readChanging sh_15 rfl (c_readChanging hA2 hs hH hC ho (by omega) hB) (by decide) (by decide) rfl rfl rfl (fun m34 p34 => ?_)
    refine V_aload_n (pc := 37) hG (dk dd_X0_takeBack 19 rfl) rfl ?_
    refine V_dup (pc := 38) hG (dk dd_X0_takeBack 20 rfl) rfl ?_
    refine V_getI (pc := 39) hG (dk dd_X0_takeBack 21 rfl) fl_X0_23 sh_32 rfl ?_
    refine V_iconst (pc := 42) hG (dk dd_X0_takeBack 22 rfl) (v := 1) (by decide) ?_
    refine V_isub (pc := 43) hG (dk dd_X0_takeBack 23 rfl) ?_
    refine V_putI (pc := 44) hG (dk dd_X0_takeBack 24 rfl) fl_X0_23 sh_32 rfl rfl ?_
    refine V_aload_n (pc := 47) hG (dk dd_X0_takeBack 25 rfl) rfl ?_
    refine V_getI (pc := 48) hG (dk dd_X0_takeBack 26 rfl) fl_X0_23 sh_32 rfl ?_
    refine V_iretP (pc := 51) hG (dk dd_X0_takeBack 27 rfl) hR (Pi.mk ?_)
    rotate_left
    -- leaves: return@51
    · obtain ⟨q1, q2⟩ := p34
      have e32 : m34 32 = upd (μ 32) 1 (nI nx') := by rw [q2 32 (by omega), setc_s]
      have e33 : m34 33 = μ 33 := by rw [q2 33 (by omega), setc_n (by decide)]
      have eL : m34 32 2 - 1 = nI (L - 1) := by rw [e32, pk_un (by decide), r3, show (1 : Int32) = nI 1 from rfl, pk_sub hL]
      rw [setc_s, pk_us, eL]
      refine ⟨rfl, ?_, ⟨?_, Nat.mod_lt _ (by decide), ?_, by omega, fun i hi => ?_⟩, fun a h1 h2 => by rw [setc_n h1, q2 a h2, setc_n h1]⟩
      · have e : ∀ x, x ≤ 7 → setc m34 32 (upd (m34 32) 2 (nI (L - 1))) (15 + x) = m34 (15 + x) := fun x hx => setc_n (by omega)
        exact ⟨fun i hi => by unfold kac; rw [e 0 (by decide)]; exact q1.1 i hi, fun x h a b c => by unfold kac; rw [e x (by omega)]; exact q1.2.1 x h a b c, fun x h a b c => by unfold kac; rw [e x (by omega)]; exact q1.2.2 x h a b c⟩
      · rw [setc_s, pk_un (by decide), e32, pk_us, hnx]
      · rw [setc_s, pk_us]
      · rw [setc_n (by decide), e33, show ((nx + 23) % 24 + 23 - i) % 24 = (nx + 23 - (i + 1)) % 24 by omega]
        exact r5 (i + 1) (by omega)
  refine V_aload_n (pc := 0) hG (dk dd_X0_takeBack 0 rfl) rfl ?_
  refine V_aload_n (pc := 1) hG (dk dd_X0_takeBack 1 rfl) rfl ?_
  refine V_getI (pc := 2) hG (dk dd_X0_takeBack 2 rfl) fl_X0_15 sh_32 rfl ?_
  refine V_if_le (pc := 5) hG (dk dd_X0_takeBack 3 rfl) (tgt := 17) (by decide) (fun h5 => ?_) (fun h5 => ?_)
  refine V_bipush (pc := 17) hG (dk dd_X0_takeBack 9 rfl) (v := 23) (by decide) ?_
  refine V_putI (pc := 19) hG (dk dd_X0_takeBack 10 rfl) fl_X0_15 sh_32 rfl rfl ?_
  rotate_left
  refine V_aload_n (pc := 8) hG (dk dd_X0_takeBack 4 rfl) rfl ?_
  refine V_getI (pc := 9) hG (dk dd_X0_takeBack 5 rfl) fl_X0_15 sh_32 rfl ?_
  refine V_iconst (pc := 12) hG (dk dd_X0_takeBack 6 rfl) (v := 1) (by decide) ?_
  refine V_isub (pc := 13) hG (dk dd_X0_takeBack 7 rfl) ?_
  refine V_goto (pc := 14) hG (dk dd_X0_takeBack 8 rfl) (tgt := 19) (by decide) ?_
  refine V_putI (pc := 19) hG (dk dd_X0_takeBack 10 rfl) fl_X0_15 sh_32 rfl rfl ?_
  rotate_left
  -- leaves: stop 22; stop 22
  · rw [r1] at h5
    have := le_i (b := 0) h5 (by omega) (by omega)
    exact rest 23 (by omega)
  · rw [r1] at h5
    have := nle_i (b := 0) h5 (by omega) (by omega)
    rw [r1, show (1 : Int32) = nI 1 from rfl, pk_sub (by omega)]
    exact rest (nx - 1) (by omega)
end
section
/-! ===== Told: hums and dreams that rows tell ===== -/
def runN (β : Al) (hs : Nat → Nat) (D : Nat) : Nat → Nat
  | 0 => D
  | k + 1 => humN β (hs k) (runN β hs D k)
theorem runN_s (β : Al) (hs : Nat → Nat) (D k : Nat) : runN β hs D (k + 1) = humN β (hs k) (runN β hs D k) := rfl
def runS (α : Al) (hs : Nat → Nat) (sk D : Nat) : Nat → Nat
  | 0 => D
  | k + 1 => if k = sk then runS α hs sk D k else humN α (hs k) (runS α hs sk D k)
theorem runS_s (α : Al) (hs : Nat → Nat) (sk D k : Nat) : runS α hs sk D (k + 1) = if k = sk then runS α hs sk D k else humN α (hs k) (runS α hs sk D k) := rfl
def Fit (β : Al) (hs : Nat → Nat) (ds : Nat → Int32) (n D : Nat) : Prop := ∀ k, k < n → nI (runN β hs D (k + 1)) = ds k
theorem runS_lt {α : Al} (hv : Val α) {hs : Nat → Nat} {n : Nat} (hh : ∀ k, k < n → hs k < α 0 6) {sk D : Nat} (hD : D < 2 ^ α 0 0) : ∀ k, k ≤ n → runS α hs sk D k < 2 ^ α 0 0
  | 0, _ => hD
  | k + 1, h => by
    have ih := runS_lt hv hh (sk := sk) hD k (by omega)
    rw [runS_s]
    split
    · exact ih
    · exact humN_lt hv (hh k (by omega)) ih
theorem runN_lt {α : Al} (hv : Val α) {hs : Nat → Nat} {n : Nat} (hh : ∀ k, k < n → hs k < α 0 6) {D : Nat} (hD : D < 2 ^ α 0 0) : ∀ k, k ≤ n → runN α hs D k < 2 ^ α 0 0
  | 0, _ => hD
  | k + 1, h => humN_lt hv (hh k (by omega)) (runN_lt hv hh hD k (by omega))
/-- the told hums lie in Told -/
def Told (μ : Mem) (hs : Nat → Nat) (n : Nat) : Prop := μ 62 3 = nI n ∧ ∀ k, k < n → μ 63 k = nI (hs k)
theorem c_lastDream {μ : Mem} {α : Al} (hA : Abs (kac μ 15) α) (hv : Val α) {hs : Nat → Nat} {n : Nat} (hT : Told μ hs n) (hn : n ≤ 12) (hh : ∀ k, k < n → hs k < α 0 6) {x : Int32} {sk : Nat} (hx : (x = nI sk ∧ sk < n) ∨ (x = -1 ∧ sk = n)) :
    CtP yX7_lastDream cX7_lastDream 4 (some .int) 3 [vR 62, vI x] μ (Pi (fun r μ' => μ' = μ ∧ r = nI (runS α hs sk (α 0 3) n))) := by
  refine CtP.go RX7 rfl pn_X7 (Nat.le_of_ble_eq_true rfl) (fun C hG hR => ?_)
  have e3 : μ 15 3 = nI (α 0 3) := hA.1 3 (by decide)
  obtain ⟨t1, t2⟩ := hT
  have loop : ∀ k i, i + k = n → V C 10 [(0, vR 62), (1, vI x), (2, vI (nI (runS α hs sk (α 0 3) i))), (3, vI (nI i))] [] μ := by
    intro k
    induction k with
    | zero =>
      intro i hi
      refine V_iload_n (pc := 10) hG (dk dd_X7_lastDream 6 rfl) rfl ?_
      refine V_aload_n (pc := 11) hG (dk dd_X7_lastDream 7 rfl) rfl ?_
      refine V_getI (pc := 12) hG (dk dd_X7_lastDream 8 rfl) fl_X7_34 sh_62 rfl ?_
      refine V_icmp_ge (pc := 15) hG (dk dd_X7_lastDream 9 rfl) (tgt := 48) (by decide) (fun h15 => ?_) (fun h15 => ?_)
      refine V_iload_n (pc := 48) hG (dk dd_X7_lastDream 26 rfl) rfl ?_
      refine V_iretP (pc := 49) hG (dk dd_X7_lastDream 27 rfl) hR (Pi.mk ?_)
      rotate_left
      rotate_left
      -- leaves: return@49; stop 18
      · exact ⟨rfl, by rw [show i = n by omega]⟩
      · exfalso; rw [t1] at h15; have := nle_i h15 (by omega) (by omega); omega
    | succ k ih =>
      intro i hi
      have hI := ih (i + 1) (by omega)
      rw [nI_succ, runS_s] at hI
      have hr : vp_in (nI i) 12 := vp_in_nI (by omega) (by decide)
      have e : μ 63 (nI i).toNatClampNeg = nI (hs i) := by rw [nI_clamp (by omega)]; exact t2 i (by omega)
      have hl := runS_lt hv hh (sk := sk) hv.D i (by omega)
      refine V_iload_n (pc := 10) hG (dk dd_X7_lastDream 6 rfl) rfl ?_
      refine V_aload_n (pc := 11) hG (dk dd_X7_lastDream 7 rfl) rfl ?_
      refine V_getI (pc := 12) hG (dk dd_X7_lastDream 8 rfl) fl_X7_34 sh_62 rfl ?_
      refine V_icmp_ge (pc := 15) hG (dk dd_X7_lastDream 9 rfl) (tgt := 48) (by decide) (fun h15 => ?_) (fun h15 => ?_)
      rotate_left
      refine V_iload_n (pc := 18) hG (dk dd_X7_lastDream 10 rfl) rfl ?_
      refine V_iload_n (pc := 19) hG (dk dd_X7_lastDream 11 rfl) rfl ?_
      refine V_icmp_ne (pc := 20) hG (dk dd_X7_lastDream 12 rfl) (tgt := 27) (by decide) (fun h20 => ?_) (fun h20 => ?_)
      refine V_aload_n (pc := 27) hG (dk dd_X7_lastDream 15 rfl) rfl ?_
      refine V_getR (pc := 28) hG (dk dd_X7_lastDream 16 rfl) fl_X7_18 sh_62 rfl ?_
      refine V_aload_n (pc := 31) hG (dk dd_X7_lastDream 17 rfl) rfl ?_
      refine V_getR (pc := 32) hG (dk dd_X7_lastDream 18 rfl) fl_X7_9 sh_62 rfl ?_
      refine V_iload_n (pc := 35) hG (dk dd_X7_lastDream 19 rfl) rfl ?_
      refine V_iald (pc := 36) hG (dk dd_X7_lastDream 20 rfl) sh_63 hr ?_
      refine V_iload_n (pc := 37) hG (dk dd_X7_lastDream 21 rfl) rfl ?_
      refine V_callVi (pc := 38) hG (dk dd_X7_lastDream 22 rfl) ml_X7_57 mo_X2_by sh_15 rfl (c_by co_now hA hv e (hh i (by omega)) rfl hl) (by decide) (by decide) rfl rfl rfl ?_
      refine V_istore_n (pc := 41) hG (dk dd_X7_lastDream 23 rfl) (by decide) (lv' := [(0, _), (1, _), (2, _), (3, _)]) rfl ?_
      refine V_iinc (pc := 42) hG (dk dd_X7_lastDream 24 rfl) rfl (v := _ + 1) rfl (by decide) (lv' := [(0, _), (1, _), (2, _), (3, _)]) rfl ?_
      refine V_goto (pc := 45) hG (dk dd_X7_lastDream 25 rfl) (tgt := 10) (by decide) ?_
      rotate_left
      refine V_iload_n (pc := 23) hG (dk dd_X7_lastDream 13 rfl) rfl ?_
      refine V_goto (pc := 24) hG (dk dd_X7_lastDream 14 rfl) (tgt := 41) (by decide) ?_
      refine V_istore_n (pc := 41) hG (dk dd_X7_lastDream 23 rfl) (by decide) (lv' := [(0, _), (1, _), (2, _), (3, _)]) rfl ?_
      refine V_iinc (pc := 42) hG (dk dd_X7_lastDream 24 rfl) rfl (v := _ + 1) rfl (by decide) (lv' := [(0, _), (1, _), (2, _), (3, _)]) rfl ?_
      refine V_goto (pc := 45) hG (dk dd_X7_lastDream 25 rfl) (tgt := 10) (by decide) ?_
      rotate_left
      -- leaves: stop 48; stop 10; stop 10
      · exfalso; rw [t1] at h15; have := le_i h15 (by omega) (by omega); omega
      · rw [if_neg (fun q => by rcases hx with z | z; exact h20 (by rw [z.1, q]); omega)] at hI; exact hI
      · rw [if_pos (by
          rcases hx with z | z
          · rw [z.1] at h20; exact (nI_eq (by omega) (by omega)).mp h20
          · rw [z.1] at h20; exact absurd (show nI i < 0 by rw [h20]; decide) (nI_pos (by omega)))] at hI
        exact hI
  refine V_aload_n (pc := 0) hG (dk dd_X7_lastDream 0 rfl) rfl ?_
  refine V_getR (pc := 1) hG (dk dd_X7_lastDream 1 rfl) fl_X7_18 sh_62 rfl ?_
  refine V_getI (pc := 4) hG (dk dd_X7_lastDream 2 rfl) fl_X7_54 sh_15 rfl ?_
  refine V_istore_n (pc := 7) hG (dk dd_X7_lastDream 3 rfl) (by decide) (lv' := [(0, _), (1, _), (2, _)]) rfl ?_
  refine V_iconst (pc := 8) hG (dk dd_X7_lastDream 4 rfl) (v := 0) (by decide) ?_
  refine V_istore_n (pc := 9) hG (dk dd_X7_lastDream 5 rfl) (by decide) (lv' := [(0, _), (1, _), (2, _), (3, _)]) rfl ?_
  rotate_left
  -- leaves: stop 10
  · rw [e3]; exact loop n 0 (by omega)
/-- the hum h is otherwise, all others are as they are -/
def Oth (α β : Al) (h : Nat) : Prop := α 0 0 = β 0 0 ∧ ∀ q, q ≠ h → α 1 q = β 1 q ∧ α 2 q = β 2 q ∧ α 3 q = β 3 q
theorem Oth.hum {α β : Al} {h q : Nat} (hO : Oth α β h) (hq : q ≠ h) (D : Nat) : humN α q D = humN β q D := by
  obtain ⟨a, b, c⟩ := hO.2 q hq
  unfold humN; rw [hO.1, a, b, c]
theorem c_fits {μ : Mem} {α β : Al} (hA : Abs (kac μ 15) α) (hv : Val α) {hs : Nat → Nat} {n : Nat} (hT : Told μ hs n) (hn : n ≤ 12) (hh : ∀ k, k < n → hs k < α 0 6) {f hm kd th ot : Int32} {D h : Nat} (hf : f = nI D) (hD : D < 2 ^ α 0 0)
    (hO : Oth α β h) (hc : (hm = nI h ∧ h < α 0 6 ∧ kd = nI (β 1 h) ∧ (1 ≤ β 1 h ∧ β 1 h ≤ 5) ∧ th = nI (β 2 h) ∧ β 2 h < α 0 0 ∧ ot = nI (β 3 h) ∧ β 3 h < α 0 0) ∨ (hm = -1 ∧ ∀ q, q < α 0 6 → q ≠ h)) :
    CtP yX7_fits cX7_fits 8 (some .boolean) 3 [vR 62, vI f, vI hm, vI kd, vI th, vI ot] μ (Pi (fun r μ' => μ' = μ ∧ is1 r (Fit β hs (μ 64) n D))) := by
  refine CtP.go RX7 rfl pn_X7 (Nat.le_of_ble_eq_true rfl) (fun C hG hR => ?_)
  subst hf
  obtain ⟨t1, t2⟩ := hT
  have hrun : ∀ k, k ≤ n → runN β hs D k < 2 ^ α 0 0 := by
    intro k
    induction k with
    | zero => exact fun _ => hD
    | succ k ih =>
      intro hk
      have ih := ih (by omega)
      rw [runN_s]
      by_cases e : hs k = h
      · rcases hc with z | z
        · unfold humN; rw [e, ← hO.1]; exact humB_lt ih z.2.2.2.2.2.1
        · exact absurd e (z.2 _ (hh k (by omega)))
      · rw [← hO.hum e]; exact humN_lt hv (hh k (by omega)) ih
  have hH := hv.H
  have loop : ∀ k i, i + k = n → (∀ q, q < i → nI (runN β hs D (q + 1)) = μ 64 q) → V C 6 [(0, vR 62), (1, vI (nI D)), (2, vI hm), (3, vI kd), (4, vI th), (5, vI ot), (6, vI (nI (runN β hs D i))), (7, vI (nI i))] [] μ := by
    intro k
    induction k with
    | zero =>
      intro i hi hq
      refine V_iload (pc := 6) hG (dk dd_X7_fits 4 rfl) rfl ?_
      refine V_aload_n (pc := 8) hG (dk dd_X7_fits 5 rfl) rfl ?_
      refine V_getI (pc := 9) hG (dk dd_X7_fits 6 rfl) fl_X7_34 sh_62 rfl ?_
      refine V_icmp_ge (pc := 12) hG (dk dd_X7_fits 7 rfl) (tgt := 81) (by decide) (fun h12 => ?_) (fun h12 => ?_)
      refine V_iconst (pc := 81) hG (dk dd_X7_fits 41 rfl) (v := 1) (by decide) ?_
      refine V_zretP (pc := 82) hG (dk dd_X7_fits 42 rfl) (by decide) hR (Pi.mk ?_)
      rotate_left
      rotate_left
      -- leaves: return@82; stop 15
      · exact ⟨rfl, is1.t (fun q hq' => hq q (by omega))⟩
      · exfalso; rw [t1] at h12; have := nle_i h12 (by omega) (by omega); omega
    | succ k ih =>
      intro i hi hq
      have hI := fun z => ih (i + 1) (by omega) z
      rw [nI_succ] at hI
      have hr : vp_in (nI i) 12 := vp_in_nI (by omega) (by decide)
      have ci : (nI i).toNatClampNeg = i := nI_clamp (by omega)
      have e : μ 63 (nI i).toNatClampNeg = nI (hs i) := by rw [ci]; exact t2 i (by omega)
      have hhi := hh i (by omega)
      have hl := hrun i (by omega)
      have hl2 := hv.lt (hrun (i + 1) (by omega))
      have fin : V C 59 [(0, vR 62), (1, vI (nI D)), (2, vI hm), (3, vI kd), (4, vI th), (5, vI ot), (6, vI (nI (runN β hs D i))), (7, vI (nI i))] [vI (nI (runN β hs D (i + 1)))] μ := by
        refine V_istore (pc := 59) hG (dk dd_X7_fits 30 rfl) (by decide) (lv' := [(0, _), (1, _), (2, _), (3, _), (4, _), (5, _), (6, _), (7, _)]) rfl ?_
        refine V_iload (pc := 61) hG (dk dd_X7_fits 31 rfl) rfl ?_
        refine V_aload_n (pc := 63) hG (dk dd_X7_fits 32 rfl) rfl ?_
        refine V_getR (pc := 64) hG (dk dd_X7_fits 33 rfl) fl_X7_15 sh_62 rfl ?_
        refine V_iload (pc := 67) hG (dk dd_X7_fits 34 rfl) rfl ?_
        refine V_iald (pc := 69) hG (dk dd_X7_fits 35 rfl) sh_64 hr ?_
        refine V_icmp_eq (pc := 70) hG (dk dd_X7_fits 36 rfl) (tgt := 75) (by decide) (fun h70 => ?_) (fun h70 => ?_)
        refine V_iinc (pc := 75) hG (dk dd_X7_fits 39 rfl) rfl (v := _ + 1) rfl (by decide) (lv' := [(0, _), (1, _), (2, _), (3, _), (4, _), (5, _), (6, _), (7, _)]) rfl ?_
        refine V_goto (pc := 78) hG (dk dd_X7_fits 40 rfl) (tgt := 6) (by decide) ?_
        rotate_left
        refine V_iconst (pc := 73) hG (dk dd_X7_fits 37 rfl) (v := 0) (by decide) ?_
        refine V_zretP (pc := 74) hG (dk dd_X7_fits 38 rfl) (by decide) hR (Pi.mk ?_)
        rotate_left
        -- leaves: stop 6; return@74
        · rw [ci] at h70
          refine hI (fun q hq' => ?_)
          rcases Nat.lt_succ_iff_lt_or_eq.mp hq' with z | z
          · exact hq q z
          · rw [z]; exact h70
        · rw [ci] at h70
          exact ⟨rfl, is1.f (fun z => h70 (z i (by omega)))⟩
      refine V_iload (pc := 6) hG (dk dd_X7_fits 4 rfl) rfl ?_
      refine V_aload_n (pc := 8) hG (dk dd_X7_fits 5 rfl) rfl ?_
      refine V_getI (pc := 9) hG (dk dd_X7_fits 6 rfl) fl_X7_34 sh_62 rfl ?_
      refine V_icmp_ge (pc := 12) hG (dk dd_X7_fits 7 rfl) (tgt := 81) (by decide) (fun h12 => ?_) (fun h12 => ?_)
      rotate_left
      refine V_aload_n (pc := 15) hG (dk dd_X7_fits 8 rfl) rfl ?_
      refine V_getR (pc := 16) hG (dk dd_X7_fits 9 rfl) fl_X7_9 sh_62 rfl ?_
      refine V_iload (pc := 19) hG (dk dd_X7_fits 10 rfl) rfl ?_
      refine V_iald (pc := 21) hG (dk dd_X7_fits 11 rfl) sh_63 hr ?_
      refine V_iload_n (pc := 22) hG (dk dd_X7_fits 12 rfl) rfl ?_
      refine V_icmp_ne (pc := 23) hG (dk dd_X7_fits 13 rfl) (tgt := 43) (by decide) (fun h23 => ?_) (fun h23 => ?_)
      refine V_aload_n (pc := 43) hG (dk dd_X7_fits 22 rfl) rfl ?_
      refine V_getR (pc := 44) hG (dk dd_X7_fits 23 rfl) fl_X7_18 sh_62 rfl ?_
      refine V_aload_n (pc := 47) hG (dk dd_X7_fits 24 rfl) rfl ?_
      refine V_getR (pc := 48) hG (dk dd_X7_fits 25 rfl) fl_X7_9 sh_62 rfl ?_
      refine V_iload (pc := 51) hG (dk dd_X7_fits 26 rfl) rfl ?_
      refine V_iald (pc := 53) hG (dk dd_X7_fits 27 rfl) sh_63 hr ?_
      refine V_iload (pc := 54) hG (dk dd_X7_fits 28 rfl) rfl ?_
      refine V_callVi (pc := 56) hG (dk dd_X7_fits 29 rfl) ml_X7_57 mo_X2_by sh_15 rfl (c_by co_now hA hv e hhi rfl hl) (by decide) (by decide) rfl rfl rfl ?_
      rotate_left
      refine V_aload_n (pc := 26) hG (dk dd_X7_fits 14 rfl) rfl ?_
      refine V_getR (pc := 27) hG (dk dd_X7_fits 15 rfl) fl_X7_18 sh_62 rfl ?_
      refine V_iload_n (pc := 30) hG (dk dd_X7_fits 16 rfl) rfl ?_
      refine V_iload (pc := 31) hG (dk dd_X7_fits 17 rfl) rfl ?_
      refine V_iload (pc := 33) hG (dk dd_X7_fits 18 rfl) rfl ?_
      refine V_iload (pc := 35) hG (dk dd_X7_fits 19 rfl) rfl ?_
      refine V_callVi (pc := 37) hG (dk dd_X7_fits 20 rfl) ml_X7_88 mo_X2_byKind sh_15 rfl (c_byKind (t := α 0 0) (k := β 1 h) (K := β 2 h) (O := β 3 h) co_now (hA.1 0 (by decide)) hv.t ?_ ?_ ?_ ?_ ?_ ?_ rfl (hv.lt hl)) (by decide) (by decide) rfl rfl rfl ?_
      rotate_left
      rotate_left
      rotate_left
      rotate_left
      rotate_left
      rotate_left
      refine V_goto (pc := 40) hG (dk dd_X7_fits 21 rfl) (tgt := 59) (by decide) ?_
      rotate_left
      -- leaves: stop 81; stop 59; call byKind@37 0; call byKind@37 1; call byKind@37 2; call byKind@37 3; call byKind@37 4; call byKind@37 5; stop 59
      · exfalso; rw [t1] at h12; have := le_i h12 (by omega) (by omega); omega
      · have hne : hs i ≠ h := by
          intro q
          rcases hc with z | z
          · exact h23 (by rw [e, z.1, q])
          · exact z.2 _ hhi q
        rw [hO.hum hne, ← runN_s]; exact fin
      all_goals rcases hc with z | z
      all_goals try (exfalso; rw [e, z.1] at h23; exact absurd (show nI (hs i) < 0 by rw [h23]; decide) (nI_pos (by omega)))
      · exact z.2.2.1
      · exact z.2.2.2.1
      · exact z.2.2.2.2.1
      · exact z.2.2.2.2.2.1
      · exact z.2.2.2.2.2.2.1
      · exact z.2.2.2.2.2.2.2
      · have hne : hs i = h := by rw [e, z.1] at h23; exact (nI_eq (by omega) (by omega)).mp h23
        have := fin
        rw [runN_s, hne] at this
        unfold humN at this
        rw [← hO.1] at this
        exact this
  refine V_iload_n (pc := 0) hG (dk dd_X7_fits 0 rfl) rfl ?_
  refine V_istore (pc := 1) hG (dk dd_X7_fits 1 rfl) (by decide) (lv' := [(0, _), (1, _), (2, _), (3, _), (4, _), (5, _), (6, _)]) rfl ?_
  refine V_iconst (pc := 3) hG (dk dd_X7_fits 2 rfl) (v := 0) (by decide) ?_
  refine V_istore (pc := 4) hG (dk dd_X7_fits 3 rfl) (by decide) (lv' := [(0, _), (1, _), (2, _), (3, _), (4, _), (5, _), (6, _), (7, _)]) rfl ?_
  rotate_left
  -- leaves: stop 6
  · exact loop n 0 (by omega) (fun q hq => absurd hq (Nat.not_lt_zero q))
end
section
theorem q_orG {D K : Nat} (hD : D < 2 ^ 31) (hK : K < 2 ^ 31) : nI D ||| nI K = nI (D ||| K) := by
  apply Int32.toBitVec_inj.mp
  apply BitVec.eq_of_toNat_eq
  rw [Int32.toBitVec_or, BitVec.toNat_or, pk_tn (n := D) (by omega), pk_tn (n := K) (by omega), pk_tn (Nat.lt_trans (Nat.or_lt_two_pow hD hK) (by decide))]
theorem q_orB {D K : Nat} (hD : D < 2 ^ 31) (hK : K < 31) : nI D ||| bI (nI K) = nI (D ||| 2 ^ K) := by
  rw [q_pow K hK]; exact q_orG hD (Nat.pow_lt_pow_right (by decide) hK)
noncomputable def b1 (P : Prop) (k : Nat) : Nat := @ite Nat P (Classical.propDecidable P) (2 ^ k) 0
theorem b1_t {P : Prop} {k : Nat} (h : P) : b1 P k = 2 ^ k := by unfold b1; exact if_pos h
theorem b1_f {P : Prop} {k : Nat} (h : ¬ P) : b1 P k = 0 := by unfold b1; exact if_neg h
def orT (f : Nat → Nat) : Nat → Nat
  | 0 => 0
  | n + 1 => orT f n ||| f n
theorem orT_s (f : Nat → Nat) (n : Nat) : orT f (n + 1) = orT f n ||| f n := rfl
theorem orT_lt {P : Nat → Prop} : ∀ n, orT (fun v => b1 (P v) v) n < 2 ^ n
  | 0 => Nat.one_pos
  | n + 1 => by
    have h2 : 2 ^ n < 2 ^ (n + 1) := Nat.pow_lt_pow_right (by decide) (Nat.lt_succ_self n)
    have h := Nat.lt_trans (orT_lt (P := P) n) h2
    rw [orT_s]
    by_cases q : P n
    · rw [b1_t q]; exact or_lt h (Nat.lt_succ_self n)
    · rw [b1_f q, Nat.or_zero]; exact h
def updA (α : Al) (x i v : Nat) : Al := fun y j => if y = x ∧ j = i then v else α y j
theorem updA_s (α : Al) (x i v : Nat) : updA α x i v x i = v := by unfold updA; exact if_pos ⟨rfl, rfl⟩
theorem updA_n {α : Al} {x i v y j : Nat} (h : ¬ (y = x ∧ j = i)) : updA α x i v y j = α y j := by unfold updA; exact if_neg h
theorem Oth.upd (α : Al) {x h v : Nat} (hx : 1 ≤ x ∧ x ≤ 3) : Oth α (updA α x h v) h := ⟨(updA_n (by omega)).symm, fun q hq => ⟨(updA_n (by omega)).symm, (updA_n (by omega)).symm, (updA_n (by omega)).symm⟩⟩
/-- places that, not hummed, let the last dream be as told -/
noncomputable def snoN (α : Al) (hs : Nat → Nat) (D L n k : Nat) : Nat := b1 (runS α hs n D n = L) 12 ||| orT (fun q => b1 (runS α hs q D n = L) q) k
theorem c_placesNotHummed {μ : Mem} {α : Al} (hA : Abs (kac μ 15) α) (hv : Val α) {hs : Nat → Nat} {n : Nat} (hT : Told μ hs n) (hn : n ≤ 12) (hh : ∀ k, k < n → hs k < α 0 6) {x : Int32} {L : Nat} (hx : x = nI L) (hL : L < 2 ^ α 0 0) :
    CtP yX7_placesNotHummed cX7_placesNotHummed 4 (some .int) 4 [vR 62, vI x] μ (Pi (fun r μ' => μ' = μ ∧ r = nI (snoN α hs (α 0 3) L n n))) := by
  refine CtP.go RX7 rfl pn_X7 (Nat.le_of_ble_eq_true rfl) (fun C hG hR => ?_)
  subst hx
  have hL8 := hv.lt hL
  have hr8 : ∀ sk, runS α hs sk (α 0 3) n < 256 := fun sk => hv.lt (runS_lt hv hh hv.D n (Nat.le_refl n))
  have loop : ∀ k i, i + k = n → V C 19 [(0, vR 62), (1, vI (nI L)), (2, vI (nI (snoN α hs (α 0 3) L n i))), (3, vI (nI i))] [] μ := by
    intro k
    induction k with
    | zero =>
      intro i hi
      refine V_iload_n (pc := 19) hG (dk dd_X7_placesNotHummed 11 rfl) rfl ?_
      refine V_aload_n (pc := 20) hG (dk dd_X7_placesNotHummed 12 rfl) rfl ?_
      refine V_getI (pc := 21) hG (dk dd_X7_placesNotHummed 13 rfl) fl_X7_34 sh_62 rfl ?_
      refine V_icmp_ge (pc := 24) hG (dk dd_X7_placesNotHummed 14 rfl) (tgt := 52) (by decide) (fun h24 => ?_) (fun h24 => ?_)
      refine V_iload_n (pc := 52) hG (dk dd_X7_placesNotHummed 30 rfl) rfl ?_
      refine V_iretP (pc := 53) hG (dk dd_X7_placesNotHummed 31 rfl) hR (Pi.mk ?_)
      rotate_left
      rotate_left
      -- leaves: return@53; stop 27
      · exact ⟨rfl, by rw [show i = n by omega]⟩
      · exfalso; rw [hT.1] at h24; have := nle_i h24 (by omega) (by omega); omega
    | succ k ih =>
      intro i hi
      have hI := ih (i + 1) (by omega)
      have hlt : snoN α hs (α 0 3) L n i < 2 ^ 13 := by
        refine Nat.or_lt_two_pow ?_ (Nat.lt_of_lt_of_le (orT_lt i) (Nat.pow_le_pow_right (by decide) (by omega)))
        by_cases q : runS α hs n (α 0 3) n = L
        · rw [b1_t q]; decide
        · rw [b1_f q]; decide
      rw [nI_succ, show snoN α hs (α 0 3) L n (i + 1) = snoN α hs (α 0 3) L n i ||| b1 (runS α hs i (α 0 3) n = L) i by unfold snoN; rw [orT_s, Nat.or_assoc]] at hI
      have hri := hr8 i
      refine V_iload_n (pc := 19) hG (dk dd_X7_placesNotHummed 11 rfl) rfl ?_
      refine V_aload_n (pc := 20) hG (dk dd_X7_placesNotHummed 12 rfl) rfl ?_
      refine V_getI (pc := 21) hG (dk dd_X7_placesNotHummed 13 rfl) fl_X7_34 sh_62 rfl ?_
      refine V_icmp_ge (pc := 24) hG (dk dd_X7_placesNotHummed 14 rfl) (tgt := 52) (by decide) (fun h24 => ?_) (fun h24 => ?_)
      rotate_left
      refine V_iload_n (pc := 27) hG (dk dd_X7_placesNotHummed 15 rfl) rfl ?_
      refine V_aload_n (pc := 28) hG (dk dd_X7_placesNotHummed 16 rfl) rfl ?_
      refine V_iload_n (pc := 29) hG (dk dd_X7_placesNotHummed 17 rfl) rfl ?_
      refine V_callVip (pc := 30) hG (dk dd_X7_placesNotHummed 18 rfl) ml_X7_60 mo_X7_lastDream sh_62 rfl (c_lastDream hA hv hT hn hh (sk := i) (Or.inl ⟨rfl, by omega⟩)) (by decide) (by decide) rfl rfl rfl (fun x30 m30 p30 => ?_)
      refine V_iload_n (pc := 33) hG (dk dd_X7_placesNotHummed 19 rfl) rfl ?_
      refine V_icmp_ne (pc := 34) hG (dk dd_X7_placesNotHummed 20 rfl) (tgt := 43) (by decide) (fun h34 => ?_) (fun h34 => ?_)
      refine V_iconst (pc := 43) hG (dk dd_X7_placesNotHummed 25 rfl) (v := 0) (by decide) ?_
      refine V_ior (pc := 44) hG (dk dd_X7_placesNotHummed 26 rfl) ?_
      refine V_istore_n (pc := 45) hG (dk dd_X7_placesNotHummed 27 rfl) (by decide) (lv' := [(0, _), (1, _), (2, _), (3, _)]) rfl ?_
      refine V_iinc (pc := 46) hG (dk dd_X7_placesNotHummed 28 rfl) rfl (v := _ + 1) rfl (by decide) (lv' := [(0, _), (1, _), (2, _), (3, _)]) rfl ?_
      refine V_goto (pc := 49) hG (dk dd_X7_placesNotHummed 29 rfl) (tgt := 19) (by decide) ?_
      rotate_left
      refine V_iconst (pc := 37) hG (dk dd_X7_placesNotHummed 21 rfl) (v := 1) (by decide) ?_
      refine V_iload_n (pc := 38) hG (dk dd_X7_placesNotHummed 22 rfl) rfl ?_
      refine V_ishl (pc := 39) hG (dk dd_X7_placesNotHummed 23 rfl) ?_
      refine V_goto (pc := 40) hG (dk dd_X7_placesNotHummed 24 rfl) (tgt := 44) (by decide) ?_
      refine V_ior (pc := 44) hG (dk dd_X7_placesNotHummed 26 rfl) ?_
      refine V_istore_n (pc := 45) hG (dk dd_X7_placesNotHummed 27 rfl) (by decide) (lv' := [(0, _), (1, _), (2, _), (3, _)]) rfl ?_
      refine V_iinc (pc := 46) hG (dk dd_X7_placesNotHummed 28 rfl) rfl (v := _ + 1) rfl (by decide) (lv' := [(0, _), (1, _), (2, _), (3, _)]) rfl ?_
      refine V_goto (pc := 49) hG (dk dd_X7_placesNotHummed 29 rfl) (tgt := 19) (by decide) ?_
      rotate_left
      -- leaves: stop 52; stop 19; stop 19
      · exfalso; rw [hT.1] at h24; have := le_i h24 (by omega) (by omega); omega
      · obtain ⟨rfl, rfl⟩ := p30
        rw [b1_f (fun q => h34 (by rw [q])), Nat.or_zero] at hI
        rw [Int32.or_zero]; exact hI
      · obtain ⟨rfl, rfl⟩ := p30
        rw [b1_t ((nI_eq (by omega) (by omega)).mp h34), ← q_orB (by omega) (by omega)] at hI
        exact hI
  have hrn := hr8 n
  have h0 := loop n 0 (by omega)
  refine V_aload_n (pc := 0) hG (dk dd_X7_placesNotHummed 0 rfl) rfl ?_
  refine V_iconst (pc := 1) hG (dk dd_X7_placesNotHummed 1 rfl) (v := -1) (by decide) ?_
  refine V_callVip (pc := 2) hG (dk dd_X7_placesNotHummed 2 rfl) ml_X7_60 mo_X7_lastDream sh_62 rfl (c_lastDream hA hv hT hn hh (sk := n) (Or.inr ⟨rfl, rfl⟩)) (by decide) (by decide) rfl rfl rfl (fun x2 m2 p2 => ?_)
  refine V_iload_n (pc := 5) hG (dk dd_X7_placesNotHummed 3 rfl) rfl ?_
  refine V_icmp_ne (pc := 6) hG (dk dd_X7_placesNotHummed 4 rfl) (tgt := 15) (by decide) (fun h6 => ?_) (fun h6 => ?_)
  refine V_iconst (pc := 15) hG (dk dd_X7_placesNotHummed 7 rfl) (v := 0) (by decide) ?_
  refine V_istore_n (pc := 16) hG (dk dd_X7_placesNotHummed 8 rfl) (by decide) (lv' := [(0, _), (1, _), (2, _)]) rfl ?_
  refine V_iconst (pc := 17) hG (dk dd_X7_placesNotHummed 9 rfl) (v := 0) (by decide) ?_
  refine V_istore_n (pc := 18) hG (dk dd_X7_placesNotHummed 10 rfl) (by decide) (lv' := [(0, _), (1, _), (2, _), (3, _)]) rfl ?_
  rotate_left
  refine V_sipush (pc := 9) hG (dk dd_X7_placesNotHummed 5 rfl) (v := 4096) (by decide) ?_
  refine V_goto (pc := 12) hG (dk dd_X7_placesNotHummed 6 rfl) (tgt := 16) (by decide) ?_
  refine V_istore_n (pc := 16) hG (dk dd_X7_placesNotHummed 8 rfl) (by decide) (lv' := [(0, _), (1, _), (2, _)]) rfl ?_
  refine V_iconst (pc := 17) hG (dk dd_X7_placesNotHummed 9 rfl) (v := 0) (by decide) ?_
  refine V_istore_n (pc := 18) hG (dk dd_X7_placesNotHummed 10 rfl) (by decide) (lv' := [(0, _), (1, _), (2, _), (3, _)]) rfl ?_
  rotate_left
  -- leaves: stop 19; stop 19
  · obtain ⟨rfl, rfl⟩ := p2
    unfold snoN at h0
    rw [b1_f (fun q => h6 (by rw [q]))] at h0
    simp only [orT, Nat.or_zero] at h0
    exact h0
  · obtain ⟨rfl, rfl⟩ := p2
    unfold snoN at h0
    rw [b1_t ((nI_eq (by omega) (by omega)).mp h6)] at h0
    simp only [orT, Nat.or_zero] at h0
    exact h0
/-- what fits of a hum: kinds (w = 1), things (2), others (3) -/
noncomputable def whoN (α : Al) (hs : Nat → Nat) (ds : Nat → Int32) (n D h w m : Nat) : Nat := orT (fun v => b1 (¬ (w = 1 ∧ v = 0) ∧ Fit (updA α w h v) hs ds n D) v) m
theorem whoN_s (α : Al) (hs : Nat → Nat) (ds : Nat → Int32) (n D h w m : Nat) : whoN α hs ds n D h w (m + 1) = whoN α hs ds n D h w m ||| b1 (¬ (w = 1 ∧ m = 0) ∧ Fit (updA α w h m) hs ds n D) m := rfl
theorem whoN_lt (α : Al) (hs : Nat → Nat) (ds : Nat → Int32) (n D h w m : Nat) : whoN α hs ds n D h w m < 2 ^ m := orT_lt m
theorem c_kindsThatFit {μ : Mem} {α : Al} (hA : Abs (kac μ 15) α) (hv : Val α) {hs : Nat → Nat} {n : Nat} (hT : Told μ hs n) (hn : n ≤ 12) (hh : ∀ k, k < n → hs k < α 0 6) {x : Int32} {h : Nat} (hx : x = nI h) (hh0 : h < α 0 6) :
    CtP yX7_kindsThatFit cX7_kindsThatFit 4 (some .int) 4 [vR 62, vI x] μ (Pi (fun r μ' => μ' = μ ∧ r = nI (whoN α hs (μ 64) n (α 0 3) h 1 6))) := by
  refine CtP.go RX7 rfl pn_X7 (Nat.le_of_ble_eq_true rfl) (fun C hG hR => ?_)
  subst hx
  have e3 : μ 15 3 = nI (α 0 3) := hA.1 3 (by decide)
  have e0 : μ 15 0 = nI (α 0 0) := hA.1 0 (by decide)
  have hH := hv.H
  have ht := hv.t
  have hk := hv.h hh0
  have hr : vp_in (nI h) 6 := vp_in_nI (by omega) (by decide)
  have loop : ∀ k i, i + k = 6 → 1 ≤ i → V C 4 [(0, vR 62), (1, vI (nI h)), (2, vI (nI (whoN α hs (μ 64) n (α 0 3) h 1 i))), (3, vI (nI i))] [] μ := by
    intro k
    induction k with
    | zero =>
      intro i hi h1i
      refine V_iload_n (pc := 4) hG (dk dd_X7_kindsThatFit 4 rfl) rfl ?_
      refine V_iconst (pc := 5) hG (dk dd_X7_kindsThatFit 5 rfl) (v := 5) (by decide) ?_
      refine V_icmp_gt (pc := 6) hG (dk dd_X7_kindsThatFit 6 rfl) (tgt := 59) (by decide) (fun h6 => ?_) (fun h6 => ?_)
      refine V_iload_n (pc := 59) hG (dk dd_X7_kindsThatFit 35 rfl) rfl ?_
      refine V_iretP (pc := 60) hG (dk dd_X7_kindsThatFit 36 rfl) hR (Pi.mk ?_)
      rotate_left
      rotate_left
      -- leaves: return@60; stop 9
      · exact ⟨rfl, by rw [show i = 6 by omega]⟩
      · exfalso; rw [show (5 : Int32) = nI 5 from rfl] at h6; have := Nat.not_lt.mp (fun z => h6 ((nI_ltI (a := 5) (b := i) (by omega) (by omega)).mpr z)); omega
    | succ k ih =>
      intro i hi h1i
      have hI := ih (i + 1) (by omega) (by omega)
      have hlt : whoN α hs (μ 64) n (α 0 3) h 1 i < 256 := Nat.lt_of_lt_of_le (whoN_lt α hs _ n _ h 1 i) (pow8 (by omega))
      rw [nI_succ, whoN_s] at hI
      have u2 : μ 17 (nI h).toNatClampNeg = nI (updA α 1 h i 2 h) := by rw [updA_n (by omega), nI_clamp (by omega)]; exact hA.2.1 2 h (by decide) (by decide) hh0
      have u3 : μ 18 (nI h).toNatClampNeg = nI (updA α 1 h i 3 h) := by rw [updA_n (by omega), nI_clamp (by omega)]; exact hA.2.1 3 h (by decide) (by decide) hh0
      refine V_iload_n (pc := 4) hG (dk dd_X7_kindsThatFit 4 rfl) rfl ?_
      refine V_iconst (pc := 5) hG (dk dd_X7_kindsThatFit 5 rfl) (v := 5) (by decide) ?_
      refine V_icmp_gt (pc := 6) hG (dk dd_X7_kindsThatFit 6 rfl) (tgt := 59) (by decide) (fun h6 => ?_) (fun h6 => ?_)
      rotate_left
      refine V_iload_n (pc := 9) hG (dk dd_X7_kindsThatFit 7 rfl) rfl ?_
      refine V_aload_n (pc := 10) hG (dk dd_X7_kindsThatFit 8 rfl) rfl ?_
      refine V_aload_n (pc := 11) hG (dk dd_X7_kindsThatFit 9 rfl) rfl ?_
      refine V_getR (pc := 12) hG (dk dd_X7_kindsThatFit 10 rfl) fl_X7_18 sh_62 rfl ?_
      refine V_getI (pc := 15) hG (dk dd_X7_kindsThatFit 11 rfl) fl_X7_54 sh_15 rfl ?_
      refine V_iload_n (pc := 18) hG (dk dd_X7_kindsThatFit 12 rfl) rfl ?_
      refine V_iload_n (pc := 19) hG (dk dd_X7_kindsThatFit 13 rfl) rfl ?_
      refine V_aload_n (pc := 20) hG (dk dd_X7_kindsThatFit 14 rfl) rfl ?_
      refine V_getR (pc := 21) hG (dk dd_X7_kindsThatFit 15 rfl) fl_X7_18 sh_62 rfl ?_
      refine V_getR (pc := 24) hG (dk dd_X7_kindsThatFit 16 rfl) fl_X7_64 sh_15 rfl ?_
      refine V_iload_n (pc := 27) hG (dk dd_X7_kindsThatFit 17 rfl) rfl ?_
      refine V_iald (pc := 28) hG (dk dd_X7_kindsThatFit 18 rfl) sh_17 hr ?_
      refine V_aload_n (pc := 29) hG (dk dd_X7_kindsThatFit 19 rfl) rfl ?_
      refine V_getR (pc := 30) hG (dk dd_X7_kindsThatFit 20 rfl) fl_X7_18 sh_62 rfl ?_
      refine V_getR (pc := 33) hG (dk dd_X7_kindsThatFit 21 rfl) fl_X7_67 sh_15 rfl ?_
      refine V_iload_n (pc := 36) hG (dk dd_X7_kindsThatFit 22 rfl) rfl ?_
      refine V_iald (pc := 37) hG (dk dd_X7_kindsThatFit 23 rfl) sh_18 hr ?_
      refine V_callVip (pc := 38) hG (dk dd_X7_kindsThatFit 24 rfl) ml_X7_70 mo_X7_fits sh_62 rfl (c_fits (α := α) (β := updA α 1 h i) hA hv hT hn hh e3 hv.D (Oth.upd α (by decide)) (Or.inl ⟨rfl, hh0, (congrArg nI (updA_s α 1 h i)).symm, ⟨by rw [updA_s]; omega, by rw [updA_s]; omega⟩, u2, by rw [updA_n (by omega)]; exact hk.2.2.1, u3, by rw [updA_n (by omega)]; exact hk.2.2.2⟩)) (by decide) (by decide) rfl rfl rfl (fun x38 m38 p38 => ?_)
      refine V_if_eq (pc := 41) hG (dk dd_X7_kindsThatFit 25 rfl) (tgt := 50) (by decide) (fun h41 => ?_) (fun h41 => ?_)
      refine V_iconst (pc := 50) hG (dk dd_X7_kindsThatFit 30 rfl) (v := 0) (by decide) ?_
      refine V_ior (pc := 51) hG (dk dd_X7_kindsThatFit 31 rfl) ?_
      refine V_istore_n (pc := 52) hG (dk dd_X7_kindsThatFit 32 rfl) (by decide) (lv' := [(0, _), (1, _), (2, _), (3, _)]) rfl ?_
      refine V_iinc (pc := 53) hG (dk dd_X7_kindsThatFit 33 rfl) rfl (v := _ + 1) rfl (by decide) (lv' := [(0, _), (1, _), (2, _), (3, _)]) rfl ?_
      refine V_goto (pc := 56) hG (dk dd_X7_kindsThatFit 34 rfl) (tgt := 4) (by decide) ?_
      rotate_left
      refine V_iconst (pc := 44) hG (dk dd_X7_kindsThatFit 26 rfl) (v := 1) (by decide) ?_
      refine V_iload_n (pc := 45) hG (dk dd_X7_kindsThatFit 27 rfl) rfl ?_
      refine V_ishl (pc := 46) hG (dk dd_X7_kindsThatFit 28 rfl) ?_
      refine V_goto (pc := 47) hG (dk dd_X7_kindsThatFit 29 rfl) (tgt := 51) (by decide) ?_
      refine V_ior (pc := 51) hG (dk dd_X7_kindsThatFit 31 rfl) ?_
      refine V_istore_n (pc := 52) hG (dk dd_X7_kindsThatFit 32 rfl) (by decide) (lv' := [(0, _), (1, _), (2, _), (3, _)]) rfl ?_
      refine V_iinc (pc := 53) hG (dk dd_X7_kindsThatFit 33 rfl) rfl (v := _ + 1) rfl (by decide) (lv' := [(0, _), (1, _), (2, _), (3, _)]) rfl ?_
      refine V_goto (pc := 56) hG (dk dd_X7_kindsThatFit 34 rfl) (tgt := 4) (by decide) ?_
      rotate_left
      -- leaves: stop 59; stop 4; stop 4
      · exfalso; have := (nI_ltI (a := 5) (b := i) (by omega) (by omega)).mp h6; omega
      · obtain ⟨rfl, p38⟩ := p38
        rw [b1_f (fun q => p38.no h41 q.2), Nat.or_zero] at hI
        rw [Int32.or_zero]; exact hI
      · obtain ⟨rfl, p38⟩ := p38
        rw [b1_t ⟨by omega, p38.yes h41⟩, ← q_or _ hlt _ (by omega)] at hI
        exact hI
  refine V_iconst (pc := 0) hG (dk dd_X7_kindsThatFit 0 rfl) (v := 0) (by decide) ?_
  refine V_istore_n (pc := 1) hG (dk dd_X7_kindsThatFit 1 rfl) (by decide) (lv' := [(0, _), (1, _), (2, _)]) rfl ?_
  refine V_iconst (pc := 2) hG (dk dd_X7_kindsThatFit 2 rfl) (v := 1) (by decide) ?_
  refine V_istore_n (pc := 3) hG (dk dd_X7_kindsThatFit 3 rfl) (by decide) (lv' := [(0, _), (1, _), (2, _), (3, _)]) rfl ?_
  rotate_left
  -- leaves: stop 4
  · have := loop 5 1 (by omega) (by omega)
    rw [whoN_s, b1_f (fun q => q.1 ⟨rfl, rfl⟩)] at this
    simp only [whoN, orT, Nat.or_zero] at this
    exact this
theorem c_thingsThatFit {μ : Mem} {α : Al} (hA : Abs (kac μ 15) α) (hv : Val α) {hs : Nat → Nat} {n : Nat} (hT : Told μ hs n) (hn : n ≤ 12) (hh : ∀ k, k < n → hs k < α 0 6) {x : Int32} {h : Nat} (hx : x = nI h) (hh0 : h < α 0 6) :
    CtP yX7_thingsThatFit cX7_thingsThatFit 4 (some .int) 4 [vR 62, vI x] μ (Pi (fun r μ' => μ' = μ ∧ r = nI (whoN α hs (μ 64) n (α 0 3) h 2 (α 0 0)))) := by
  refine CtP.go RX7 rfl pn_X7 (Nat.le_of_ble_eq_true rfl) (fun C hG hR => ?_)
  subst hx
  have e3 : μ 15 3 = nI (α 0 3) := hA.1 3 (by decide)
  have e0 : μ 15 0 = nI (α 0 0) := hA.1 0 (by decide)
  have hH := hv.H
  have ht := hv.t
  have hk := hv.h hh0
  have hr : vp_in (nI h) 6 := vp_in_nI (by omega) (by decide)
  have loop : ∀ k i, i + k = (α 0 0) → 0 ≤ i → V C 4 [(0, vR 62), (1, vI (nI h)), (2, vI (nI (whoN α hs (μ 64) n (α 0 3) h 2 i))), (3, vI (nI i))] [] μ := by
    intro k
    induction k with
    | zero =>
      intro i hi h1i
      refine V_iload_n (pc := 4) hG (dk dd_X7_thingsThatFit 4 rfl) rfl ?_
      refine V_aload_n (pc := 5) hG (dk dd_X7_thingsThatFit 5 rfl) rfl ?_
      refine V_getR (pc := 6) hG (dk dd_X7_thingsThatFit 6 rfl) fl_X7_18 sh_62 rfl ?_
      refine V_getI (pc := 9) hG (dk dd_X7_thingsThatFit 7 rfl) fl_X7_74 sh_15 rfl ?_
      refine V_icmp_ge (pc := 12) hG (dk dd_X7_thingsThatFit 8 rfl) (tgt := 65) (by decide) (fun h12 => ?_) (fun h12 => ?_)
      refine V_iload_n (pc := 65) hG (dk dd_X7_thingsThatFit 37 rfl) rfl ?_
      refine V_iretP (pc := 66) hG (dk dd_X7_thingsThatFit 38 rfl) hR (Pi.mk ?_)
      rotate_left
      rotate_left
      -- leaves: return@66; stop 15
      · exact ⟨rfl, by rw [show i = (α 0 0) by omega]⟩
      · exfalso; rw [e0] at h12; have := nle_i h12 (by omega) (by omega); omega
    | succ k ih =>
      intro i hi h1i
      have hI := ih (i + 1) (by omega) (by omega)
      have hlt : whoN α hs (μ 64) n (α 0 3) h 2 i < 256 := Nat.lt_of_lt_of_le (whoN_lt α hs _ n _ h 2 i) (pow8 (by omega))
      rw [nI_succ, whoN_s] at hI
      have u1 : μ 16 (nI h).toNatClampNeg = nI (updA α 2 h i 1 h) := by rw [updA_n (by omega), nI_clamp (by omega)]; exact hA.2.1 1 h (by decide) (by decide) hh0
      have u3 : μ 18 (nI h).toNatClampNeg = nI (updA α 2 h i 3 h) := by rw [updA_n (by omega), nI_clamp (by omega)]; exact hA.2.1 3 h (by decide) (by decide) hh0
      refine V_iload_n (pc := 4) hG (dk dd_X7_thingsThatFit 4 rfl) rfl ?_
      refine V_aload_n (pc := 5) hG (dk dd_X7_thingsThatFit 5 rfl) rfl ?_
      refine V_getR (pc := 6) hG (dk dd_X7_thingsThatFit 6 rfl) fl_X7_18 sh_62 rfl ?_
      refine V_getI (pc := 9) hG (dk dd_X7_thingsThatFit 7 rfl) fl_X7_74 sh_15 rfl ?_
      refine V_icmp_ge (pc := 12) hG (dk dd_X7_thingsThatFit 8 rfl) (tgt := 65) (by decide) (fun h12 => ?_) (fun h12 => ?_)
      rotate_left
      refine V_iload_n (pc := 15) hG (dk dd_X7_thingsThatFit 9 rfl) rfl ?_
      refine V_aload_n (pc := 16) hG (dk dd_X7_thingsThatFit 10 rfl) rfl ?_
      refine V_aload_n (pc := 17) hG (dk dd_X7_thingsThatFit 11 rfl) rfl ?_
      refine V_getR (pc := 18) hG (dk dd_X7_thingsThatFit 12 rfl) fl_X7_18 sh_62 rfl ?_
      refine V_getI (pc := 21) hG (dk dd_X7_thingsThatFit 13 rfl) fl_X7_54 sh_15 rfl ?_
      refine V_iload_n (pc := 24) hG (dk dd_X7_thingsThatFit 14 rfl) rfl ?_
      refine V_aload_n (pc := 25) hG (dk dd_X7_thingsThatFit 15 rfl) rfl ?_
      refine V_getR (pc := 26) hG (dk dd_X7_thingsThatFit 16 rfl) fl_X7_18 sh_62 rfl ?_
      refine V_getR (pc := 29) hG (dk dd_X7_thingsThatFit 17 rfl) fl_X7_77 sh_15 rfl ?_
      refine V_iload_n (pc := 32) hG (dk dd_X7_thingsThatFit 18 rfl) rfl ?_
      refine V_iald (pc := 33) hG (dk dd_X7_thingsThatFit 19 rfl) sh_16 hr ?_
      refine V_iload_n (pc := 34) hG (dk dd_X7_thingsThatFit 20 rfl) rfl ?_
      refine V_aload_n (pc := 35) hG (dk dd_X7_thingsThatFit 21 rfl) rfl ?_
      refine V_getR (pc := 36) hG (dk dd_X7_thingsThatFit 22 rfl) fl_X7_18 sh_62 rfl ?_
      refine V_getR (pc := 39) hG (dk dd_X7_thingsThatFit 23 rfl) fl_X7_67 sh_15 rfl ?_
      refine V_iload_n (pc := 42) hG (dk dd_X7_thingsThatFit 24 rfl) rfl ?_
      refine V_iald (pc := 43) hG (dk dd_X7_thingsThatFit 25 rfl) sh_18 hr ?_
      refine V_callVip (pc := 44) hG (dk dd_X7_thingsThatFit 26 rfl) ml_X7_70 mo_X7_fits sh_62 rfl (c_fits (α := α) (β := updA α 2 h i) hA hv hT hn hh e3 hv.D (Oth.upd α (by decide)) (Or.inl ⟨rfl, hh0, u1, by rw [updA_n (by omega)]; exact ⟨hk.1, hk.2.1⟩, (congrArg nI (updA_s α 2 h i)).symm, by rw [updA_s]; omega, u3, by rw [updA_n (by omega)]; exact hk.2.2.2⟩)) (by decide) (by decide) rfl rfl rfl (fun x44 m44 p44 => ?_)
      refine V_if_eq (pc := 47) hG (dk dd_X7_thingsThatFit 27 rfl) (tgt := 56) (by decide) (fun h47 => ?_) (fun h47 => ?_)
      refine V_iconst (pc := 56) hG (dk dd_X7_thingsThatFit 32 rfl) (v := 0) (by decide) ?_
      refine V_ior (pc := 57) hG (dk dd_X7_thingsThatFit 33 rfl) ?_
      refine V_istore_n (pc := 58) hG (dk dd_X7_thingsThatFit 34 rfl) (by decide) (lv' := [(0, _), (1, _), (2, _), (3, _)]) rfl ?_
      refine V_iinc (pc := 59) hG (dk dd_X7_thingsThatFit 35 rfl) rfl (v := _ + 1) rfl (by decide) (lv' := [(0, _), (1, _), (2, _), (3, _)]) rfl ?_
      refine V_goto (pc := 62) hG (dk dd_X7_thingsThatFit 36 rfl) (tgt := 4) (by decide) ?_
      rotate_left
      refine V_iconst (pc := 50) hG (dk dd_X7_thingsThatFit 28 rfl) (v := 1) (by decide) ?_
      refine V_iload_n (pc := 51) hG (dk dd_X7_thingsThatFit 29 rfl) rfl ?_
      refine V_ishl (pc := 52) hG (dk dd_X7_thingsThatFit 30 rfl) ?_
      refine V_goto (pc := 53) hG (dk dd_X7_thingsThatFit 31 rfl) (tgt := 57) (by decide) ?_
      refine V_ior (pc := 57) hG (dk dd_X7_thingsThatFit 33 rfl) ?_
      refine V_istore_n (pc := 58) hG (dk dd_X7_thingsThatFit 34 rfl) (by decide) (lv' := [(0, _), (1, _), (2, _), (3, _)]) rfl ?_
      refine V_iinc (pc := 59) hG (dk dd_X7_thingsThatFit 35 rfl) rfl (v := _ + 1) rfl (by decide) (lv' := [(0, _), (1, _), (2, _), (3, _)]) rfl ?_
      refine V_goto (pc := 62) hG (dk dd_X7_thingsThatFit 36 rfl) (tgt := 4) (by decide) ?_
      rotate_left
      -- leaves: stop 65; stop 4; stop 4
      · exfalso; rw [e0] at h12; have := le_i h12 (by omega) (by omega); omega
      · obtain ⟨rfl, p44⟩ := p44
        rw [b1_f (fun q => p44.no h47 q.2), Nat.or_zero] at hI
        rw [Int32.or_zero]; exact hI
      · obtain ⟨rfl, p44⟩ := p44
        rw [b1_t ⟨by omega, p44.yes h47⟩, ← q_or _ hlt _ (by omega)] at hI
        exact hI
  refine V_iconst (pc := 0) hG (dk dd_X7_thingsThatFit 0 rfl) (v := 0) (by decide) ?_
  refine V_istore_n (pc := 1) hG (dk dd_X7_thingsThatFit 1 rfl) (by decide) (lv' := [(0, _), (1, _), (2, _)]) rfl ?_
  refine V_iconst (pc := 2) hG (dk dd_X7_thingsThatFit 2 rfl) (v := 0) (by decide) ?_
  refine V_istore_n (pc := 3) hG (dk dd_X7_thingsThatFit 3 rfl) (by decide) (lv' := [(0, _), (1, _), (2, _), (3, _)]) rfl ?_
  rotate_left
  -- leaves: stop 4
  · exact loop (α 0 0) 0 (by omega) (by omega)
theorem c_othersThatFit {μ : Mem} {α : Al} (hA : Abs (kac μ 15) α) (hv : Val α) {hs : Nat → Nat} {n : Nat} (hT : Told μ hs n) (hn : n ≤ 12) (hh : ∀ k, k < n → hs k < α 0 6) {x : Int32} {h : Nat} (hx : x = nI h) (hh0 : h < α 0 6) :
    CtP yX7_othersThatFit cX7_othersThatFit 4 (some .int) 4 [vR 62, vI x] μ (Pi (fun r μ' => μ' = μ ∧ r = nI (whoN α hs (μ 64) n (α 0 3) h 3 (α 0 0)))) := by
  refine CtP.go RX7 rfl pn_X7 (Nat.le_of_ble_eq_true rfl) (fun C hG hR => ?_)
  subst hx
  have e3 : μ 15 3 = nI (α 0 3) := hA.1 3 (by decide)
  have e0 : μ 15 0 = nI (α 0 0) := hA.1 0 (by decide)
  have hH := hv.H
  have ht := hv.t
  have hk := hv.h hh0
  have hr : vp_in (nI h) 6 := vp_in_nI (by omega) (by decide)
  have loop : ∀ k i, i + k = (α 0 0) → 0 ≤ i → V C 4 [(0, vR 62), (1, vI (nI h)), (2, vI (nI (whoN α hs (μ 64) n (α 0 3) h 3 i))), (3, vI (nI i))] [] μ := by
    intro k
    induction k with
    | zero =>
      intro i hi h1i
      refine V_iload_n (pc := 4) hG (dk dd_X7_othersThatFit 4 rfl) rfl ?_
      refine V_aload_n (pc := 5) hG (dk dd_X7_othersThatFit 5 rfl) rfl ?_
      refine V_getR (pc := 6) hG (dk dd_X7_othersThatFit 6 rfl) fl_X7_18 sh_62 rfl ?_
      refine V_getI (pc := 9) hG (dk dd_X7_othersThatFit 7 rfl) fl_X7_74 sh_15 rfl ?_
      refine V_icmp_ge (pc := 12) hG (dk dd_X7_othersThatFit 8 rfl) (tgt := 65) (by decide) (fun h12 => ?_) (fun h12 => ?_)
      refine V_iload_n (pc := 65) hG (dk dd_X7_othersThatFit 37 rfl) rfl ?_
      refine V_iretP (pc := 66) hG (dk dd_X7_othersThatFit 38 rfl) hR (Pi.mk ?_)
      rotate_left
      rotate_left
      -- leaves: return@66; stop 15
      · exact ⟨rfl, by rw [show i = (α 0 0) by omega]⟩
      · exfalso; rw [e0] at h12; have := nle_i h12 (by omega) (by omega); omega
    | succ k ih =>
      intro i hi h1i
      have hI := ih (i + 1) (by omega) (by omega)
      have hlt : whoN α hs (μ 64) n (α 0 3) h 3 i < 256 := Nat.lt_of_lt_of_le (whoN_lt α hs _ n _ h 3 i) (pow8 (by omega))
      rw [nI_succ, whoN_s] at hI
      have u1 : μ 16 (nI h).toNatClampNeg = nI (updA α 3 h i 1 h) := by rw [updA_n (by omega), nI_clamp (by omega)]; exact hA.2.1 1 h (by decide) (by decide) hh0
      have u2 : μ 17 (nI h).toNatClampNeg = nI (updA α 3 h i 2 h) := by rw [updA_n (by omega), nI_clamp (by omega)]; exact hA.2.1 2 h (by decide) (by decide) hh0
      refine V_iload_n (pc := 4) hG (dk dd_X7_othersThatFit 4 rfl) rfl ?_
      refine V_aload_n (pc := 5) hG (dk dd_X7_othersThatFit 5 rfl) rfl ?_
      refine V_getR (pc := 6) hG (dk dd_X7_othersThatFit 6 rfl) fl_X7_18 sh_62 rfl ?_
      refine V_getI (pc := 9) hG (dk dd_X7_othersThatFit 7 rfl) fl_X7_74 sh_15 rfl ?_
      refine V_icmp_ge (pc := 12) hG (dk dd_X7_othersThatFit 8 rfl) (tgt := 65) (by decide) (fun h12 => ?_) (fun h12 => ?_)
      rotate_left
      refine V_iload_n (pc := 15) hG (dk dd_X7_othersThatFit 9 rfl) rfl ?_
      refine V_aload_n (pc := 16) hG (dk dd_X7_othersThatFit 10 rfl) rfl ?_
      refine V_aload_n (pc := 17) hG (dk dd_X7_othersThatFit 11 rfl) rfl ?_
      refine V_getR (pc := 18) hG (dk dd_X7_othersThatFit 12 rfl) fl_X7_18 sh_62 rfl ?_
      refine V_getI (pc := 21) hG (dk dd_X7_othersThatFit 13 rfl) fl_X7_54 sh_15 rfl ?_
      refine V_iload_n (pc := 24) hG (dk dd_X7_othersThatFit 14 rfl) rfl ?_
      refine V_aload_n (pc := 25) hG (dk dd_X7_othersThatFit 15 rfl) rfl ?_
      refine V_getR (pc := 26) hG (dk dd_X7_othersThatFit 16 rfl) fl_X7_18 sh_62 rfl ?_
      refine V_getR (pc := 29) hG (dk dd_X7_othersThatFit 17 rfl) fl_X7_77 sh_15 rfl ?_
      refine V_iload_n (pc := 32) hG (dk dd_X7_othersThatFit 18 rfl) rfl ?_
      refine V_iald (pc := 33) hG (dk dd_X7_othersThatFit 19 rfl) sh_16 hr ?_
      refine V_aload_n (pc := 34) hG (dk dd_X7_othersThatFit 20 rfl) rfl ?_
      refine V_getR (pc := 35) hG (dk dd_X7_othersThatFit 21 rfl) fl_X7_18 sh_62 rfl ?_
      refine V_getR (pc := 38) hG (dk dd_X7_othersThatFit 22 rfl) fl_X7_64 sh_15 rfl ?_
      refine V_iload_n (pc := 41) hG (dk dd_X7_othersThatFit 23 rfl) rfl ?_
      refine V_iald (pc := 42) hG (dk dd_X7_othersThatFit 24 rfl) sh_17 hr ?_
      refine V_iload_n (pc := 43) hG (dk dd_X7_othersThatFit 25 rfl) rfl ?_
      refine V_callVip (pc := 44) hG (dk dd_X7_othersThatFit 26 rfl) ml_X7_70 mo_X7_fits sh_62 rfl (c_fits (α := α) (β := updA α 3 h i) hA hv hT hn hh e3 hv.D (Oth.upd α (by decide)) (Or.inl ⟨rfl, hh0, u1, by rw [updA_n (by omega)]; exact ⟨hk.1, hk.2.1⟩, u2, by rw [updA_n (by omega)]; exact hk.2.2.1, (congrArg nI (updA_s α 3 h i)).symm, by rw [updA_s]; omega⟩)) (by decide) (by decide) rfl rfl rfl (fun x44 m44 p44 => ?_)
      refine V_if_eq (pc := 47) hG (dk dd_X7_othersThatFit 27 rfl) (tgt := 56) (by decide) (fun h47 => ?_) (fun h47 => ?_)
      refine V_iconst (pc := 56) hG (dk dd_X7_othersThatFit 32 rfl) (v := 0) (by decide) ?_
      refine V_ior (pc := 57) hG (dk dd_X7_othersThatFit 33 rfl) ?_
      refine V_istore_n (pc := 58) hG (dk dd_X7_othersThatFit 34 rfl) (by decide) (lv' := [(0, _), (1, _), (2, _), (3, _)]) rfl ?_
      refine V_iinc (pc := 59) hG (dk dd_X7_othersThatFit 35 rfl) rfl (v := _ + 1) rfl (by decide) (lv' := [(0, _), (1, _), (2, _), (3, _)]) rfl ?_
      refine V_goto (pc := 62) hG (dk dd_X7_othersThatFit 36 rfl) (tgt := 4) (by decide) ?_
      rotate_left
      refine V_iconst (pc := 50) hG (dk dd_X7_othersThatFit 28 rfl) (v := 1) (by decide) ?_
      refine V_iload_n (pc := 51) hG (dk dd_X7_othersThatFit 29 rfl) rfl ?_
      refine V_ishl (pc := 52) hG (dk dd_X7_othersThatFit 30 rfl) ?_
      refine V_goto (pc := 53) hG (dk dd_X7_othersThatFit 31 rfl) (tgt := 57) (by decide) ?_
      refine V_ior (pc := 57) hG (dk dd_X7_othersThatFit 33 rfl) ?_
      refine V_istore_n (pc := 58) hG (dk dd_X7_othersThatFit 34 rfl) (by decide) (lv' := [(0, _), (1, _), (2, _), (3, _)]) rfl ?_
      refine V_iinc (pc := 59) hG (dk dd_X7_othersThatFit 35 rfl) rfl (v := _ + 1) rfl (by decide) (lv' := [(0, _), (1, _), (2, _), (3, _)]) rfl ?_
      refine V_goto (pc := 62) hG (dk dd_X7_othersThatFit 36 rfl) (tgt := 4) (by decide) ?_
      rotate_left
      -- leaves: stop 65; stop 4; stop 4
      · exfalso; rw [e0] at h12; have := le_i h12 (by omega) (by omega); omega
      · obtain ⟨rfl, p44⟩ := p44
        rw [b1_f (fun q => p44.no h47 q.2), Nat.or_zero] at hI
        rw [Int32.or_zero]; exact hI
      · obtain ⟨rfl, p44⟩ := p44
        rw [b1_t ⟨by omega, p44.yes h47⟩, ← q_or _ hlt _ (by omega)] at hI
        exact hI
  refine V_iconst (pc := 0) hG (dk dd_X7_othersThatFit 0 rfl) (v := 0) (by decide) ?_
  refine V_istore_n (pc := 1) hG (dk dd_X7_othersThatFit 1 rfl) (by decide) (lv' := [(0, _), (1, _), (2, _)]) rfl ?_
  refine V_iconst (pc := 2) hG (dk dd_X7_othersThatFit 2 rfl) (v := 0) (by decide) ?_
  refine V_istore_n (pc := 3) hG (dk dd_X7_othersThatFit 3 rfl) (by decide) (lv' := [(0, _), (1, _), (2, _), (3, _)]) rfl ?_
  rotate_left
  -- leaves: stop 4
  · exact loop (α 0 0) 0 (by omega) (by omega)
end
section
theorem c_fitsAsItIs {μ : Mem} {α : Al} (hA : Abs (kac μ 15) α) (hv : Val α) {hs : Nat → Nat} {n : Nat} (hT : Told μ hs n) (hn : n ≤ 12) (hh : ∀ k, k < n → hs k < α 0 6) {f : Int32} {D : Nat} (hf : f = nI D) (hD : D < 2 ^ α 0 0) : CtP yX7_fitsAsItIs cX7_fitsAsItIs 2 (some .boolean) 4 [vR 62, vI f] μ (Pi (fun r μ' => μ' = μ ∧ is1 r (Fit α hs (μ 64) n D))) := by
  refine CtP.go RX7 rfl pn_X7 (Nat.le_of_ble_eq_true rfl) (fun C hG hR => ?_)
  refine V_aload_n (pc := 0) hG (dk dd_X7_fitsAsItIs 0 rfl) rfl ?_
  refine V_iload_n (pc := 1) hG (dk dd_X7_fitsAsItIs 1 rfl) rfl ?_
  refine V_iconst (pc := 2) hG (dk dd_X7_fitsAsItIs 2 rfl) (v := -1) (by decide) ?_
  refine V_iconst (pc := 3) hG (dk dd_X7_fitsAsItIs 3 rfl) (v := 0) (by decide) ?_
  refine V_iconst (pc := 4) hG (dk dd_X7_fitsAsItIs 4 rfl) (v := 0) (by decide) ?_
  refine V_iconst (pc := 5) hG (dk dd_X7_fitsAsItIs 5 rfl) (v := 0) (by decide) ?_
  refine V_callVip (pc := 6) hG (dk dd_X7_fitsAsItIs 6 rfl) ml_X7_70 mo_X7_fits sh_62 rfl (c_fits (α := α) (β := α) (h := 6) hA hv hT hn hh hf hD ⟨rfl, fun _ _ => ⟨rfl, rfl, rfl⟩⟩ (Or.inr ⟨rfl, fun q hq => by have := hv.H; omega⟩)) (by decide) (by decide) rfl rfl rfl (fun x6 m6 p6 => ?_)
  refine V_zretP (pc := 9) hG (dk dd_X7_fitsAsItIs 7 rfl) p6.2.bool hR (Pi.mk ?_)
  rotate_left
  -- leaves: return@9
  · exact p6
noncomputable def cntT (P : Nat → Prop) : Nat → Nat
  | 0 => 0
  | n + 1 => cntT P n + p1 (P n)
theorem cntT_s (P : Nat → Prop) (n : Nat) : cntT P (n + 1) = cntT P n + p1 (P n) := rfl
theorem cntT_le (P : Nat → Prop) : ∀ n, cntT P n ≤ n
  | 0 => Nat.le_refl _
  | n + 1 => by have := cntT_le P n; have := p1_le (P n); rw [cntT_s]; omega
/-- the least number with P, as an int; NONE -/
def IsL (P : Nat → Prop) (N : Nat) (r : Int32) : Prop := (∃ D, D < N ∧ P D ∧ r = nI D ∧ ∀ E, E < D → ¬ P E) ∨ ((∀ D, D < N → ¬ P D) ∧ r = -1000000)
theorem IsL.uniq {P : Nat → Prop} {N : Nat} {r r' : Int32} (h : IsL P N r) (h' : IsL P N r') : r = r' := by
  rcases h with ⟨D, a1, a2, a3, a4⟩ | ⟨a1, a2⟩ <;> rcases h' with ⟨E, b1, b2, b3, b4⟩ | ⟨b1, b2⟩
  · rw [a3, b3]
    rcases Nat.lt_trichotomy D E with q | q | q
    · exact absurd a2 (b4 D q)
    · rw [q]
    · exact absurd b2 (a4 E q)
  · exact absurd a2 (b1 D a1)
  · exact absurd b2 (a1 E b1)
  · rw [a2, b2]
theorem c_howManyBegan {μ : Mem} {α : Al} (hA : Abs (kac μ 15) α) (hv : Val α) {hs : Nat → Nat} {n : Nat} (hT : Told μ hs n) (hn : n ≤ 12) (hh : ∀ k, k < n → hs k < α 0 6) :
    CtP yX7_howManyBegan cX7_howManyBegan 3 (some .int) 5 [vR 62] μ (Pi (fun r μ' => μ' = μ ∧ r = nI (cntT (Fit α hs (μ 64) n) (2 ^ α 0 0)))) := by
  refine CtP.go RX7 rfl pn_X7 (Nat.le_of_ble_eq_true rfl) (fun C hG hR => ?_)
  have e0 : bI (μ 15 0) = nI (2 ^ α 0 0) := by rw [show μ 15 0 = nI (α 0 0) from hA.1 0 (by decide)]; exact q_pow _ (by have := hv.t; omega)
  have hp := pow8 hv.t
  have loop : ∀ k i, i + k = 2 ^ α 0 0 → V C 4 [(0, vR 62), (1, vI (nI (cntT (Fit α hs (μ 64) n) i))), (2, vI (nI i))] [] μ := by
    intro k
    induction k with
    | zero =>
      intro i hi
      refine V_iload_n (pc := 4) hG (dk dd_X7_howManyBegan 4 rfl) rfl ?_
      refine V_aload_n (pc := 5) hG (dk dd_X7_howManyBegan 5 rfl) rfl ?_
      refine V_getR (pc := 6) hG (dk dd_X7_howManyBegan 6 rfl) fl_X7_18 sh_62 rfl ?_
      refine V_callVi (pc := 9) hG (dk dd_X7_howManyBegan 7 rfl) ml_X7_80 mo_X2_dreamCount sh_15 rfl (c_dreamCount co_now) (by decide) (by decide) rfl rfl rfl ?_
      refine V_icmp_ge (pc := 12) hG (dk dd_X7_howManyBegan 8 rfl) (tgt := 37) (by decide) (fun h12 => ?_) (fun h12 => ?_)
      refine V_iload_n (pc := 37) hG (dk dd_X7_howManyBegan 21 rfl) rfl ?_
      refine V_iretP (pc := 38) hG (dk dd_X7_howManyBegan 22 rfl) hR (Pi.mk ?_)
      rotate_left
      rotate_left
      -- leaves: return@38; stop 15
      · exact ⟨rfl, by rw [show i = 2 ^ α 0 0 by omega]⟩
      · exfalso; rw [e0] at h12; have := nle_i h12 (by omega) (by omega); omega
    | succ k ih =>
      intro i hi
      have hI := ih (i + 1) (by omega)
      rw [nI_succ, cntT_s] at hI
      refine V_iload_n (pc := 4) hG (dk dd_X7_howManyBegan 4 rfl) rfl ?_
      refine V_aload_n (pc := 5) hG (dk dd_X7_howManyBegan 5 rfl) rfl ?_
      refine V_getR (pc := 6) hG (dk dd_X7_howManyBegan 6 rfl) fl_X7_18 sh_62 rfl ?_
      refine V_callVi (pc := 9) hG (dk dd_X7_howManyBegan 7 rfl) ml_X7_80 mo_X2_dreamCount sh_15 rfl (c_dreamCount co_now) (by decide) (by decide) rfl rfl rfl ?_
      refine V_icmp_ge (pc := 12) hG (dk dd_X7_howManyBegan 8 rfl) (tgt := 37) (by decide) (fun h12 => ?_) (fun h12 => ?_)
      rotate_left
      refine V_iload_n (pc := 15) hG (dk dd_X7_howManyBegan 9 rfl) rfl ?_
      refine V_aload_n (pc := 16) hG (dk dd_X7_howManyBegan 10 rfl) rfl ?_
      refine V_iload_n (pc := 17) hG (dk dd_X7_howManyBegan 11 rfl) rfl ?_
      refine V_callVip (pc := 18) hG (dk dd_X7_howManyBegan 12 rfl) ml_X7_84 mo_X7_fitsAsItIs sh_62 rfl (c_fitsAsItIs hA hv hT hn hh (D := i) rfl (by omega)) (by decide) (by decide) rfl rfl rfl (fun x18 m18 p18 => ?_)
      refine V_if_eq (pc := 21) hG (dk dd_X7_howManyBegan 13 rfl) (tgt := 28) (by decide) (fun h21 => ?_) (fun h21 => ?_)
      refine V_iconst (pc := 28) hG (dk dd_X7_howManyBegan 16 rfl) (v := 0) (by decide) ?_
      refine V_iadd (pc := 29) hG (dk dd_X7_howManyBegan 17 rfl) ?_
      refine V_istore_n (pc := 30) hG (dk dd_X7_howManyBegan 18 rfl) (by decide) (lv' := [(0, _), (1, _), (2, _)]) rfl ?_
      refine V_iinc (pc := 31) hG (dk dd_X7_howManyBegan 19 rfl) rfl (v := _ + 1) rfl (by decide) (lv' := [(0, _), (1, _), (2, _)]) rfl ?_
      refine V_goto (pc := 34) hG (dk dd_X7_howManyBegan 20 rfl) (tgt := 4) (by decide) ?_
      rotate_left
      refine V_iconst (pc := 24) hG (dk dd_X7_howManyBegan 14 rfl) (v := 1) (by decide) ?_
      refine V_goto (pc := 25) hG (dk dd_X7_howManyBegan 15 rfl) (tgt := 29) (by decide) ?_
      refine V_iadd (pc := 29) hG (dk dd_X7_howManyBegan 17 rfl) ?_
      refine V_istore_n (pc := 30) hG (dk dd_X7_howManyBegan 18 rfl) (by decide) (lv' := [(0, _), (1, _), (2, _)]) rfl ?_
      refine V_iinc (pc := 31) hG (dk dd_X7_howManyBegan 19 rfl) rfl (v := _ + 1) rfl (by decide) (lv' := [(0, _), (1, _), (2, _)]) rfl ?_
      refine V_goto (pc := 34) hG (dk dd_X7_howManyBegan 20 rfl) (tgt := 4) (by decide) ?_
      rotate_left
      -- leaves: stop 37; stop 4; stop 4
      · exfalso; rw [e0] at h12; have := le_i h12 (by omega) (by omega); omega
      · obtain ⟨rfl, p18⟩ := p18
        rw [p1_f (p18.no h21), Nat.add_zero] at hI
        rw [Int32.add_zero]; exact hI
      · obtain ⟨rfl, p18⟩ := p18
        rw [p1_t (p18.yes h21), nI_succ] at hI; exact hI
  refine V_iconst (pc := 0) hG (dk dd_X7_howManyBegan 0 rfl) (v := 0) (by decide) ?_
  refine V_istore_n (pc := 1) hG (dk dd_X7_howManyBegan 1 rfl) (by decide) (lv' := [(0, _), (1, _)]) rfl ?_
  refine V_iconst (pc := 2) hG (dk dd_X7_howManyBegan 2 rfl) (v := 0) (by decide) ?_
  refine V_istore_n (pc := 3) hG (dk dd_X7_howManyBegan 3 rfl) (by decide) (lv' := [(0, _), (1, _), (2, _)]) rfl ?_
  rotate_left
  -- leaves: stop 4
  · exact loop (2 ^ α 0 0) 0 (by omega)
theorem c_leastBegan {μ : Mem} {α : Al} (hA : Abs (kac μ 15) α) (hv : Val α) {hs : Nat → Nat} {n : Nat} (hT : Told μ hs n) (hn : n ≤ 12) (hh : ∀ k, k < n → hs k < α 0 6) :
    CtP yX7_leastBegan cX7_leastBegan 2 (some .int) 5 [vR 62] μ (Pi (fun r μ' => μ' = μ ∧ IsL (Fit α hs (μ 64) n) (2 ^ α 0 0) r)) := by
  refine CtP.go RX7 rfl pn_X7 (Nat.le_of_ble_eq_true rfl) (fun C hG hR => ?_)
  have e0 : bI (μ 15 0) = nI (2 ^ α 0 0) := by rw [show μ 15 0 = nI (α 0 0) from hA.1 0 (by decide)]; exact q_pow _ (by have := hv.t; omega)
  have hp := pow8 hv.t
  have loop : ∀ k i, i + k = 2 ^ α 0 0 → (∀ E, E < i → ¬ Fit α hs (μ 64) n E) → V C 2 [(0, vR 62), (1, vI (nI i))] [] μ := by
    intro k
    induction k with
    | zero =>
      intro i hi hE
      refine V_iload_n (pc := 2) hG (dk dd_X7_leastBegan 2 rfl) rfl ?_
      refine V_aload_n (pc := 3) hG (dk dd_X7_leastBegan 3 rfl) rfl ?_
      refine V_getR (pc := 4) hG (dk dd_X7_leastBegan 4 rfl) fl_X7_18 sh_62 rfl ?_
      refine V_callVi (pc := 7) hG (dk dd_X7_leastBegan 5 rfl) ml_X7_80 mo_X2_dreamCount sh_15 rfl (c_dreamCount co_now) (by decide) (by decide) rfl rfl rfl ?_
      refine V_icmp_ge (pc := 10) hG (dk dd_X7_leastBegan 6 rfl) (tgt := 29) (by decide) (fun h10 => ?_) (fun h10 => ?_)
      refine V_ldc (pc := 29) hG (dk dd_X7_leastBegan 15 rfl) kk_X7_87 ?_
      refine V_iretP (pc := 31) hG (dk dd_X7_leastBegan 16 rfl) hR (Pi.mk ?_)
      rotate_left
      rotate_left
      -- leaves: return@31; stop 13
      · exact ⟨rfl, Or.inr ⟨fun D hD => hE D (by omega), rfl⟩⟩
      · exfalso; rw [e0] at h10; have := nle_i h10 (by omega) (by omega); omega
    | succ k ih =>
      intro i hi hE
      have hI := fun z => ih (i + 1) (by omega) z
      rw [nI_succ] at hI
      refine V_iload_n (pc := 2) hG (dk dd_X7_leastBegan 2 rfl) rfl ?_
      refine V_aload_n (pc := 3) hG (dk dd_X7_leastBegan 3 rfl) rfl ?_
      refine V_getR (pc := 4) hG (dk dd_X7_leastBegan 4 rfl) fl_X7_18 sh_62 rfl ?_
      refine V_callVi (pc := 7) hG (dk dd_X7_leastBegan 5 rfl) ml_X7_80 mo_X2_dreamCount sh_15 rfl (c_dreamCount co_now) (by decide) (by decide) rfl rfl rfl ?_
      refine V_icmp_ge (pc := 10) hG (dk dd_X7_leastBegan 6 rfl) (tgt := 29) (by decide) (fun h10 => ?_) (fun h10 => ?_)
      rotate_left
      refine V_aload_n (pc := 13) hG (dk dd_X7_leastBegan 7 rfl) rfl ?_
      refine V_iload_n (pc := 14) hG (dk dd_X7_leastBegan 8 rfl) rfl ?_
      refine V_callVip (pc := 15) hG (dk dd_X7_leastBegan 9 rfl) ml_X7_84 mo_X7_fitsAsItIs sh_62 rfl (c_fitsAsItIs hA hv hT hn hh (D := i) rfl (by omega)) (by decide) (by decide) rfl rfl rfl (fun x15 m15 p15 => ?_)
      refine V_if_eq (pc := 18) hG (dk dd_X7_leastBegan 10 rfl) (tgt := 23) (by decide) (fun h18 => ?_) (fun h18 => ?_)
      refine V_iinc (pc := 23) hG (dk dd_X7_leastBegan 13 rfl) rfl (v := _ + 1) rfl (by decide) (lv' := [(0, _), (1, _)]) rfl ?_
      refine V_goto (pc := 26) hG (dk dd_X7_leastBegan 14 rfl) (tgt := 2) (by decide) ?_
      rotate_left
      refine V_iload_n (pc := 21) hG (dk dd_X7_leastBegan 11 rfl) rfl ?_
      refine V_iretP (pc := 22) hG (dk dd_X7_leastBegan 12 rfl) hR (Pi.mk ?_)
      rotate_left
      -- leaves: stop 29; stop 2; return@22
      · exfalso; rw [e0] at h10; have := le_i h10 (by omega) (by omega); omega
      · obtain ⟨rfl, p15⟩ := p15
        refine hI (fun E hE' => ?_)
        rcases Nat.lt_succ_iff_lt_or_eq.mp hE' with z | z
        · exact hE E z
        · rw [z]; exact p15.no h18
      · obtain ⟨rfl, p15⟩ := p15
        exact ⟨rfl, Or.inl ⟨i, by omega, p15.yes h18, rfl, hE⟩⟩
  refine V_iconst (pc := 0) hG (dk dd_X7_leastBegan 0 rfl) (v := 0) (by decide) ?_
  refine V_istore_n (pc := 1) hG (dk dd_X7_leastBegan 1 rfl) (by decide) (lv' := [(0, _), (1, _)]) rfl ?_
  rotate_left
  -- leaves: stop 2
  · exact loop (2 ^ α 0 0) 0 (by omega) (fun E hE => absurd hE (Nat.not_lt_zero E))
theorem lookN_0 {μ : Mem} {n l m : Nat} {i k : Int32} (hl : μ 12 n = nI l) (hl40 : l ≤ 40) (hk : k = nI m) (hm : m ≤ 40) (h : lookN μ n i k = 0) : ∃ a, i = nI a ∧ a + m ≤ l := by
  unfold lookN at h
  by_cases h1 : μ 11 n = -1
  · rw [if_pos h1] at h; exact absurd h (by decide)
  · rw [if_neg h1] at h
    by_cases h2 : 0 ≤ i ∧ 0 ≤ k ∧ k ≤ μ 12 n ∧ i ≤ μ 12 n - k
    · obtain ⟨a1, a2, a3, a4⟩ := h2
      rw [hk, hl] at a3
      have hml := le_i a3 (by omega) (by omega)
      obtain ⟨a, ha, rfl⟩ := nI_of (Int32.not_lt.mpr a1)
      rw [hl, hk, pk_sub hml] at a4
      have := le_i a4 ha (by omega)
      exact ⟨a, rfl, by omega⟩
    · rw [if_neg h2] at h; exact absurd h (by decide)
/-- what takeHums answers: 1 and 2 as the row is looked at, 3 an item is no hum, 0 -/
def TkH (μ : Mem) (n H m : Nat) (i k : Int32) (r : Int32) (μ' : Mem) : Prop := (r = lookN μ n i k ∧ ¬ r = 0) ∨ (lookN μ n i k = 0 ∧ ∃ a, i = nI a ∧ a + m ≤ 40 ∧ ((r = 3 ∧ ¬ ∀ q, q < m → ∃ h, h < H ∧ μ (3 + n) (a + q) = nI h) ∨ (r = 0 ∧ (∀ q, q < m → ∃ h, h < H ∧ μ (3 + n) (a + q) = nI h) ∧ μ' 62 3 = nI m ∧ ∀ q, q < m → μ' 63 q = μ (3 + n) (a + q))))
theorem c_takeHums {μ : Mem} {x i k : Int32} {n l m H : Nat} (hx : x = nI n) (hn : n < 8) (hl : μ 12 n = nI l) (hl40 : l ≤ 40) (hk : k = nI m) (hm : m ≤ 12) (hH : μ 15 6 = nI H) (hH6 : H ≤ 6) :
    CtP yX7_takeHums cX7_takeHums 7 (some .int) 2 [vR 62, vR 1, vI x, vI i, vI k] μ (Pi (fun r μ' => (∀ a, a ≠ 62 → a ≠ 63 → μ' a = μ a) ∧ TkH μ n H m i k r μ')) := by
  refine CtP.go RX7 rfl pn_X7 (Nat.le_of_ble_eq_true rfl) (fun C hG hR => ?_)
  have hr : vp_in x 8 := in_nI hx hn (by decide)
  have hc : x.toNatClampNeg = n := nI_cl hx (by omega)
  have hmin : (if (12 : Int32) < k then (12 : Int32) else k) = nI m := by
    rw [if_neg (by rw [hk]; exact fun z => by have := (nI_ltI (a := 12) (b := m) (by decide) (by omega)).mp z; omega), hk]
  have loop : ∀ a, lookN μ n i k = 0 → i = nI a → a + m ≤ 40 → ∀ kk q μ1, q + kk = m → (∀ c, c ≠ 62 → c ≠ 63 → μ1 c = μ c) → μ1 62 3 = nI m → (∀ p, p < q → (∃ h, h < H ∧ μ (3 + n) (a + p) = nI h) ∧ μ1 63 p = μ (3 + n) (a + p)) → V C 32 [(0, vR 62), (1, vR 1), (2, vI x), (3, vI i), (4, vI k), (5, vI 0), (6, vI (nI q))] [] μ1 := by
    intro a h0 ha ham kk
    induction kk with
    | zero =>
      intro q μ1 hq f1 f2 f3
      refine V_iload (pc := 32) hG (dk dd_X7_takeHums 17 rfl) rfl ?_
      refine V_aload_n (pc := 34) hG (dk dd_X7_takeHums 18 rfl) rfl ?_
      refine V_getI (pc := 35) hG (dk dd_X7_takeHums 19 rfl) fl_X7_34 sh_62 rfl ?_
      refine V_icmp_ge (pc := 38) hG (dk dd_X7_takeHums 20 rfl) (tgt := 84) (by decide) (fun h38 => ?_) (fun h38 => ?_)
      refine V_iconst (pc := 84) hG (dk dd_X7_takeHums 45 rfl) (v := 0) (by decide) ?_
      refine V_iretP (pc := 85) hG (dk dd_X7_takeHums 46 rfl) hR (Pi.mk ?_)
      rotate_left
      rotate_left
      -- leaves: return@85; stop 41
      · exact ⟨f1, Or.inr ⟨h0, a, ha, ham, Or.inr ⟨rfl, fun p hp => (f3 p (by omega)).1, f2, fun p hp => (f3 p (by omega)).2⟩⟩⟩
      · exfalso; rw [f2] at h38; have := nle_i h38 (by omega) (by omega); omega
    | succ kk ih =>
      intro q μ1 hq f1 f2 f3
      have hi40 : vp_in (i + nI q) 40 := by rw [ha, nI_add]; exact vp_in_nI (by omega) (by decide)
      have hq12 : vp_in (nI q) 12 := vp_in_nI (by omega) (by decide)
      have ci : (i + nI q).toNatClampNeg = a + q := by rw [ha, nI_add]; exact nI_clamp (by omega)
      have cq : (nI q).toNatClampNeg = q := nI_clamp (by omega)
      have eit : μ1 (3 + n) = μ (3 + n) := f1 _ (by omega) (by omega)
      refine V_iload (pc := 32) hG (dk dd_X7_takeHums 17 rfl) rfl ?_
      refine V_aload_n (pc := 34) hG (dk dd_X7_takeHums 18 rfl) rfl ?_
      refine V_getI (pc := 35) hG (dk dd_X7_takeHums 19 rfl) fl_X7_34 sh_62 rfl ?_
      refine V_icmp_ge (pc := 38) hG (dk dd_X7_takeHums 20 rfl) (tgt := 84) (by decide) (fun h38 => ?_) (fun h38 => ?_)
      rotate_left
      refine V_aload_n (pc := 41) hG (dk dd_X7_takeHums 21 rfl) rfl ?_
      refine V_getR (pc := 42) hG (dk dd_X7_takeHums 22 rfl) fl_X7_9 sh_62 rfl ?_
      refine V_iload (pc := 45) hG (dk dd_X7_takeHums 23 rfl) rfl ?_
      refine V_aload_n (pc := 47) hG (dk dd_X7_takeHums 24 rfl) rfl ?_
      refine V_getR (pc := 48) hG (dk dd_X7_takeHums 25 rfl) fl_X7_38 sh_1 rfl ?_
      refine V_iload_n (pc := 51) hG (dk dd_X7_takeHums 26 rfl) rfl ?_
      refine V_ald3 (pc := 52) hG (dk dd_X7_takeHums 27 rfl) sh_2 hr (rs8 hc hn) ?_
      refine V_iload_n (pc := 53) hG (dk dd_X7_takeHums 28 rfl) rfl ?_
      refine V_iload (pc := 54) hG (dk dd_X7_takeHums 29 rfl) rfl ?_
      refine V_iadd (pc := 56) hG (dk dd_X7_takeHums 30 rfl) ?_
      refine V_iald (pc := 57) hG (dk dd_X7_takeHums 31 rfl) (itS hn) hi40 ?_
      refine V_iast (pc := 58) hG (dk dd_X7_takeHums 32 rfl) sh_63 hq12 ?_
      refine V_aload_n (pc := 59) hG (dk dd_X7_takeHums 33 rfl) rfl ?_
      refine V_getR (pc := 60) hG (dk dd_X7_takeHums 34 rfl) fl_X7_18 sh_62 rfl ?_
      refine V_aload_n (pc := 63) hG (dk dd_X7_takeHums 35 rfl) rfl ?_
      refine V_getR (pc := 64) hG (dk dd_X7_takeHums 36 rfl) fl_X7_9 sh_62 rfl ?_
      refine V_iload (pc := 67) hG (dk dd_X7_takeHums 37 rfl) rfl ?_
      refine V_iald (pc := 69) hG (dk dd_X7_takeHums 38 rfl) sh_63 hq12 ?_
      refine V_callVi (pc := 70) hG (dk dd_X7_takeHums 39 rfl) ml_X7_42 mo_X2_isHum sh_15 rfl (c_isHum co_now) (by decide) (by decide) rfl rfl rfl ?_
      refine V_if_ne (pc := 73) hG (dk dd_X7_takeHums 40 rfl) (tgt := 78) (by decide) (fun h73 => ?_) (fun h73 => ?_)
      refine V_iinc (pc := 78) hG (dk dd_X7_takeHums 43 rfl) rfl (v := _ + 1) rfl (by decide) (lv' := [(0, _), (1, _), (2, _), (3, _), (4, _), (5, _), (6, _)]) rfl ?_
      refine V_goto (pc := 81) hG (dk dd_X7_takeHums 44 rfl) (tgt := 32) (by decide) ?_
      rotate_left
      refine V_iconst (pc := 76) hG (dk dd_X7_takeHums 41 rfl) (v := 3) (by decide) ?_
      refine V_iretP (pc := 77) hG (dk dd_X7_takeHums 42 rfl) hR (Pi.mk ?_)
      rotate_left
      -- leaves: stop 84; stop 32; return@77
      · exfalso; rw [f2] at h38; have := le_i h38 (by omega) (by omega); omega
      · rw [setc_s, cq, pk_us, ci, eit, setc_n (by decide), f1 15 (by decide) (by decide), hH] at h73
        have hz : 0 ≤ μ (3 + n) (a + q) ∧ μ (3 + n) (a + q) < nI H := by
          by_cases z : 0 ≤ μ (3 + n) (a + q) ∧ μ (3 + n) (a + q) < nI H
          · exact z
          · rw [if_neg z] at h73; exact absurd rfl h73
        have hI := ih (q + 1) (setc μ1 63 (upd (μ1 63) q (μ (3 + n) (a + q)))) (by omega) (fun c c1 c2 => by rw [setc_n c2]; exact f1 c c1 c2) (by rw [setc_n (by decide)]; exact f2) (fun p hp => by
          rw [setc_s]
          by_cases e : p = q
          · subst e; exact ⟨chk rfl (by omega) hz.1 hz.2, pk_us⟩
          · rw [pk_un e]; exact f3 p (by omega))
        rw [nI_succ] at hI
        rw [cq, ci, eit]; exact hI
      · rw [setc_s, cq, pk_us, ci, eit, setc_n (by decide), f1 15 (by decide) (by decide), hH] at h73
        refine ⟨fun c c1 c2 => by rw [setc_n c2]; exact f1 c c1 c2, Or.inr ⟨h0, a, ha, ham, Or.inl ⟨rfl, fun z => ?_⟩⟩⟩
        obtain ⟨h, z1, z2⟩ := z q (by omega)
        rw [z2, if_pos ⟨nI_pos' (by omega), (nI_ltI (by omega) (by omega)).mpr z1⟩] at h73
        exact absurd h73 (by decide)
  refine V_aload_n (pc := 0) hG (dk dd_X7_takeHums 0 rfl) rfl ?_
  refine V_iload_n (pc := 1) hG (dk dd_X7_takeHums 1 rfl) rfl ?_
  refine V_iload_n (pc := 2) hG (dk dd_X7_takeHums 2 rfl) rfl ?_
  refine V_iload (pc := 3) hG (dk dd_X7_takeHums 3 rfl) rfl ?_
  refine V_callVip (pc := 5) hG (dk dd_X7_takeHums 4 rfl) ml_X7_22 mo_X5_lookedAt sh_1 rfl (c_lookedAt hx hn) (by decide) (by decide) rfl rfl rfl (fun x5 m5 p5 => ?_)
  refine V_istore (pc := 8) hG (dk dd_X7_takeHums 5 rfl) (by decide) (lv' := [(0, _), (1, _), (2, _), (3, _), (4, _), (5, _)]) rfl ?_
  refine V_iload (pc := 10) hG (dk dd_X7_takeHums 6 rfl) rfl ?_
  refine V_if_eq (pc := 12) hG (dk dd_X7_takeHums 7 rfl) (tgt := 18) (by decide) (fun h12 => ?_) (fun h12 => ?_)
  refine V_aload_n (pc := 18) hG (dk dd_X7_takeHums 10 rfl) rfl ?_
  refine V_iload (pc := 19) hG (dk dd_X7_takeHums 11 rfl) rfl ?_
  refine V_bipush (pc := 21) hG (dk dd_X7_takeHums 12 rfl) (v := 12) (by decide) ?_
  refine V_mmin (pc := 23) hG (dk dd_X7_takeHums 13 rfl) ml_X7_28 rfl ?_
  refine V_putI (pc := 26) hG (dk dd_X7_takeHums 14 rfl) fl_X7_34 sh_62 rfl rfl ?_
  refine V_iconst (pc := 29) hG (dk dd_X7_takeHums 15 rfl) (v := 0) (by decide) ?_
  refine V_istore (pc := 30) hG (dk dd_X7_takeHums 16 rfl) (by decide) (lv' := [(0, _), (1, _), (2, _), (3, _), (4, _), (5, _), (6, _)]) rfl ?_
  rotate_left
  refine V_iload (pc := 15) hG (dk dd_X7_takeHums 8 rfl) rfl ?_
  refine V_iretP (pc := 17) hG (dk dd_X7_takeHums 9 rfl) hR (Pi.mk ?_)
  rotate_left
  -- leaves: stop 32; return@17
  · obtain ⟨rfl, rfl⟩ := p5
    obtain ⟨a, ha, ham⟩ := lookN_0 hl hl40 hk (by omega) h12
    rw [hmin, show vI (lookN m5 n i k) = vI 0 by rw [h12]]
    exact loop a h12 ha (by omega) m 0 _ (by omega) (fun c c1 c2 => setc_n c1) (by rw [setc_s, pk_us]) (fun p hp => absurd hp (Nat.not_lt_zero p))
  · obtain ⟨rfl, rfl⟩ := p5
    exact ⟨fun _ _ _ => rfl, Or.inl ⟨rfl, h12⟩⟩
end
section
theorem c_takeDreams {μ : Mem} {x i k : Int32} {n l m : Nat} (hx : x = nI n) (hn : n < 8) (hl : μ 12 n = nI l) (hl40 : l ≤ 40) (hk : k = nI m) (hm : m ≤ 12) (hT : μ 62 3 = nI m) : CtP yX7_takeDreams cX7_takeDreams 6 (some .int) 2 [vR 62, vR 1, vI x, vI i, vI k] μ (Pi (fun r μ' => r = lookN μ n i k ∧ (∀ a, a ≠ 64 → μ' a = μ a) ∧ (r = 0 → ∃ a, i = nI a ∧ a + m ≤ 40 ∧ ∀ q, q < m → μ' 64 q = μ (3 + n) (a + q)))) := by
  refine CtP.go RX7 rfl pn_X7 (Nat.le_of_ble_eq_true rfl) (fun C hG hR => ?_)
  have hr : vp_in x 8 := in_nI hx hn (by decide)
  have hc : x.toNatClampNeg = n := nI_cl hx (by omega)
  refine V_aload_n (pc := 0) hG (dk dd_X7_takeDreams 0 rfl) rfl ?_
  refine V_iload_n (pc := 1) hG (dk dd_X7_takeDreams 1 rfl) rfl ?_
  refine V_iload_n (pc := 2) hG (dk dd_X7_takeDreams 2 rfl) rfl ?_
  refine V_iload (pc := 3) hG (dk dd_X7_takeDreams 3 rfl) rfl ?_
  refine V_callVip (pc := 5) hG (dk dd_X7_takeDreams 4 rfl) ml_X7_22 mo_X5_lookedAt sh_1 rfl (c_lookedAt hx hn) (by decide) (by decide) rfl rfl rfl (fun x5 m5 p5 => ?_)
  refine V_istore (pc := 8) hG (dk dd_X7_takeDreams 5 rfl) (by decide) (lv' := [(0, _), (1, _), (2, _), (3, _), (4, _), (5, _)]) rfl ?_
  refine V_iload (pc := 10) hG (dk dd_X7_takeDreams 6 rfl) rfl ?_
  refine V_if_ne (pc := 12) hG (dk dd_X7_takeDreams 7 rfl) (tgt := 34) (by decide) (fun h12 => ?_) (fun h12 => ?_)
  refine V_iload (pc := 34) hG (dk dd_X7_takeDreams 19 rfl) rfl ?_
  refine V_iretP (pc := 36) hG (dk dd_X7_takeDreams 20 rfl) hR (Pi.mk ?_)
  rotate_left
  refine V_aload_n (pc := 15) hG (dk dd_X7_takeDreams 8 rfl) rfl ?_
  refine V_getR (pc := 16) hG (dk dd_X7_takeDreams 9 rfl) fl_X7_38 sh_1 rfl ?_
  refine V_iload_n (pc := 19) hG (dk dd_X7_takeDreams 10 rfl) rfl ?_
  refine V_ald3 (pc := 20) hG (dk dd_X7_takeDreams 11 rfl) sh_2 hr (rs8 hc hn) ?_
  refine V_iload_n (pc := 21) hG (dk dd_X7_takeDreams 12 rfl) rfl ?_
  refine V_aload_n (pc := 22) hG (dk dd_X7_takeDreams 13 rfl) rfl ?_
  refine V_getR (pc := 23) hG (dk dd_X7_takeDreams 14 rfl) fl_X7_15 sh_62 rfl ?_
  refine V_iconst (pc := 26) hG (dk dd_X7_takeDreams 15 rfl) (v := 0) (by decide) ?_
  refine V_aload_n (pc := 27) hG (dk dd_X7_takeDreams 16 rfl) rfl ?_
  refine V_getI (pc := 28) hG (dk dd_X7_takeDreams 17 rfl) fl_X7_34 sh_62 rfl ?_
  -- arraycopy
  refine V_acopy (pc := 31) hG (dk dd_X7_takeDreams 18 rfl) ml_X7_48 (itS hn) sh_64 ?_ (by decide) ?_ ?_ ?_ rfl ?_
  rotate_left
  rotate_left
  rotate_left
  rotate_left
  refine V_iload (pc := 34) hG (dk dd_X7_takeDreams 19 rfl) rfl ?_
  refine V_iretP (pc := 36) hG (dk dd_X7_takeDreams 20 rfl) hR (Pi.mk ?_)
  rotate_left
  -- leaves: return@36; arraycopy@31 side 0; arraycopy@31 side 1; arraycopy@31 side 2; arraycopy@31 side 3; return@36
  · obtain ⟨rfl, rfl⟩ := p5; exact ⟨rfl, fun _ _ => rfl, fun q => absurd q h12⟩
  · obtain ⟨rfl, rfl⟩ := p5; obtain ⟨a, ha, ham⟩ := lookN_0 hl hl40 hk (by omega) h12; rw [ha]; exact nI_pos (by omega)
  · obtain ⟨rfl, rfl⟩ := p5; rw [hT]; exact nI_pos (by omega)
  · obtain ⟨rfl, rfl⟩ := p5; obtain ⟨a, ha, ham⟩ := lookN_0 hl hl40 hk (by omega) h12; rw [ha, hT, nI_clamp (by omega), nI_clamp (by omega)]; omega
  · obtain ⟨rfl, rfl⟩ := p5; rw [hT, nI_clamp (by omega)]; show 0 + m ≤ 12; omega
  · obtain ⟨rfl, rfl⟩ := p5; obtain ⟨a, ha, ham⟩ := lookN_0 hl hl40 hk (by omega) h12; exact ⟨rfl, fun c hc => setc_n hc, fun _ => ⟨a, ha, by omega, fun q hq => by rw [setc_s, hT, nI_clamp (show m < 2 ^ 31 by omega), ha, nI_clamp (show a < 2 ^ 31 by omega), pk_cpy_in (show (0 : Int32).toNatClampNeg ≤ q from Nat.zero_le q) (by show q < 0 + m; omega)]; rfl⟩⟩
/-! ===== Asking ===== -/
def Tr (μ : Mem) (l : List Nat) : Prop := μ 65 2 = nI l.length ∧ ∀ k, k < l.length → μ 66 k = nI (l.getD k 0)
theorem c_leave {μ : Mem} {x : Int32} {l : List Nat} {b : Nat} (hT : Tr μ l) (hl : l.length < 16) (hx : x = nI b) : CtP yX1_leave cX1_leave 2 none 0 [vR 65, vI x] μ (Pv (fun μ' => Tr μ' (l ++ [b]) ∧ ∀ a, a ≠ 65 → a ≠ 66 → μ' a = μ a)) := by
  refine CtP.go RX1 rfl pn_X1 (Nat.le_of_ble_eq_true rfl) (fun C hG hR => ?_)
  refine V_aload_n (pc := 0) hG (dk dd_X1_leave 0 rfl) rfl ?_
  refine V_getI (pc := 1) hG (dk dd_X1_leave 1 rfl) fl_X1_17 sh_65 rfl ?_
  refine V_bipush (pc := 4) hG (dk dd_X1_leave 2 rfl) (v := 16) (by decide) ?_
  refine V_icmp_ge (pc := 6) hG (dk dd_X1_leave 3 rfl) (tgt := 29) (by decide) (fun h6 => ?_) (fun h6 => ?_)
  refine V_vretP (pc := 29) hG (dk dd_X1_leave 16 rfl) hR (Pv.mk ?_)
  rotate_left
  refine V_aload_n (pc := 9) hG (dk dd_X1_leave 4 rfl) rfl ?_
  refine V_getR (pc := 10) hG (dk dd_X1_leave 5 rfl) fl_X1_9 sh_65 rfl ?_
  refine V_aload_n (pc := 13) hG (dk dd_X1_leave 6 rfl) rfl ?_
  refine V_getI (pc := 14) hG (dk dd_X1_leave 7 rfl) fl_X1_17 sh_65 rfl ?_
  refine V_iload_n (pc := 17) hG (dk dd_X1_leave 8 rfl) rfl ?_
  refine V_iast (pc := 18) hG (dk dd_X1_leave 9 rfl) sh_66 (by rw [hT.1]; exact vp_in_nI hl (by decide)) ?_
  refine V_aload_n (pc := 19) hG (dk dd_X1_leave 10 rfl) rfl ?_
  refine V_dup (pc := 20) hG (dk dd_X1_leave 11 rfl) rfl ?_
  refine V_getI (pc := 21) hG (dk dd_X1_leave 12 rfl) fl_X1_17 sh_65 rfl ?_
  refine V_iconst (pc := 24) hG (dk dd_X1_leave 13 rfl) (v := 1) (by decide) ?_
  refine V_iadd (pc := 25) hG (dk dd_X1_leave 14 rfl) ?_
  refine V_putI (pc := 26) hG (dk dd_X1_leave 15 rfl) fl_X1_17 sh_65 rfl rfl ?_
  refine V_vretP (pc := 29) hG (dk dd_X1_leave 16 rfl) hR (Pv.mk ?_)
  rotate_left
  -- leaves: return@29; return@29
  · exfalso; rw [hT.1] at h6; have := le_i (a := 16) h6 (by omega) (by omega); omega
  · refine ⟨⟨?_, fun k hk => ?_⟩, fun a h1 h2 => by simp (disch := omega) only [setc_n]⟩ <;> simp (disch := omega) only [setc_s, setc_n, hT.1, nI_clamp (show l.length < 2 ^ 31 by omega), nI_1, pk_us, List.length_append, List.length_singleton] <;> (rw [List.length_append, List.length_singleton] at hk; rw [hx]; by_cases e : k = l.length; (subst e; rw [pk_us]; simp); (rw [pk_un e, hT.2 k (by omega), List.getD_eq_getElem?_getD, List.getD_eq_getElem?_getD, List.getElem?_append_left (by omega)]))
theorem kd_in {α : Al} {μ : Mem} (hA : Abs (kac μ 15) α) (hv : Val α) {h : Nat} (hh : h < α 0 6) {x : Int32} (hx : x = nI h) : vp_in x 6 ∧ μ 16 x.toNatClampNeg = nI (α 1 h) ∧ vp_in (μ 16 x.toNatClampNeg) 6 ∧ (μ 16 x.toNatClampNeg).toNatClampNeg = α 1 h := by
  have hH := hv.H
  have hk := (hv.h hh).2.1
  have e : μ 16 x.toNatClampNeg = nI (α 1 h) := by rw [nI_cl hx (by omega)]; exact hA.2.1 1 h (by decide) (by decide) hh
  exact ⟨in_nI hx (by omega) (by decide), e, in_nI e (by omega) (by decide), nI_cl e (by omega)⟩
theorem c_sizeBody {μ : Mem} {α : Al} (hA : Abs (kac μ 15) α) (hv : Val α) {h : Nat} (hh : h < α 0 6) {x : Int32} (hx : x = nI h) : CtP yX1_sizeBody cX1_sizeBody 2 (some .int) 0 [vR 65, vI x] μ (Pi (fun r μ' => μ' = μ ∧ r = szB (α 1 h))) := by
  refine CtP.go RX1 rfl pn_X1 (Nat.le_of_ble_eq_true rfl) (fun C hG hR => ?_)
  refine V_getSz (pc := 0) hG (dk dd_X1_sizeBody 0 rfl) fs_X1_32 ?_
  refine V_aload_n (pc := 3) hG (dk dd_X1_sizeBody 1 rfl) rfl ?_
  refine V_getR (pc := 4) hG (dk dd_X1_sizeBody 2 rfl) fl_X1_13 sh_65 rfl ?_
  refine V_getR (pc := 7) hG (dk dd_X1_sizeBody 3 rfl) fl_X1_35 sh_15 rfl ?_
  refine V_iload_n (pc := 10) hG (dk dd_X1_sizeBody 4 rfl) rfl ?_
  refine V_iald (pc := 11) hG (dk dd_X1_sizeBody 5 rfl) sh_16 (kd_in hA hv hh hx).1 ?_
  refine V_ldSz (pc := 12) hG (dk dd_X1_sizeBody 6 rfl) (kd_in hA hv hh hx).2.2.1 ?_
  refine V_iretP (pc := 13) hG (dk dd_X1_sizeBody 7 rfl) hR (Pi.mk ?_)
  rotate_left
  -- leaves: return@13
  · exact ⟨rfl, by rw [(kd_in hA hv hh hx).2.2.2]⟩
theorem c_markBody {μ : Mem} {α : Al} (hA : Abs (kac μ 15) α) (hv : Val α) {h : Nat} (hh : h < α 0 6) {x : Int32} (hx : x = nI h) : CtP yX1_markBody cX1_markBody 2 (some .int) 0 [vR 65, vI x] μ (Pi (fun r μ' => μ' = μ ∧ r = mkB (α 1 h))) := by
  refine CtP.go RX1 rfl pn_X1 (Nat.le_of_ble_eq_true rfl) (fun C hG hR => ?_)
  refine V_getMk (pc := 0) hG (dk dd_X1_markBody 0 rfl) fs_X1_40 ?_
  refine V_aload_n (pc := 3) hG (dk dd_X1_markBody 1 rfl) rfl ?_
  refine V_getR (pc := 4) hG (dk dd_X1_markBody 2 rfl) fl_X1_13 sh_65 rfl ?_
  refine V_getR (pc := 7) hG (dk dd_X1_markBody 3 rfl) fl_X1_35 sh_15 rfl ?_
  refine V_iload_n (pc := 10) hG (dk dd_X1_markBody 4 rfl) rfl ?_
  refine V_iald (pc := 11) hG (dk dd_X1_markBody 5 rfl) sh_16 (kd_in hA hv hh hx).1 ?_
  refine V_ldMk (pc := 12) hG (dk dd_X1_markBody 6 rfl) (kd_in hA hv hh hx).2.2.1 ?_
  refine V_iretP (pc := 13) hG (dk dd_X1_markBody 7 rfl) hR (Pi.mk ?_)
  rotate_left
  -- leaves: return@13
  · exact ⟨rfl, by rw [(kd_in hA hv hh hx).2.2.2]⟩
/-- a body, begun: what it gives, what it leaves in the trace -/
def Bg (α : Al) (h body : Nat) (v : Int32) (tr : List Nat) (d ht : Nat) : Prop := ∀ (μ : Mem) (l : List Nat) (x y z : Int32) (n : Nat), Abs (kac μ 15) α → Tr μ l → l.length + tr.length ≤ 16 → x = nI body → y = nI h → z = nI n → n + ht ≤ 15 → CtP yX1_begin cX1_begin 5 (some .int) d [vR 65, vI x, vI y, vI z] μ (Pi (fun r μ' => r = v ∧ Tr μ' (l ++ tr) ∧ ∀ a, a ≠ 65 → a ≠ 66 → μ' a = μ a))
theorem Abs.off {μ μ' : Mem} {b : Nat} {α : Al} (h : Abs (kac μ b) α) (hq : ∀ x, x ≤ 7 → μ' (b + x) = μ (b + x)) : Abs (kac μ' b) α :=
  ⟨fun i hi => by unfold kac; rw [hq 0 (by omega)]; exact h.1 i hi, fun x q a b c => by unfold kac; rw [hq x (by omega)]; exact h.2.1 x q a b c, fun x q a b c => by unfold kac; rw [hq x (by omega)]; exact h.2.2 x q a b c⟩
def v21 (α : Al) (h : Nat) : Int32 := nI h + nI (bitsN (α 0 3))
def mkV (α : Al) (h : Nat) : Int32 := if α 1 h = 1 then v21 α h else if α 1 h = 3 then v21 α h - 1000 else 2 * v21 α h
def szR (α : Al) (h : Nat) : Int32 := if α 1 h = 5 then 2 * (nI (α 2 h) - 100) else nI (α 2 h) - 100
def mkT (α : Al) (h : Nat) : List Nat := if α 1 h = 1 then [21, 20] else if α 1 h = 3 then [22, 21, 20] else [24, 21, 20]
def szT (α : Al) (h : Nat) : List Nat := if α 1 h = 5 then [14, 13, 10] else [13, 10]
theorem bg_10 {α : Al} (hv : Val α) {h : Nat} (hh : h < α 0 6) : Bg α h 10 (nI (α 2 h)) [10] 1 0 := by
  intro μ l x y z n hA hT hl hx hy hz hn
  refine CtP.go RX1 rfl pn_X1 (Nat.le_of_ble_eq_true rfl) (fun C hG hR => ?_)
  subst hx; subst hz
  have hln : l.length + 1 ≤ 16 := by simp at hl; omega
  refine V_iload_n (pc := 0) hG (dk dd_X1_begin 0 rfl) rfl ?_
  refine V_bipush (pc := 1) hG (dk dd_X1_begin 1 rfl) (v := 16) (by decide) ?_
  refine V_icmp_lt (pc := 3) hG (dk dd_X1_begin 2 rfl) (tgt := 8) (by decide) (fun h3 => ?_) (fun h3 => ?_)
  refine V_aload_n (pc := 8) hG (dk dd_X1_begin 5 rfl) rfl ?_
  refine V_iload_n (pc := 9) hG (dk dd_X1_begin 6 rfl) rfl ?_
  refine V_callVvp (pc := 10) hG (dk dd_X1_begin 7 rfl) ml_X1_43 mo_X1_leave sh_65 rfl (c_leave hT (by omega) rfl) (by decide) (by decide) rfl rfl rfl (fun m10 p10 => ?_)
  refine V_iload_n (pc := 13) hG (dk dd_X1_begin 8 rfl) rfl ?_
  refine V_iconst (pc := 14) hG (dk dd_X1_begin 9 rfl) (v := 1) (by decide) ?_
  refine V_iadd (pc := 15) hG (dk dd_X1_begin 10 rfl) ?_
  refine V_istore (pc := 16) hG (dk dd_X1_begin 11 rfl) (by decide) (lv' := [(0, _), (1, _), (2, _), (3, _), (4, _)]) rfl ?_
  refine V_iload_n (pc := 18) hG (dk dd_X1_begin 12 rfl) rfl ?_
  refine V_tableIn (pc := 19) hG (dk dd_X1_begin 13 rfl) (off := 73) (tgt := 92) (by decide +kernel) (by decide +kernel) (by decide +kernel) (by decide) ?_
  refine V_aload_n (pc := 92) hG (dk dd_X1_begin 14 rfl) rfl ?_
  refine V_getR (pc := 93) hG (dk dd_X1_begin 15 rfl) fl_X1_13 sh_65 rfl ?_
  refine V_getR (pc := 96) hG (dk dd_X1_begin 16 rfl) fl_X1_47 sh_15 rfl ?_
  refine V_iload_n (pc := 99) hG (dk dd_X1_begin 17 rfl) rfl ?_
  refine V_iald (pc := 100) hG (dk dd_X1_begin 18 rfl) sh_17 (kd_in hA hv hh hy).1 ?_
  refine V_iretP (pc := 101) hG (dk dd_X1_begin 19 rfl) hR (Pi.mk ?_)
  rotate_left
  rotate_left
  -- leaves: return@101; stop 6
  · refine ⟨?_, p10.1, p10.2⟩
    rw [p10.2 17 (by decide) (by decide), nI_cl hy (by have := hv.H; omega)]; exact hA.2.1 2 h (by decide) (by decide) hh
  · exfalso; have := Nat.not_lt.mp (fun q => h3 ((nI_ltI (b := 16) (by omega) (by decide)).mpr q)); omega

theorem bg_20 {α : Al} (hv : Val α) {h : Nat} (hh : h < α 0 6) : Bg α h 20 (nI h) [20] 1 0 := by
  intro μ l x y z n hA hT hl hx hy hz hn
  refine CtP.go RX1 rfl pn_X1 (Nat.le_of_ble_eq_true rfl) (fun C hG hR => ?_)
  subst hx; subst hz
  have hln : l.length + 1 ≤ 16 := by simp at hl; omega
  refine V_iload_n (pc := 0) hG (dk dd_X1_begin 0 rfl) rfl ?_
  refine V_bipush (pc := 1) hG (dk dd_X1_begin 1 rfl) (v := 16) (by decide) ?_
  refine V_icmp_lt (pc := 3) hG (dk dd_X1_begin 2 rfl) (tgt := 8) (by decide) (fun h3 => ?_) (fun h3 => ?_)
  refine V_aload_n (pc := 8) hG (dk dd_X1_begin 5 rfl) rfl ?_
  refine V_iload_n (pc := 9) hG (dk dd_X1_begin 6 rfl) rfl ?_
  refine V_callVvp (pc := 10) hG (dk dd_X1_begin 7 rfl) ml_X1_43 mo_X1_leave sh_65 rfl (c_leave hT (by omega) rfl) (by decide) (by decide) rfl rfl rfl (fun m10 p10 => ?_)
  refine V_iload_n (pc := 13) hG (dk dd_X1_begin 8 rfl) rfl ?_
  refine V_iconst (pc := 14) hG (dk dd_X1_begin 9 rfl) (v := 1) (by decide) ?_
  refine V_iadd (pc := 15) hG (dk dd_X1_begin 10 rfl) ?_
  refine V_istore (pc := 16) hG (dk dd_X1_begin 11 rfl) (by decide) (lv' := [(0, _), (1, _), (2, _), (3, _), (4, _)]) rfl ?_
  refine V_iload_n (pc := 18) hG (dk dd_X1_begin 12 rfl) rfl ?_
  refine V_tableIn (pc := 19) hG (dk dd_X1_begin 13 rfl) (off := 142) (tgt := 161) (by decide +kernel) (by decide +kernel) (by decide +kernel) (by decide) ?_
  refine V_iload_n (pc := 161) hG (dk dd_X1_begin 57 rfl) rfl ?_
  refine V_iretP (pc := 162) hG (dk dd_X1_begin 58 rfl) hR (Pi.mk ?_)
  rotate_left
  rotate_left
  -- leaves: return@162; stop 6
  · exact ⟨hy, p10.1, p10.2⟩
  · exfalso; have := Nat.not_lt.mp (fun q => h3 ((nI_ltI (b := 16) (by omega) (by decide)).mpr q)); omega

theorem bg_21 {α : Al} (hv : Val α) {h : Nat} (hh : h < α 0 6) : Bg α h 21 (v21 α h) [21, 20] 2 1 := by
  intro μ l x y z n hA hT hl hx hy hz hn
  refine CtP.go RX1 rfl pn_X1 (Nat.le_of_ble_eq_true rfl) (fun C hG hR => ?_)
  subst hx; subst hz
  have hln : l.length + 1 ≤ 16 := by simp at hl; omega
  refine V_iload_n (pc := 0) hG (dk dd_X1_begin 0 rfl) rfl ?_
  refine V_bipush (pc := 1) hG (dk dd_X1_begin 1 rfl) (v := 16) (by decide) ?_
  refine V_icmp_lt (pc := 3) hG (dk dd_X1_begin 2 rfl) (tgt := 8) (by decide) (fun h3 => ?_) (fun h3 => ?_)
  refine V_aload_n (pc := 8) hG (dk dd_X1_begin 5 rfl) rfl ?_
  refine V_iload_n (pc := 9) hG (dk dd_X1_begin 6 rfl) rfl ?_
  refine V_callVvp (pc := 10) hG (dk dd_X1_begin 7 rfl) ml_X1_43 mo_X1_leave sh_65 rfl (c_leave hT (by omega) rfl) (by decide) (by decide) rfl rfl rfl (fun m10 p10 => ?_)
  refine V_iload_n (pc := 13) hG (dk dd_X1_begin 8 rfl) rfl ?_
  refine V_iconst (pc := 14) hG (dk dd_X1_begin 9 rfl) (v := 1) (by decide) ?_
  refine V_iadd (pc := 15) hG (dk dd_X1_begin 10 rfl) ?_
  refine V_istore (pc := 16) hG (dk dd_X1_begin 11 rfl) (by decide) (lv' := [(0, _), (1, _), (2, _), (3, _), (4, _)]) rfl ?_
  refine V_iload_n (pc := 18) hG (dk dd_X1_begin 12 rfl) rfl ?_
  refine V_tableIn (pc := 19) hG (dk dd_X1_begin 13 rfl) (off := 144) (tgt := 163) (by decide +kernel) (by decide +kernel) (by decide +kernel) (by decide) ?_
  refine V_aload_n (pc := 163) hG (dk dd_X1_begin 59 rfl) rfl ?_
  refine V_bipush (pc := 164) hG (dk dd_X1_begin 60 rfl) (v := 20) (by decide) ?_
  refine V_iload_n (pc := 166) hG (dk dd_X1_begin 61 rfl) rfl ?_
  refine V_iload (pc := 167) hG (dk dd_X1_begin 62 rfl) rfl ?_
  refine V_callVip (pc := 169) hG (dk dd_X1_begin 63 rfl) ml_X1_28 mo_X1_begin sh_65 rfl (bg_20 hv hh _ _ _ _ _ (n + 1) (hA.off (fun x hx => p10.2 _ (by omega) (by omega))) p10.1 (by simp at hl ⊢; omega) rfl hy (nI_1 n) (by omega)) (by decide) (by decide) rfl rfl rfl (fun x169 m169 p169 => ?_)
  refine V_aload_n (pc := 172) hG (dk dd_X1_begin 64 rfl) rfl ?_
  refine V_getR (pc := 173) hG (dk dd_X1_begin 65 rfl) fl_X1_13 sh_65 rfl ?_
  refine V_getI (pc := 176) hG (dk dd_X1_begin 66 rfl) fl_X1_50 sh_15 rfl ?_
  refine V_callSi (pc := 179) hG (dk dd_X1_begin 67 rfl) ml_X1_53 mo_J6_bitCount_0f7a4 (c_bits (D := α 0 3) ?_ (hv.lt hv.D)) (by decide) (by decide) rfl rfl rfl ?_
  rotate_left
  refine V_iadd (pc := 182) hG (dk dd_X1_begin 68 rfl) ?_
  refine V_iretP (pc := 183) hG (dk dd_X1_begin 69 rfl) hR (Pi.mk ?_)
  rotate_left
  rotate_left
  -- leaves: call bitCount@179 0; return@183; stop 6
  · rw [p169.2.2 15 (by decide) (by decide), p10.2 15 (by decide) (by decide)]; exact hA.1 3 (by decide)
  · obtain ⟨rfl, q1, q2⟩ := p169
    exact ⟨rfl, by simpa using q1, fun a a1 a2 => (q2 a a1 a2).trans (p10.2 a a1 a2)⟩
  · exfalso; have := Nat.not_lt.mp (fun q => h3 ((nI_ltI (b := 16) (by omega) (by decide)).mpr q)); omega

theorem bg_22 {α : Al} (hv : Val α) {h : Nat} (hh : h < α 0 6) : Bg α h 22 (v21 α h - 1000) [22, 21, 20] 3 2 := by
  intro μ l x y z n hA hT hl hx hy hz hn
  refine CtP.go RX1 rfl pn_X1 (Nat.le_of_ble_eq_true rfl) (fun C hG hR => ?_)
  subst hx; subst hz
  have hln : l.length + 1 ≤ 16 := by simp at hl; omega
  refine V_iload_n (pc := 0) hG (dk dd_X1_begin 0 rfl) rfl ?_
  refine V_bipush (pc := 1) hG (dk dd_X1_begin 1 rfl) (v := 16) (by decide) ?_
  refine V_icmp_lt (pc := 3) hG (dk dd_X1_begin 2 rfl) (tgt := 8) (by decide) (fun h3 => ?_) (fun h3 => ?_)
  refine V_aload_n (pc := 8) hG (dk dd_X1_begin 5 rfl) rfl ?_
  refine V_iload_n (pc := 9) hG (dk dd_X1_begin 6 rfl) rfl ?_
  refine V_callVvp (pc := 10) hG (dk dd_X1_begin 7 rfl) ml_X1_43 mo_X1_leave sh_65 rfl (c_leave hT (by omega) rfl) (by decide) (by decide) rfl rfl rfl (fun m10 p10 => ?_)
  refine V_iload_n (pc := 13) hG (dk dd_X1_begin 8 rfl) rfl ?_
  refine V_iconst (pc := 14) hG (dk dd_X1_begin 9 rfl) (v := 1) (by decide) ?_
  refine V_iadd (pc := 15) hG (dk dd_X1_begin 10 rfl) ?_
  refine V_istore (pc := 16) hG (dk dd_X1_begin 11 rfl) (by decide) (lv' := [(0, _), (1, _), (2, _), (3, _), (4, _)]) rfl ?_
  refine V_iload_n (pc := 18) hG (dk dd_X1_begin 12 rfl) rfl ?_
  refine V_tableIn (pc := 19) hG (dk dd_X1_begin 13 rfl) (off := 165) (tgt := 184) (by decide +kernel) (by decide +kernel) (by decide +kernel) (by decide) ?_
  refine V_aload_n (pc := 184) hG (dk dd_X1_begin 70 rfl) rfl ?_
  refine V_bipush (pc := 185) hG (dk dd_X1_begin 71 rfl) (v := 21) (by decide) ?_
  refine V_iload_n (pc := 187) hG (dk dd_X1_begin 72 rfl) rfl ?_
  refine V_iload (pc := 188) hG (dk dd_X1_begin 73 rfl) rfl ?_
  refine V_callVip (pc := 190) hG (dk dd_X1_begin 74 rfl) ml_X1_28 mo_X1_begin sh_65 rfl (bg_21 hv hh _ _ _ _ _ (n + 1) (hA.off (fun x hx => p10.2 _ (by omega) (by omega))) p10.1 (by simp at hl ⊢; omega) rfl hy (nI_1 n) (by omega)) (by decide) (by decide) rfl rfl rfl (fun x190 m190 p190 => ?_)
  refine V_sipush (pc := 193) hG (dk dd_X1_begin 75 rfl) (v := 1000) (by decide) ?_
  refine V_isub (pc := 196) hG (dk dd_X1_begin 76 rfl) ?_
  refine V_iretP (pc := 197) hG (dk dd_X1_begin 77 rfl) hR (Pi.mk ?_)
  rotate_left
  rotate_left
  -- leaves: return@197; stop 6
  · obtain ⟨rfl, q1, q2⟩ := p190
    exact ⟨rfl, by simpa using q1, fun a a1 a2 => (q2 a a1 a2).trans (p10.2 a a1 a2)⟩
  · exfalso; have := Nat.not_lt.mp (fun q => h3 ((nI_ltI (b := 16) (by omega) (by decide)).mpr q)); omega

theorem bg_24 {α : Al} (hv : Val α) {h : Nat} (hh : h < α 0 6) : Bg α h 24 (2 * v21 α h) [24, 21, 20] 3 2 := by
  intro μ l x y z n hA hT hl hx hy hz hn
  refine CtP.go RX1 rfl pn_X1 (Nat.le_of_ble_eq_true rfl) (fun C hG hR => ?_)
  subst hx; subst hz
  have hln : l.length + 1 ≤ 16 := by simp at hl; omega
  refine V_iload_n (pc := 0) hG (dk dd_X1_begin 0 rfl) rfl ?_
  refine V_bipush (pc := 1) hG (dk dd_X1_begin 1 rfl) (v := 16) (by decide) ?_
  refine V_icmp_lt (pc := 3) hG (dk dd_X1_begin 2 rfl) (tgt := 8) (by decide) (fun h3 => ?_) (fun h3 => ?_)
  refine V_aload_n (pc := 8) hG (dk dd_X1_begin 5 rfl) rfl ?_
  refine V_iload_n (pc := 9) hG (dk dd_X1_begin 6 rfl) rfl ?_
  refine V_callVvp (pc := 10) hG (dk dd_X1_begin 7 rfl) ml_X1_43 mo_X1_leave sh_65 rfl (c_leave hT (by omega) rfl) (by decide) (by decide) rfl rfl rfl (fun m10 p10 => ?_)
  refine V_iload_n (pc := 13) hG (dk dd_X1_begin 8 rfl) rfl ?_
  refine V_iconst (pc := 14) hG (dk dd_X1_begin 9 rfl) (v := 1) (by decide) ?_
  refine V_iadd (pc := 15) hG (dk dd_X1_begin 10 rfl) ?_
  refine V_istore (pc := 16) hG (dk dd_X1_begin 11 rfl) (by decide) (lv' := [(0, _), (1, _), (2, _), (3, _), (4, _)]) rfl ?_
  refine V_iload_n (pc := 18) hG (dk dd_X1_begin 12 rfl) rfl ?_
  refine V_tableIn (pc := 19) hG (dk dd_X1_begin 13 rfl) (off := 202) (tgt := 221) (by decide +kernel) (by decide +kernel) (by decide +kernel) (by decide) ?_
  refine V_iconst (pc := 221) hG (dk dd_X1_begin 92 rfl) (v := 2) (by decide) ?_
  refine V_aload_n (pc := 222) hG (dk dd_X1_begin 93 rfl) rfl ?_
  refine V_bipush (pc := 223) hG (dk dd_X1_begin 94 rfl) (v := 21) (by decide) ?_
  refine V_iload_n (pc := 225) hG (dk dd_X1_begin 95 rfl) rfl ?_
  refine V_iload (pc := 226) hG (dk dd_X1_begin 96 rfl) rfl ?_
  refine V_callVip (pc := 228) hG (dk dd_X1_begin 97 rfl) ml_X1_28 mo_X1_begin sh_65 rfl (bg_21 hv hh _ _ _ _ _ (n + 1) (hA.off (fun x hx => p10.2 _ (by omega) (by omega))) p10.1 (by simp at hl ⊢; omega) rfl hy (nI_1 n) (by omega)) (by decide) (by decide) rfl rfl rfl (fun x228 m228 p228 => ?_)
  refine V_imul (pc := 231) hG (dk dd_X1_begin 98 rfl) ?_
  refine V_iretP (pc := 232) hG (dk dd_X1_begin 99 rfl) hR (Pi.mk ?_)
  rotate_left
  rotate_left
  -- leaves: return@232; stop 6
  · obtain ⟨rfl, q1, q2⟩ := p228
    exact ⟨rfl, by simpa using q1, fun a a1 a2 => (q2 a a1 a2).trans (p10.2 a a1 a2)⟩
  · exfalso; have := Nat.not_lt.mp (fun q => h3 ((nI_ltI (b := 16) (by omega) (by decide)).mpr q)); omega

theorem bg_13 {α : Al} (hv : Val α) {h : Nat} (hh : h < α 0 6) : Bg α h 13 (nI (α 2 h) - 100) [13, 10] 2 1 := by
  intro μ l x y z n hA hT hl hx hy hz hn
  refine CtP.go RX1 rfl pn_X1 (Nat.le_of_ble_eq_true rfl) (fun C hG hR => ?_)
  subst hx; subst hz
  have hln : l.length + 1 ≤ 16 := by simp at hl; omega
  refine V_iload_n (pc := 0) hG (dk dd_X1_begin 0 rfl) rfl ?_
  refine V_bipush (pc := 1) hG (dk dd_X1_begin 1 rfl) (v := 16) (by decide) ?_
  refine V_icmp_lt (pc := 3) hG (dk dd_X1_begin 2 rfl) (tgt := 8) (by decide) (fun h3 => ?_) (fun h3 => ?_)
  refine V_aload_n (pc := 8) hG (dk dd_X1_begin 5 rfl) rfl ?_
  refine V_iload_n (pc := 9) hG (dk dd_X1_begin 6 rfl) rfl ?_
  refine V_callVvp (pc := 10) hG (dk dd_X1_begin 7 rfl) ml_X1_43 mo_X1_leave sh_65 rfl (c_leave hT (by omega) rfl) (by decide) (by decide) rfl rfl rfl (fun m10 p10 => ?_)
  refine V_iload_n (pc := 13) hG (dk dd_X1_begin 8 rfl) rfl ?_
  refine V_iconst (pc := 14) hG (dk dd_X1_begin 9 rfl) (v := 1) (by decide) ?_
  refine V_iadd (pc := 15) hG (dk dd_X1_begin 10 rfl) ?_
  refine V_istore (pc := 16) hG (dk dd_X1_begin 11 rfl) (by decide) (lv' := [(0, _), (1, _), (2, _), (3, _), (4, _)]) rfl ?_
  refine V_iload_n (pc := 18) hG (dk dd_X1_begin 12 rfl) rfl ?_
  refine V_tableIn (pc := 19) hG (dk dd_X1_begin 13 rfl) (off := 117) (tgt := 136) (by decide +kernel) (by decide +kernel) (by decide +kernel) (by decide) ?_
  refine V_aload_n (pc := 136) hG (dk dd_X1_begin 41 rfl) rfl ?_
  refine V_bipush (pc := 137) hG (dk dd_X1_begin 42 rfl) (v := 10) (by decide) ?_
  refine V_iload_n (pc := 139) hG (dk dd_X1_begin 43 rfl) rfl ?_
  refine V_iload (pc := 140) hG (dk dd_X1_begin 44 rfl) rfl ?_
  refine V_callVip (pc := 142) hG (dk dd_X1_begin 45 rfl) ml_X1_28 mo_X1_begin sh_65 rfl (bg_10 hv hh _ _ _ _ _ (n + 1) (hA.off (fun x hx => p10.2 _ (by omega) (by omega))) p10.1 (by simp at hl ⊢; omega) rfl hy (nI_1 n) (by omega)) (by decide) (by decide) rfl rfl rfl (fun x142 m142 p142 => ?_)
  refine V_bipush (pc := 145) hG (dk dd_X1_begin 46 rfl) (v := 100) (by decide) ?_
  refine V_isub (pc := 147) hG (dk dd_X1_begin 47 rfl) ?_
  refine V_iretP (pc := 148) hG (dk dd_X1_begin 48 rfl) hR (Pi.mk ?_)
  rotate_left
  rotate_left
  -- leaves: return@148; stop 6
  · obtain ⟨rfl, q1, q2⟩ := p142
    exact ⟨rfl, by simpa using q1, fun a a1 a2 => (q2 a a1 a2).trans (p10.2 a a1 a2)⟩
  · exfalso; have := Nat.not_lt.mp (fun q => h3 ((nI_ltI (b := 16) (by omega) (by decide)).mpr q)); omega

theorem bg_14 {α : Al} (hv : Val α) {h : Nat} (hh : h < α 0 6) : Bg α h 14 (2 * (nI (α 2 h) - 100)) [14, 13, 10] 3 2 := by
  intro μ l x y z n hA hT hl hx hy hz hn
  refine CtP.go RX1 rfl pn_X1 (Nat.le_of_ble_eq_true rfl) (fun C hG hR => ?_)
  subst hx; subst hz
  have hln : l.length + 1 ≤ 16 := by simp at hl; omega
  refine V_iload_n (pc := 0) hG (dk dd_X1_begin 0 rfl) rfl ?_
  refine V_bipush (pc := 1) hG (dk dd_X1_begin 1 rfl) (v := 16) (by decide) ?_
  refine V_icmp_lt (pc := 3) hG (dk dd_X1_begin 2 rfl) (tgt := 8) (by decide) (fun h3 => ?_) (fun h3 => ?_)
  refine V_aload_n (pc := 8) hG (dk dd_X1_begin 5 rfl) rfl ?_
  refine V_iload_n (pc := 9) hG (dk dd_X1_begin 6 rfl) rfl ?_
  refine V_callVvp (pc := 10) hG (dk dd_X1_begin 7 rfl) ml_X1_43 mo_X1_leave sh_65 rfl (c_leave hT (by omega) rfl) (by decide) (by decide) rfl rfl rfl (fun m10 p10 => ?_)
  refine V_iload_n (pc := 13) hG (dk dd_X1_begin 8 rfl) rfl ?_
  refine V_iconst (pc := 14) hG (dk dd_X1_begin 9 rfl) (v := 1) (by decide) ?_
  refine V_iadd (pc := 15) hG (dk dd_X1_begin 10 rfl) ?_
  refine V_istore (pc := 16) hG (dk dd_X1_begin 11 rfl) (by decide) (lv' := [(0, _), (1, _), (2, _), (3, _), (4, _)]) rfl ?_
  refine V_iload_n (pc := 18) hG (dk dd_X1_begin 12 rfl) rfl ?_
  refine V_tableIn (pc := 19) hG (dk dd_X1_begin 13 rfl) (off := 130) (tgt := 149) (by decide +kernel) (by decide +kernel) (by decide +kernel) (by decide) ?_
  refine V_iconst (pc := 149) hG (dk dd_X1_begin 49 rfl) (v := 2) (by decide) ?_
  refine V_aload_n (pc := 150) hG (dk dd_X1_begin 50 rfl) rfl ?_
  refine V_bipush (pc := 151) hG (dk dd_X1_begin 51 rfl) (v := 13) (by decide) ?_
  refine V_iload_n (pc := 153) hG (dk dd_X1_begin 52 rfl) rfl ?_
  refine V_iload (pc := 154) hG (dk dd_X1_begin 53 rfl) rfl ?_
  refine V_callVip (pc := 156) hG (dk dd_X1_begin 54 rfl) ml_X1_28 mo_X1_begin sh_65 rfl (bg_13 hv hh _ _ _ _ _ (n + 1) (hA.off (fun x hx => p10.2 _ (by omega) (by omega))) p10.1 (by simp at hl ⊢; omega) rfl hy (nI_1 n) (by omega)) (by decide) (by decide) rfl rfl rfl (fun x156 m156 p156 => ?_)
  refine V_imul (pc := 159) hG (dk dd_X1_begin 55 rfl) ?_
  refine V_iretP (pc := 160) hG (dk dd_X1_begin 56 rfl) hR (Pi.mk ?_)
  rotate_left
  rotate_left
  -- leaves: return@160; stop 6
  · obtain ⟨rfl, q1, q2⟩ := p156
    exact ⟨rfl, by simpa using q1, fun a a1 a2 => (q2 a a1 a2).trans (p10.2 a a1 a2)⟩
  · exfalso; have := Nat.not_lt.mp (fun q => h3 ((nI_ltI (b := 16) (by omega) (by decide)).mpr q)); omega

theorem bg_13b {α : Al} (hv : Val α) {h : Nat} (hh : h < α 0 6) : Bg α h 13 (nI (α 2 h) - 100) [13, 10] 3 2 := by
  intro μ l x y z n hA hT hl hx hy hz hn
  refine CtP.go RX1 rfl pn_X1 (Nat.le_of_ble_eq_true rfl) (fun C hG hR => ?_)
  subst hx; subst hz
  have hln : l.length + 1 ≤ 16 := by simp at hl; omega
  refine V_iload_n (pc := 0) hG (dk dd_X1_begin 0 rfl) rfl ?_
  refine V_bipush (pc := 1) hG (dk dd_X1_begin 1 rfl) (v := 16) (by decide) ?_
  refine V_icmp_lt (pc := 3) hG (dk dd_X1_begin 2 rfl) (tgt := 8) (by decide) (fun h3 => ?_) (fun h3 => ?_)
  refine V_aload_n (pc := 8) hG (dk dd_X1_begin 5 rfl) rfl ?_
  refine V_iload_n (pc := 9) hG (dk dd_X1_begin 6 rfl) rfl ?_
  refine V_callVvp (pc := 10) hG (dk dd_X1_begin 7 rfl) ml_X1_43 mo_X1_leave sh_65 rfl (c_leave hT (by omega) rfl) (by decide) (by decide) rfl rfl rfl (fun m10 p10 => ?_)
  refine V_iload_n (pc := 13) hG (dk dd_X1_begin 8 rfl) rfl ?_
  refine V_iconst (pc := 14) hG (dk dd_X1_begin 9 rfl) (v := 1) (by decide) ?_
  refine V_iadd (pc := 15) hG (dk dd_X1_begin 10 rfl) ?_
  refine V_istore (pc := 16) hG (dk dd_X1_begin 11 rfl) (by decide) (lv' := [(0, _), (1, _), (2, _), (3, _), (4, _)]) rfl ?_
  refine V_iload_n (pc := 18) hG (dk dd_X1_begin 12 rfl) rfl ?_
  refine V_tableIn (pc := 19) hG (dk dd_X1_begin 13 rfl) (off := 117) (tgt := 136) (by decide +kernel) (by decide +kernel) (by decide +kernel) (by decide) ?_
  refine V_aload_n (pc := 136) hG (dk dd_X1_begin 41 rfl) rfl ?_
  refine V_bipush (pc := 137) hG (dk dd_X1_begin 42 rfl) (v := 10) (by decide) ?_
  refine V_iload_n (pc := 139) hG (dk dd_X1_begin 43 rfl) rfl ?_
  refine V_iload (pc := 140) hG (dk dd_X1_begin 44 rfl) rfl ?_
  refine V_callVip (pc := 142) hG (dk dd_X1_begin 45 rfl) ml_X1_28 mo_X1_begin sh_65 rfl (bg_10 hv hh _ _ _ _ _ (n + 1) (hA.off (fun x hx => p10.2 _ (by omega) (by omega))) p10.1 (by simp at hl ⊢; omega) rfl hy (nI_1 n) (by omega)) (by decide) (by decide) rfl rfl rfl (fun x142 m142 p142 => ?_)
  refine V_bipush (pc := 145) hG (dk dd_X1_begin 46 rfl) (v := 100) (by decide) ?_
  refine V_isub (pc := 147) hG (dk dd_X1_begin 47 rfl) ?_
  refine V_iretP (pc := 148) hG (dk dd_X1_begin 48 rfl) hR (Pi.mk ?_)
  rotate_left
  rotate_left
  -- leaves: return@148; stop 6
  · obtain ⟨rfl, q1, q2⟩ := p142
    exact ⟨rfl, by simpa using q1, fun a a1 a2 => (q2 a a1 a2).trans (p10.2 a a1 a2)⟩
  · exfalso; have := Nat.not_lt.mp (fun q => h3 ((nI_ltI (b := 16) (by omega) (by decide)).mpr q)); omega
theorem bg_21b {α : Al} (hv : Val α) {h : Nat} (hh : h < α 0 6) : Bg α h 21 (v21 α h) [21, 20] 3 2 := by
  intro μ l x y z n hA hT hl hx hy hz hn
  refine CtP.go RX1 rfl pn_X1 (Nat.le_of_ble_eq_true rfl) (fun C hG hR => ?_)
  subst hx; subst hz
  have hln : l.length + 1 ≤ 16 := by simp at hl; omega
  refine V_iload_n (pc := 0) hG (dk dd_X1_begin 0 rfl) rfl ?_
  refine V_bipush (pc := 1) hG (dk dd_X1_begin 1 rfl) (v := 16) (by decide) ?_
  refine V_icmp_lt (pc := 3) hG (dk dd_X1_begin 2 rfl) (tgt := 8) (by decide) (fun h3 => ?_) (fun h3 => ?_)
  refine V_aload_n (pc := 8) hG (dk dd_X1_begin 5 rfl) rfl ?_
  refine V_iload_n (pc := 9) hG (dk dd_X1_begin 6 rfl) rfl ?_
  refine V_callVvp (pc := 10) hG (dk dd_X1_begin 7 rfl) ml_X1_43 mo_X1_leave sh_65 rfl (c_leave hT (by omega) rfl) (by decide) (by decide) rfl rfl rfl (fun m10 p10 => ?_)
  refine V_iload_n (pc := 13) hG (dk dd_X1_begin 8 rfl) rfl ?_
  refine V_iconst (pc := 14) hG (dk dd_X1_begin 9 rfl) (v := 1) (by decide) ?_
  refine V_iadd (pc := 15) hG (dk dd_X1_begin 10 rfl) ?_
  refine V_istore (pc := 16) hG (dk dd_X1_begin 11 rfl) (by decide) (lv' := [(0, _), (1, _), (2, _), (3, _), (4, _)]) rfl ?_
  refine V_iload_n (pc := 18) hG (dk dd_X1_begin 12 rfl) rfl ?_
  refine V_tableIn (pc := 19) hG (dk dd_X1_begin 13 rfl) (off := 144) (tgt := 163) (by decide +kernel) (by decide +kernel) (by decide +kernel) (by decide) ?_
  refine V_aload_n (pc := 163) hG (dk dd_X1_begin 59 rfl) rfl ?_
  refine V_bipush (pc := 164) hG (dk dd_X1_begin 60 rfl) (v := 20) (by decide) ?_
  refine V_iload_n (pc := 166) hG (dk dd_X1_begin 61 rfl) rfl ?_
  refine V_iload (pc := 167) hG (dk dd_X1_begin 62 rfl) rfl ?_
  refine V_callVip (pc := 169) hG (dk dd_X1_begin 63 rfl) ml_X1_28 mo_X1_begin sh_65 rfl (bg_20 hv hh _ _ _ _ _ (n + 1) (hA.off (fun x hx => p10.2 _ (by omega) (by omega))) p10.1 (by simp at hl ⊢; omega) rfl hy (nI_1 n) (by omega)) (by decide) (by decide) rfl rfl rfl (fun x169 m169 p169 => ?_)
  refine V_aload_n (pc := 172) hG (dk dd_X1_begin 64 rfl) rfl ?_
  refine V_getR (pc := 173) hG (dk dd_X1_begin 65 rfl) fl_X1_13 sh_65 rfl ?_
  refine V_getI (pc := 176) hG (dk dd_X1_begin 66 rfl) fl_X1_50 sh_15 rfl ?_
  refine V_callSi (pc := 179) hG (dk dd_X1_begin 67 rfl) ml_X1_53 mo_J6_bitCount_0f7a4 (c_bits (D := α 0 3) ?_ (hv.lt hv.D)) (by decide) (by decide) rfl rfl rfl ?_
  rotate_left
  refine V_iadd (pc := 182) hG (dk dd_X1_begin 68 rfl) ?_
  refine V_iretP (pc := 183) hG (dk dd_X1_begin 69 rfl) hR (Pi.mk ?_)
  rotate_left
  rotate_left
  -- leaves: call bitCount@179 0; return@183; stop 6
  · rw [p169.2.2 15 (by decide) (by decide), p10.2 15 (by decide) (by decide)]; exact hA.1 3 (by decide)
  · obtain ⟨rfl, q1, q2⟩ := p169
    exact ⟨rfl, by simpa using q1, fun a a1 a2 => (q2 a a1 a2).trans (p10.2 a a1 a2)⟩
  · exfalso; have := Nat.not_lt.mp (fun q => h3 ((nI_ltI (b := 16) (by omega) (by decide)).mpr q)); omega
theorem bg_size {α : Al} (hv : Val α) {h : Nat} (hh : h < α 0 6) (hk : 4 ≤ α 1 h) : ∃ b, szB (α 1 h) = nI b ∧ Bg α h b (szR α h) (szT α h) 3 2 := by
  have h5 := (hv.h hh).2.1
  unfold szR szT
  rcases (show α 1 h = 4 ∨ α 1 h = 5 by omega) with e | e
  · rw [e]
    exact ⟨13, rfl, bg_13b hv hh⟩
  · rw [e]; exact ⟨14, rfl, bg_14 hv hh⟩
theorem bg_mark {α : Al} (hv : Val α) {h : Nat} (hh : h < α 0 6) (hk : α 1 h ≤ 3) : ∃ b, mkB (α 1 h) = nI b ∧ Bg α h b (mkV α h) (mkT α h) 3 2 := by
  have h5 := (hv.h hh).1
  unfold mkV mkT
  rcases (show α 1 h = 1 ∨ α 1 h = 2 ∨ α 1 h = 3 by omega) with e | e | e
  · rw [e]
    exact ⟨21, rfl, bg_21b hv hh⟩
  · rw [e]; exact ⟨24, rfl, bg_24 hv hh⟩
  · rw [e]; exact ⟨22, rfl, bg_22 hv hh⟩
end
section
theorem room_mono {s : State} {pl : Platform} {d d' : Nat} (hd : d ≤ d') (h : s.hasRoom pl (rmD d') = true) : s.hasRoom pl (rmD d) = true := by
  unfold State.hasRoom rmD at *
  simp only [Bool.and_eq_true, decide_eq_true_eq] at h ⊢
  obtain ⟨⟨⟨⟨h1, h2, h3, h4, h5, h6⟩, h7⟩, h8⟩, h9⟩ := h
  have hF : d + 1 ≤ d' + 1 := by omega
  have hL : 256 * (d + 1) ≤ 256 * (d' + 1) := Nat.mul_le_mul_left _ hF
  exact ⟨⟨⟨⟨Nat.le_trans (Nat.add_le_add_right (Nat.add_le_add_left hL _) _) h1, Nat.le_trans (Nat.add_le_add_left hF _) h2, Nat.le_trans (Nat.add_le_add_left hF _) h3, Nat.le_trans (Nat.add_le_add_left hL _) h4, Nat.le_trans (Nat.add_le_add_left hL _) h5, h6⟩, h7⟩, h8⟩, h9⟩
theorem CtP.deeper {y : MethodName} {b : ByteArray} {n : Nat} {ret : Option FieldType} {d d' : Nat} {as : List Vl} {μ : Mem} {post : Po} (h : CtP y b n ret d as μ post) (hd : d ≤ d') : CtP y b n ret d' as μ post := by
  intro l E p e ha hc hk s m args below hf happ hP hkk
  refine h l E p e ha hc hk s m args below hf ?_ hP hkk
  rw [Spec.appliesLoose_iff hf] at happ ⊢
  obtain ⟨a1, a2, a3, a4, a5, a6, a7, a8⟩ := happ
  exact ⟨a1, a2, a3, a4, a5, a6, room_mono hd a7, a8⟩
theorem Bg.up {α : Al} {h body : Nat} {v : Int32} {tr : List Nat} {d ht d' ht' : Nat} (g : Bg α h body v tr d ht) (hd : d ≤ d') (hh : ht ≤ ht') : Bg α h body v tr d' ht' :=
  fun μ l x y z n a b c e f g2 k => (g μ l x y z n a b c e f g2 (by omega)).deeper hd
theorem bg_23 {α : Al} (hv : Val α) {h : Nat} (hh : h < α 0 6) (hk : 4 ≤ α 1 h) : Bg α h 23 (nI h - szR α h) ([23, 20] ++ szT α h) 4 3 := by
  intro μ l x y z n hA hT hl hx hy hz hn
  refine CtP.go RX1 rfl pn_X1 (Nat.le_of_ble_eq_true rfl) (fun C hG hR => ?_)
  subst hx; subst hz
  have hln : l.length + 1 ≤ 16 := by simp at hl; omega
  obtain ⟨b, hb1, hb2⟩ := bg_size hv hh hk
  refine V_iload_n (pc := 0) hG (dk dd_X1_begin 0 rfl) rfl ?_
  refine V_bipush (pc := 1) hG (dk dd_X1_begin 1 rfl) (v := 16) (by decide) ?_
  refine V_icmp_lt (pc := 3) hG (dk dd_X1_begin 2 rfl) (tgt := 8) (by decide) (fun h3 => ?_) (fun h3 => ?_)
  refine V_aload_n (pc := 8) hG (dk dd_X1_begin 5 rfl) rfl ?_
  refine V_iload_n (pc := 9) hG (dk dd_X1_begin 6 rfl) rfl ?_
  refine V_callVvp (pc := 10) hG (dk dd_X1_begin 7 rfl) ml_X1_43 mo_X1_leave sh_65 rfl (c_leave hT (by omega) rfl) (by decide) (by decide) rfl rfl rfl (fun m10 p10 => ?_)
  refine V_iload_n (pc := 13) hG (dk dd_X1_begin 8 rfl) rfl ?_
  refine V_iconst (pc := 14) hG (dk dd_X1_begin 9 rfl) (v := 1) (by decide) ?_
  refine V_iadd (pc := 15) hG (dk dd_X1_begin 10 rfl) ?_
  refine V_istore (pc := 16) hG (dk dd_X1_begin 11 rfl) (by decide) (lv' := [(0, _), (1, _), (2, _), (3, _), (4, _)]) rfl ?_
  refine V_iload_n (pc := 18) hG (dk dd_X1_begin 12 rfl) rfl ?_
  refine V_tableIn (pc := 19) hG (dk dd_X1_begin 13 rfl) (off := 179) (tgt := 198) (by decide +kernel) (by decide +kernel) (by decide +kernel) (by decide) ?_
  refine V_aload_n (pc := 198) hG (dk dd_X1_begin 78 rfl) rfl ?_
  refine V_bipush (pc := 199) hG (dk dd_X1_begin 79 rfl) (v := 20) (by decide) ?_
  refine V_iload_n (pc := 201) hG (dk dd_X1_begin 80 rfl) rfl ?_
  refine V_iload (pc := 202) hG (dk dd_X1_begin 81 rfl) rfl ?_
  refine V_callVip (pc := 204) hG (dk dd_X1_begin 82 rfl) ml_X1_28 mo_X1_begin sh_65 rfl (bg_20 hv hh _ _ _ _ _ (n + 1) (hA.off (fun x hx => p10.2 _ (by omega) (by omega))) p10.1 (by simp at hl ⊢; omega) rfl hy (nI_1 n) (by omega)) (by decide) (by decide) rfl rfl rfl (fun x204 m204 p204 => ?_)
  refine V_aload_n (pc := 207) hG (dk dd_X1_begin 83 rfl) rfl ?_
  refine V_aload_n (pc := 208) hG (dk dd_X1_begin 84 rfl) rfl ?_
  refine V_iload_n (pc := 209) hG (dk dd_X1_begin 85 rfl) rfl ?_
  refine V_callVip (pc := 210) hG (dk dd_X1_begin 86 rfl) ml_X1_21 mo_X1_sizeBody sh_65 rfl (c_sizeBody (hA.off (fun x hx => ((p204.2.2 _ (by omega) (by omega)).trans (p10.2 _ (by omega) (by omega))))) hv hh hy) (by decide) (by decide) rfl rfl rfl (fun x210 m210 p210 => ?_)
  refine V_iload_n (pc := 213) hG (dk dd_X1_begin 87 rfl) rfl ?_
  refine V_iload (pc := 214) hG (dk dd_X1_begin 88 rfl) rfl ?_
  refine V_callVip (pc := 216) hG (dk dd_X1_begin 89 rfl) ml_X1_28 mo_X1_begin sh_65 rfl (hb2 _ _ _ _ _ (n + 1) (hA.off (fun x hx => by rw [p210.1]; exact ((p204.2.2 _ (by omega) (by omega)).trans (p10.2 _ (by omega) (by omega))))) (show Tr m210 _ from p210.1 ▸ p204.2.1) (by simp at hl ⊢; omega) (p210.2.trans hb1) hy (nI_1 n) (by omega)) (by decide) (by decide) rfl rfl rfl (fun x216 m216 p216 => ?_)
  refine V_isub (pc := 219) hG (dk dd_X1_begin 90 rfl) ?_
  refine V_iretP (pc := 220) hG (dk dd_X1_begin 91 rfl) hR (Pi.mk ?_)
  rotate_left
  rotate_left
  -- leaves: return@220; stop 6
  · obtain ⟨rfl, q1, q2⟩ := p216
    obtain ⟨rfl, rfl⟩ := p210
    obtain ⟨rfl, q3, q4⟩ := p204
    exact ⟨rfl, by simpa using q1, fun a a1 a2 => (q2 a a1 a2).trans ((q4 a a1 a2).trans (p10.2 a a1 a2))⟩
  · exfalso; have := Nat.not_lt.mp (fun q => h3 ((nI_ltI (b := 16) (by omega) (by decide)).mpr q)); omega
theorem bg_11 {α : Al} (hv : Val α) {h : Nat} (hh : h < α 0 6) (hk : α 1 h ≤ 3) : Bg α h 11 (nI (α 2 h) + mkV α h) ([11, 10] ++ mkT α h) 4 3 := by
  intro μ l x y z n hA hT hl hx hy hz hn
  refine CtP.go RX1 rfl pn_X1 (Nat.le_of_ble_eq_true rfl) (fun C hG hR => ?_)
  subst hx; subst hz
  have hln : l.length + 1 ≤ 16 := by simp at hl; omega
  obtain ⟨b, hb1, hb2⟩ := bg_mark hv hh hk
  refine V_iload_n (pc := 0) hG (dk dd_X1_begin 0 rfl) rfl ?_
  refine V_bipush (pc := 1) hG (dk dd_X1_begin 1 rfl) (v := 16) (by decide) ?_
  refine V_icmp_lt (pc := 3) hG (dk dd_X1_begin 2 rfl) (tgt := 8) (by decide) (fun h3 => ?_) (fun h3 => ?_)
  refine V_aload_n (pc := 8) hG (dk dd_X1_begin 5 rfl) rfl ?_
  refine V_iload_n (pc := 9) hG (dk dd_X1_begin 6 rfl) rfl ?_
  refine V_callVvp (pc := 10) hG (dk dd_X1_begin 7 rfl) ml_X1_43 mo_X1_leave sh_65 rfl (c_leave hT (by omega) rfl) (by decide) (by decide) rfl rfl rfl (fun m10 p10 => ?_)
  refine V_iload_n (pc := 13) hG (dk dd_X1_begin 8 rfl) rfl ?_
  refine V_iconst (pc := 14) hG (dk dd_X1_begin 9 rfl) (v := 1) (by decide) ?_
  refine V_iadd (pc := 15) hG (dk dd_X1_begin 10 rfl) ?_
  refine V_istore (pc := 16) hG (dk dd_X1_begin 11 rfl) (by decide) (lv' := [(0, _), (1, _), (2, _), (3, _), (4, _)]) rfl ?_
  refine V_iload_n (pc := 18) hG (dk dd_X1_begin 12 rfl) rfl ?_
  refine V_tableIn (pc := 19) hG (dk dd_X1_begin 13 rfl) (off := 83) (tgt := 102) (by decide +kernel) (by decide +kernel) (by decide +kernel) (by decide) ?_
  refine V_aload_n (pc := 102) hG (dk dd_X1_begin 20 rfl) rfl ?_
  refine V_bipush (pc := 103) hG (dk dd_X1_begin 21 rfl) (v := 10) (by decide) ?_
  refine V_iload_n (pc := 105) hG (dk dd_X1_begin 22 rfl) rfl ?_
  refine V_iload (pc := 106) hG (dk dd_X1_begin 23 rfl) rfl ?_
  refine V_callVip (pc := 108) hG (dk dd_X1_begin 24 rfl) ml_X1_28 mo_X1_begin sh_65 rfl (bg_10 hv hh _ _ _ _ _ (n + 1) (hA.off (fun x hx => p10.2 _ (by omega) (by omega))) p10.1 (by simp at hl ⊢; omega) rfl hy (nI_1 n) (by omega)) (by decide) (by decide) rfl rfl rfl (fun x108 m108 p108 => ?_)
  refine V_aload_n (pc := 111) hG (dk dd_X1_begin 25 rfl) rfl ?_
  refine V_aload_n (pc := 112) hG (dk dd_X1_begin 26 rfl) rfl ?_
  refine V_iload_n (pc := 113) hG (dk dd_X1_begin 27 rfl) rfl ?_
  refine V_callVip (pc := 114) hG (dk dd_X1_begin 28 rfl) ml_X1_25 mo_X1_markBody sh_65 rfl (c_markBody (hA.off (fun x hx => ((p108.2.2 _ (by omega) (by omega)).trans (p10.2 _ (by omega) (by omega))))) hv hh hy) (by decide) (by decide) rfl rfl rfl (fun x114 m114 p114 => ?_)
  refine V_iload_n (pc := 117) hG (dk dd_X1_begin 29 rfl) rfl ?_
  refine V_iload (pc := 118) hG (dk dd_X1_begin 30 rfl) rfl ?_
  refine V_callVip (pc := 120) hG (dk dd_X1_begin 31 rfl) ml_X1_28 mo_X1_begin sh_65 rfl (hb2 _ _ _ _ _ (n + 1) (hA.off (fun x hx => by rw [p114.1]; exact ((p108.2.2 _ (by omega) (by omega)).trans (p10.2 _ (by omega) (by omega))))) (show Tr m114 _ from p114.1 ▸ p108.2.1) (by simp at hl ⊢; omega) (p114.2.trans hb1) hy (nI_1 n) (by omega)) (by decide) (by decide) rfl rfl rfl (fun x120 m120 p120 => ?_)
  refine V_iadd (pc := 123) hG (dk dd_X1_begin 32 rfl) ?_
  refine V_iretP (pc := 124) hG (dk dd_X1_begin 33 rfl) hR (Pi.mk ?_)
  rotate_left
  rotate_left
  -- leaves: return@124; stop 6
  · obtain ⟨rfl, q1, q2⟩ := p120
    obtain ⟨rfl, rfl⟩ := p114
    obtain ⟨rfl, q3, q4⟩ := p108
    exact ⟨rfl, by simpa using q1, fun a a1 a2 => (q2 a a1 a2).trans ((q4 a a1 a2).trans (p10.2 a a1 a2))⟩
  · exfalso; have := Nat.not_lt.mp (fun q => h3 ((nI_ltI (b := 16) (by omega) (by decide)).mpr q)); omega
theorem bg_12 {α : Al} (hv : Val α) {h : Nat} (hh : h < α 0 6) (hk : α 1 h ≤ 3) : Bg α h 12 (-(nI (α 2 h) + mkV α h)) ([12, 11, 10] ++ mkT α h) 5 4 := by
  intro μ l x y z n hA hT hl hx hy hz hn
  refine CtP.go RX1 rfl pn_X1 (Nat.le_of_ble_eq_true rfl) (fun C hG hR => ?_)
  subst hx; subst hz
  have hln : l.length + 1 ≤ 16 := by simp at hl; omega
  refine V_iload_n (pc := 0) hG (dk dd_X1_begin 0 rfl) rfl ?_
  refine V_bipush (pc := 1) hG (dk dd_X1_begin 1 rfl) (v := 16) (by decide) ?_
  refine V_icmp_lt (pc := 3) hG (dk dd_X1_begin 2 rfl) (tgt := 8) (by decide) (fun h3 => ?_) (fun h3 => ?_)
  refine V_aload_n (pc := 8) hG (dk dd_X1_begin 5 rfl) rfl ?_
  refine V_iload_n (pc := 9) hG (dk dd_X1_begin 6 rfl) rfl ?_
  refine V_callVvp (pc := 10) hG (dk dd_X1_begin 7 rfl) ml_X1_43 mo_X1_leave sh_65 rfl (c_leave hT (by omega) rfl) (by decide) (by decide) rfl rfl rfl (fun m10 p10 => ?_)
  refine V_iload_n (pc := 13) hG (dk dd_X1_begin 8 rfl) rfl ?_
  refine V_iconst (pc := 14) hG (dk dd_X1_begin 9 rfl) (v := 1) (by decide) ?_
  refine V_iadd (pc := 15) hG (dk dd_X1_begin 10 rfl) ?_
  refine V_istore (pc := 16) hG (dk dd_X1_begin 11 rfl) (by decide) (lv' := [(0, _), (1, _), (2, _), (3, _), (4, _)]) rfl ?_
  refine V_iload_n (pc := 18) hG (dk dd_X1_begin 12 rfl) rfl ?_
  refine V_tableIn (pc := 19) hG (dk dd_X1_begin 13 rfl) (off := 106) (tgt := 125) (by decide +kernel) (by decide +kernel) (by decide +kernel) (by decide) ?_
  refine V_aload_n (pc := 125) hG (dk dd_X1_begin 34 rfl) rfl ?_
  refine V_bipush (pc := 126) hG (dk dd_X1_begin 35 rfl) (v := 11) (by decide) ?_
  refine V_iload_n (pc := 128) hG (dk dd_X1_begin 36 rfl) rfl ?_
  refine V_iload (pc := 129) hG (dk dd_X1_begin 37 rfl) rfl ?_
  refine V_callVip (pc := 131) hG (dk dd_X1_begin 38 rfl) ml_X1_28 mo_X1_begin sh_65 rfl (bg_11 hv hh hk _ _ _ _ _ (n + 1) (hA.off (fun x hx => p10.2 _ (by omega) (by omega))) p10.1 (by simp at hl ⊢; omega) rfl hy (nI_1 n) (by omega)) (by decide) (by decide) rfl rfl rfl (fun x131 m131 p131 => ?_)
  refine V_ineg (pc := 134) hG (dk dd_X1_begin 39 rfl) ?_
  refine V_iretP (pc := 135) hG (dk dd_X1_begin 40 rfl) hR (Pi.mk ?_)
  rotate_left
  rotate_left
  -- leaves: return@135; stop 6
  · obtain ⟨rfl, q1, q2⟩ := p131
    exact ⟨rfl, by simpa using q1, fun a a1 a2 => (q2 a a1 a2).trans (p10.2 a a1 a2)⟩
  · exfalso; have := Nat.not_lt.mp (fun q => h3 ((nI_ltI (b := 16) (by omega) (by decide)).mpr q)); omega
def askV (α : Al) (h : Nat) (w : Int32) : Int32 := if w = 0 then (if 4 ≤ α 1 h then szR α h else if α 1 h = 2 then -(nI (α 2 h) + mkV α h) else nI (α 2 h) + mkV α h) else (if 4 ≤ α 1 h then nI h - szR α h else mkV α h)
def askT (α : Al) (h : Nat) (w : Int32) : List Nat := if w = 0 then (if 4 ≤ α 1 h then szT α h else if α 1 h = 2 then [12, 11, 10] ++ mkT α h else [11, 10] ++ mkT α h) else (if 4 ≤ α 1 h then [23, 20] ++ szT α h else mkT α h)
theorem mkT_len (α : Al) (h : Nat) : (mkT α h).length ≤ 3 := by unfold mkT; split; decide; split <;> decide
theorem szT_len (α : Al) (h : Nat) : (szT α h).length ≤ 3 := by unfold szT; split <;> decide
theorem askT_len (α : Al) (h : Nat) (w : Int32) : (askT α h w).length ≤ 6 := by
  have := mkT_len α h; have := szT_len α h
  unfold askT; split <;> split <;> try split
  all_goals simp <;> omega
theorem bg_ask {α : Al} (hv : Val α) {h : Nat} (hh : h < α 0 6) (w : Int32) : ∃ b, (if w = 0 then szB (α 1 h) else mkB (α 1 h)) = nI b ∧ Bg α h b (askV α h w) (askT α h w) 5 4 := by
  have hk := hv.h hh
  unfold askV askT
  by_cases hw : w = 0
  · simp only [if_pos hw]
    by_cases h4 : 4 ≤ α 1 h
    · simp only [if_pos h4]
      obtain ⟨b, h1, h2⟩ := bg_size hv hh h4
      exact ⟨b, h1, h2.up (by decide) (by decide)⟩
    · simp only [if_neg h4]
      by_cases h2 : α 1 h = 2
      · simp only [if_pos h2]; exact ⟨12, by rw [h2]; rfl, bg_12 hv hh (by omega)⟩
      · simp only [if_neg h2]
        refine ⟨11, ?_, (bg_11 hv hh (by omega)).up (by decide) (by decide)⟩
        have := hk.1
        rcases (show α 1 h = 1 ∨ α 1 h = 3 by omega) with e | e <;> rw [e] <;> rfl
  · simp only [if_neg hw]
    by_cases h4 : 4 ≤ α 1 h
    · simp only [if_pos h4]
      refine ⟨23, ?_, (bg_23 hv hh h4).up (by decide) (by decide)⟩
      have := hk.2.1
      rcases (show α 1 h = 4 ∨ α 1 h = 5 by omega) with e | e <;> rw [e] <;> rfl
    · simp only [if_neg h4]
      obtain ⟨b, h1, h2⟩ := bg_mark hv hh (by omega)
      exact ⟨b, h1, h2.up (by decide) (by decide)⟩
theorem c_answer {μ : Mem} {α : Al} (hA : Abs (kac μ 15) α) (hv : Val α) {h : Nat} (hh : h < α 0 6) {x w : Int32} (hx : x = nI h) : CtP yX1_answer cX1_answer 3 (some .int) 6 [vR 65, vI x, vI w] μ (Pi (fun r μ' => r = askV α h w ∧ Tr μ' (askT α h w) ∧ ∀ a, a ≠ 65 → a ≠ 66 → μ' a = μ a)) := by
  refine CtP.go RX1 rfl pn_X1 (Nat.le_of_ble_eq_true rfl) (fun C hG hR => ?_)
  obtain ⟨b, hb1, hb2⟩ := bg_ask hv hh w
  have hlen := askT_len α h w
  have hA1 : Abs (kac (setc μ 65 (upd (μ 65) 2 0)) 15) α := hA.off (fun x hx => setc_n (by omega))
  have hT1 : Tr (setc μ 65 (upd (μ 65) 2 0)) [] := ⟨by rw [setc_s, pk_us]; rfl, fun k hk => absurd hk (Nat.not_lt_zero k)⟩
  refine V_aload_n (pc := 0) hG (dk dd_X1_answer 0 rfl) rfl ?_
  refine V_iconst (pc := 1) hG (dk dd_X1_answer 1 rfl) (v := 0) (by decide) ?_
  refine V_putI (pc := 2) hG (dk dd_X1_answer 2 rfl) fl_X1_17 sh_65 rfl rfl ?_
  refine V_aload_n (pc := 5) hG (dk dd_X1_answer 3 rfl) rfl ?_
  refine V_iload_n (pc := 6) hG (dk dd_X1_answer 4 rfl) rfl ?_
  refine V_if_ne (pc := 7) hG (dk dd_X1_answer 5 rfl) (tgt := 18) (by decide) (fun h7 => ?_) (fun h7 => ?_)
  refine V_aload_n (pc := 18) hG (dk dd_X1_answer 10 rfl) rfl ?_
  refine V_iload_n (pc := 19) hG (dk dd_X1_answer 11 rfl) rfl ?_
  refine V_callVip (pc := 20) hG (dk dd_X1_answer 12 rfl) ml_X1_25 mo_X1_markBody sh_65 rfl (c_markBody hA1 hv hh hx) (by decide) (by decide) rfl rfl rfl (fun x20 m20 p20 => ?_)
  refine V_iload_n (pc := 23) hG (dk dd_X1_answer 13 rfl) rfl ?_
  refine V_iconst (pc := 24) hG (dk dd_X1_answer 14 rfl) (v := 0) (by decide) ?_
  refine V_callVip (pc := 25) hG (dk dd_X1_answer 15 rfl) ml_X1_28 mo_X1_begin sh_65 rfl (hb2 _ [] _ _ _ 0 (hA1.off (fun x hx => by rw [p20.1])) (show Tr m20 _ from p20.1 ▸ hT1) (by simp; omega) (by rw [p20.2, ← hb1, if_neg h7]) hx rfl (by decide)) (by decide) (by decide) rfl rfl rfl (fun x25 m25 p25 => ?_)
  refine V_iretP (pc := 28) hG (dk dd_X1_answer 16 rfl) hR (Pi.mk ?_)
  rotate_left
  refine V_aload_n (pc := 10) hG (dk dd_X1_answer 6 rfl) rfl ?_
  refine V_iload_n (pc := 11) hG (dk dd_X1_answer 7 rfl) rfl ?_
  refine V_callVip (pc := 12) hG (dk dd_X1_answer 8 rfl) ml_X1_21 mo_X1_sizeBody sh_65 rfl (c_sizeBody hA1 hv hh hx) (by decide) (by decide) rfl rfl rfl (fun x12 m12 p12 => ?_)
  refine V_goto (pc := 15) hG (dk dd_X1_answer 9 rfl) (tgt := 23) (by decide) ?_
  refine V_iload_n (pc := 23) hG (dk dd_X1_answer 13 rfl) rfl ?_
  refine V_iconst (pc := 24) hG (dk dd_X1_answer 14 rfl) (v := 0) (by decide) ?_
  refine V_callVip (pc := 25) hG (dk dd_X1_answer 15 rfl) ml_X1_28 mo_X1_begin sh_65 rfl (hb2 _ [] _ _ _ 0 (hA1.off (fun x hx => by rw [p12.1])) (show Tr m12 _ from p12.1 ▸ hT1) (by simp; omega) (by rw [p12.2, ← hb1, if_pos h7]) hx rfl (by decide)) (by decide) (by decide) rfl rfl rfl (fun x25 m25 p25 => ?_)
  refine V_iretP (pc := 28) hG (dk dd_X1_answer 16 rfl) hR (Pi.mk ?_)
  rotate_left
  -- leaves: return@28; return@28
  · obtain ⟨rfl, rfl⟩ := p20
    obtain ⟨rfl, q1, q2⟩ := p25
    exact ⟨rfl, q1, fun a a1 a2 => (q2 a a1 a2).trans (setc_n a1)⟩
  · obtain ⟨rfl, rfl⟩ := p12
    obtain ⟨rfl, q1, q2⟩ := p25
    exact ⟨rfl, q1, fun a a1 a2 => (q2 a a1 a2).trans (setc_n a1)⟩
end
section
/-! ===== Walks: dreams behind exactly n hums ===== -/
def Rch (α : Al) (D : Nat) : Nat → Nat → Prop
  | 0, E => E = D
  | n + 1, E => ∃ F h, Rch α D n F ∧ h < α 0 6 ∧ humN α h F = E
theorem Rch_lt {α : Al} (hv : Val α) {D : Nat} (hD : D < 2 ^ α 0 0) : ∀ {n E : Nat}, Rch α D n E → E < 2 ^ α 0 0
  | 0, E, h => by have h : E = D := h; omega
  | n + 1, E, h => by
    obtain ⟨F, k, h1, h2, h3⟩ := h
    rw [← h3]; exact humN_lt hv h2 (Rch_lt hv hD h1)
/-- a row of 256 marks -/
def Mk (f : Nat → Int32) (P : Nat → Prop) : Prop := ∀ E, E < 256 → is1 (f E) (P E)
theorem Mk.upd {f : Nat → Int32} {P : Nat → Prop} (h : Mk f P) (k : Nat) : Mk (upd f k 1) (fun E => P E ∨ E = k) := by
  intro E hE
  by_cases e : E = k
  · subst e; rw [pk_us]; exact is1.t (Or.inr rfl)
  · rw [pk_un e]
    rcases h E hE with ⟨q, z⟩ | ⟨q, z⟩
    · exact Or.inl ⟨q, Or.inl z⟩
    · exact Or.inr ⟨q, fun w => w.elim z e⟩
theorem Mk.cg {f g : Nat → Int32} {P Q : Nat → Prop} (h : Mk f P) (hf : ∀ E, E < 256 → g E = f E) (hP : ∀ E, E < 256 → (P E ↔ Q E)) : Mk g Q := by
  intro E hE
  rw [hf E hE]
  rcases h E hE with ⟨q, z⟩ | ⟨q, z⟩
  · exact Or.inl ⟨q, (hP E hE).mp z⟩
  · exact Or.inr ⟨q, fun w => z ((hP E hE).mpr w)⟩
theorem c_markBehind {μ : Mem} {α : Al} (hA : Abs (kac μ 15) α) (hv : Val α) {x : Int32} {F : Nat} (hx : x = nI F) (hF : F < 2 ^ α 0 0) {P : Nat → Prop} (hP : Mk (μ 53) P) :
    CtP yX8_markBehind cX8_markBehind 3 none 3 [vR 51, vI x] μ (Pv (fun μ' => ∃ f, μ' = setc μ 53 f ∧ Mk f (fun E => P E ∨ ∃ h, h < α 0 6 ∧ humN α h F = E))) := by
  refine CtP.go RX8 rfl pn_X8 (Nat.le_of_ble_eq_true rfl) (fun C hG hR => ?_)
  have e6 : μ 15 6 = nI (α 0 6) := hA.1 6 (by decide)
  have hH := hv.H
  have loop : ∀ k i f, i + k = α 0 6 → Mk f (fun E => P E ∨ ∃ h, h < i ∧ humN α h F = E) → V C 2 [(0, vR 51), (1, vI x), (2, vI (nI i))] [] (setc μ 53 f) := by
    intro k
    induction k with
    | zero =>
      intro i f hi hf
      refine V_iload_n (pc := 2) hG (dk dd_X8_markBehind 2 rfl) rfl ?_
      refine V_aload_n (pc := 3) hG (dk dd_X8_markBehind 3 rfl) rfl ?_
      refine V_getR (pc := 4) hG (dk dd_X8_markBehind 4 rfl) fl_X8_30 sh_51 rfl ?_
      refine V_getI (pc := 7) hG (dk dd_X8_markBehind 5 rfl) fl_X8_64 sh_15 rfl ?_
      refine V_icmp_ge (pc := 10) hG (dk dd_X8_markBehind 6 rfl) (tgt := 34) (by decide) (fun h10 => ?_) (fun h10 => ?_)
      refine V_vretP (pc := 34) hG (dk dd_X8_markBehind 18 rfl) hR (Pv.mk ?_)
      rotate_left
      rotate_left
      -- leaves: return@34; stop 13
      · exact ⟨f, rfl, hf.cg (fun _ _ => rfl) (fun E _ => by rw [show i = α 0 6 by omega])⟩
      · exfalso; rw [setc_n (by decide), e6] at h10; have := nle_i h10 (by omega) (by omega); omega
    | succ k ih =>
      intro i f hi hf
      have hA' : Abs (kac (setc μ 53 f) 15) α := hA.off (fun x hx => setc_n (by omega))
      have hb := hv.lt (humN_lt hv (show i < α 0 6 by omega) hF)
      have hI := ih (i + 1) (upd f (humN α i F) 1) (by omega) ((hf.upd (humN α i F)).cg (fun _ _ => rfl) (fun E _ => by
        constructor
        · rintro ((q | ⟨h, h1, h2⟩) | q)
          · exact Or.inl q
          · exact Or.inr ⟨h, by omega, h2⟩
          · exact Or.inr ⟨i, by omega, q.symm⟩
        · rintro (q | ⟨h, h1, h2⟩)
          · exact Or.inl (Or.inl q)
          · by_cases e : h = i
            · subst e; exact Or.inr h2.symm
            · exact Or.inl (Or.inr ⟨h, by omega, h2⟩)))
      rw [nI_succ] at hI
      refine V_iload_n (pc := 2) hG (dk dd_X8_markBehind 2 rfl) rfl ?_
      refine V_aload_n (pc := 3) hG (dk dd_X8_markBehind 3 rfl) rfl ?_
      refine V_getR (pc := 4) hG (dk dd_X8_markBehind 4 rfl) fl_X8_30 sh_51 rfl ?_
      refine V_getI (pc := 7) hG (dk dd_X8_markBehind 5 rfl) fl_X8_64 sh_15 rfl ?_
      refine V_icmp_ge (pc := 10) hG (dk dd_X8_markBehind 6 rfl) (tgt := 34) (by decide) (fun h10 => ?_) (fun h10 => ?_)
      rotate_left
      refine V_aload_n (pc := 13) hG (dk dd_X8_markBehind 7 rfl) rfl ?_
      refine V_getR (pc := 14) hG (dk dd_X8_markBehind 8 rfl) fl_X8_15 sh_51 rfl ?_
      refine V_aload_n (pc := 17) hG (dk dd_X8_markBehind 9 rfl) rfl ?_
      refine V_getR (pc := 18) hG (dk dd_X8_markBehind 10 rfl) fl_X8_30 sh_51 rfl ?_
      refine V_iload_n (pc := 21) hG (dk dd_X8_markBehind 11 rfl) rfl ?_
      refine V_iload_n (pc := 22) hG (dk dd_X8_markBehind 12 rfl) rfl ?_
      refine V_callVi (pc := 23) hG (dk dd_X8_markBehind 13 rfl) ml_X8_67 mo_X2_by sh_15 rfl (c_by co_now hA' hv rfl (by omega) hx hF) (by decide) (by decide) rfl rfl rfl ?_
      refine V_iconst (pc := 26) hG (dk dd_X8_markBehind 14 rfl) (v := 1) (by decide) ?_
      refine V_iast (pc := 27) hG (dk dd_X8_markBehind 15 rfl) sh_53 (vp_in_nI hb (by decide)) ?_
      refine V_iinc (pc := 28) hG (dk dd_X8_markBehind 16 rfl) rfl (v := _ + 1) rfl (by decide) (lv' := [(0, _), (1, _), (2, _)]) rfl ?_
      refine V_goto (pc := 31) hG (dk dd_X8_markBehind 17 rfl) (tgt := 2) (by decide) ?_
      rotate_left
      -- leaves: stop 34; stop 2
      · exfalso; rw [setc_n (by decide), e6] at h10; have := le_i h10 (by omega) (by omega); omega
      · rw [setc_s, setc_c, nI_clamp (show humN α i F < 2 ^ 31 by omega)]; exact hI
  refine V_iconst (pc := 0) hG (dk dd_X8_markBehind 0 rfl) (v := 0) (by decide) ?_
  refine V_istore_n (pc := 1) hG (dk dd_X8_markBehind 1 rfl) (by decide) (lv' := [(0, _), (1, _), (2, _)]) rfl ?_
  rotate_left
  -- leaves: stop 2
  · have := loop (α 0 6) 0 (μ 53) (by omega) (hP.cg (fun _ _ => rfl) (fun E _ => ⟨Or.inl, fun q => q.elim id (fun ⟨h, h1, _⟩ => absurd h1 (Nat.not_lt_zero h))⟩))
    rw [setc_id] at this
    exact this
theorem c_goBehind {μ : Mem} {α : Al} (hA : Abs (kac μ 15) α) (hv : Val α) {x : Int32} {n : Nat} (hx : x = nI n) (hn : n < 100) :
    CtP yX8_goBehind cX8_goBehind 4 none 4 [vR 51, vI x] μ (Pv (fun μ' => (∀ a, a ≠ 52 → a ≠ 53 → μ' a = μ a) ∧ Mk (μ' 52) (Rch α (α 0 3) n))) := by
  refine CtP.go RX8 rfl pn_X8 (Nat.le_of_ble_eq_true rfl) (fun C hG hR => ?_)
  have e3 : μ 15 3 = nI (α 0 3) := hA.1 3 (by decide)
  have e0 : bI (μ 15 0) = nI (2 ^ α 0 0) := by rw [show μ 15 0 = nI (α 0 0) from hA.1 0 (by decide)]; exact q_pow _ (by have := hv.t; omega)
  have hp := pow8 hv.t
  have hD8 := hv.lt hv.D
  have loop : ∀ ko j μ1, j + ko = n → (∀ a, a ≠ 52 → a ≠ 53 → μ1 a = μ a) → Mk (μ1 52) (Rch α (α 0 3) j) → V C 23 [(0, vR 51), (1, vI x), (2, vI (nI j))] [] μ1 := by
    intro ko
    induction ko with
    | zero =>
      intro j μ1 hj f1 f2
      refine V_iload_n (pc := 23) hG (dk dd_X8_goBehind 13 rfl) rfl ?_
      refine V_iload_n (pc := 24) hG (dk dd_X8_goBehind 14 rfl) rfl ?_
      refine V_icmp_ge (pc := 25) hG (dk dd_X8_goBehind 15 rfl) (tgt := 91) (by decide) (fun h25 => ?_) (fun h25 => ?_)
      refine V_vretP (pc := 91) hG (dk dd_X8_goBehind 47 rfl) hR (Pv.mk ?_)
      rotate_left
      rotate_left
      -- leaves: return@91; stop 28
      · exact ⟨f1, by rw [show n = j by omega]; exact f2⟩
      · exfalso; rw [hx] at h25; have := nle_i h25 (by omega) (by omega); omega
    | succ ko ih =>
      intro j μ1 hj f1 f2
      have inner : ∀ k i μ2, i + k = 2 ^ α 0 0 → (∀ a, a ≠ 53 → μ2 a = μ1 a) → Mk (μ2 53) (fun E => ∃ F, F < i ∧ Rch α (α 0 3) j F ∧ ∃ h, h < α 0 6 ∧ humN α h F = E) → V C 38 [(0, vR 51), (1, vI x), (2, vI (nI j)), (3, vI (nI i))] [] μ2 := by
        intro k
        induction k with
        | zero =>
          intro i μ2 hi g1 g2
          have e00 : bI (μ2 15 0) = nI (2 ^ α 0 0) := by rw [g1 15 (by decide), f1 15 (by decide) (by decide)]; exact e0
          refine V_iload_n (pc := 38) hG (dk dd_X8_goBehind 22 rfl) rfl ?_
          refine V_aload_n (pc := 39) hG (dk dd_X8_goBehind 23 rfl) rfl ?_
          refine V_getR (pc := 40) hG (dk dd_X8_goBehind 24 rfl) fl_X8_30 sh_51 rfl ?_
          refine V_callVi (pc := 43) hG (dk dd_X8_goBehind 25 rfl) ml_X8_38 mo_X2_dreamCount sh_15 rfl (c_dreamCount co_now) (by decide) (by decide) rfl rfl rfl ?_
          refine V_icmp_ge (pc := 46) hG (dk dd_X8_goBehind 26 rfl) (tgt := 69) (by decide) (fun h46 => ?_) (fun h46 => ?_)
          refine V_aload_n (pc := 69) hG (dk dd_X8_goBehind 37 rfl) rfl ?_
          refine V_getR (pc := 70) hG (dk dd_X8_goBehind 38 rfl) fl_X8_15 sh_51 rfl ?_
          refine V_iconst (pc := 73) hG (dk dd_X8_goBehind 39 rfl) (v := 0) (by decide) ?_
          refine V_aload_n (pc := 74) hG (dk dd_X8_goBehind 40 rfl) rfl ?_
          refine V_getR (pc := 75) hG (dk dd_X8_goBehind 41 rfl) fl_X8_9 sh_51 rfl ?_
          refine V_iconst (pc := 78) hG (dk dd_X8_goBehind 42 rfl) (v := 0) (by decide) ?_
          refine V_sipush (pc := 79) hG (dk dd_X8_goBehind 43 rfl) (v := 256) (by decide) ?_
          -- arraycopy
          refine V_acopy (pc := 82) hG (dk dd_X8_goBehind 44 rfl) ml_X8_58 sh_53 sh_52 (by decide) (by decide) (by decide) (by decide) (by decide) rfl ?_
          refine V_iinc (pc := 85) hG (dk dd_X8_goBehind 45 rfl) rfl (v := _ + 1) rfl (by decide) (lv' := [(0, _), (1, _), (2, _), (3, _)]) rfl ?_
          refine V_goto (pc := 88) hG (dk dd_X8_goBehind 46 rfl) (tgt := 23) (by decide) ?_
          refine V_keep [0, 1, 2] (lv' := [(0, _), (1, _), (2, _)]) rfl ?_
          rotate_left
          rotate_left
          -- leaves: stop 23; stop 49
          · have hI := ih (j + 1) (setc μ2 52 (va_cpy (μ2 53) (μ2 52) (0 : Int32).toNatClampNeg (0 : Int32).toNatClampNeg (256 : Int32).toNatClampNeg)) (by omega) (fun a a1 a2 => by rw [setc_n a1, g1 a a2]; exact f1 a a1 a2) (by
              rw [setc_s]
              refine g2.cg (fun E hE => ?_) (fun E _ => ?_)
              · show va_cpy (μ2 53) (μ2 52) 0 0 256 E = _
                rw [pk_cpy_in (Nat.zero_le _) (by omega), Nat.zero_add, Nat.sub_zero]
              · constructor
                · rintro ⟨F, _, h2, h, h3, h4⟩; exact ⟨F, h, h2, h3, h4⟩
                · rintro ⟨F, h, h2, h3, h4⟩; exact ⟨F, by have := Rch_lt hv hv.D h2; omega, h2, h, h3, h4⟩)
            rw [nI_succ] at hI
            exact hI
          · exfalso; rw [e00] at h46; have := nle_i h46 (by omega) (by omega); omega
        | succ k ihk =>
          intro i μ2 hi g1 g2
          have e00 : bI (μ2 15 0) = nI (2 ^ α 0 0) := by rw [g1 15 (by decide), f1 15 (by decide) (by decide)]; exact e0
          have hA2 : Abs (kac μ2 15) α := hA.off (fun x hx => by rw [g1 _ (by omega), f1 _ (by omega) (by omega)])
          have hr : vp_in (nI i) 256 := vp_in_nI (by omega) (by decide)
          have ci : (nI i).toNatClampNeg = i := nI_clamp (by omega)
          have hm : is1 (μ2 52 i) (Rch α (α 0 3) j i) := by rw [g1 52 (by decide)]; exact f2 i (by omega)
          refine V_iload_n (pc := 38) hG (dk dd_X8_goBehind 22 rfl) rfl ?_
          refine V_aload_n (pc := 39) hG (dk dd_X8_goBehind 23 rfl) rfl ?_
          refine V_getR (pc := 40) hG (dk dd_X8_goBehind 24 rfl) fl_X8_30 sh_51 rfl ?_
          refine V_callVi (pc := 43) hG (dk dd_X8_goBehind 25 rfl) ml_X8_38 mo_X2_dreamCount sh_15 rfl (c_dreamCount co_now) (by decide) (by decide) rfl rfl rfl ?_
          refine V_icmp_ge (pc := 46) hG (dk dd_X8_goBehind 26 rfl) (tgt := 69) (by decide) (fun h46 => ?_) (fun h46 => ?_)
          rotate_left
          refine V_aload_n (pc := 49) hG (dk dd_X8_goBehind 27 rfl) rfl ?_
          refine V_getR (pc := 50) hG (dk dd_X8_goBehind 28 rfl) fl_X8_9 sh_51 rfl ?_
          refine V_iload_n (pc := 53) hG (dk dd_X8_goBehind 29 rfl) rfl ?_
          refine V_iald (pc := 54) hG (dk dd_X8_goBehind 30 rfl) sh_52 hr ?_
          refine V_if_eq (pc := 55) hG (dk dd_X8_goBehind 31 rfl) (tgt := 63) (by decide) (fun h55 => ?_) (fun h55 => ?_)
          refine V_iinc (pc := 63) hG (dk dd_X8_goBehind 35 rfl) rfl (v := _ + 1) rfl (by decide) (lv' := [(0, _), (1, _), (2, _), (3, _)]) rfl ?_
          refine V_goto (pc := 66) hG (dk dd_X8_goBehind 36 rfl) (tgt := 38) (by decide) ?_
          rotate_left
          refine V_aload_n (pc := 58) hG (dk dd_X8_goBehind 32 rfl) rfl ?_
          refine V_iload_n (pc := 59) hG (dk dd_X8_goBehind 33 rfl) rfl ?_
          refine V_callVvp (pc := 60) hG (dk dd_X8_goBehind 34 rfl) ml_X8_55 mo_X8_markBehind sh_51 rfl (c_markBehind hA2 hv rfl (by omega) g2) (by decide) (by decide) rfl rfl rfl (fun m60 p60 => ?_)
          refine V_iinc (pc := 63) hG (dk dd_X8_goBehind 35 rfl) rfl (v := _ + 1) rfl (by decide) (lv' := [(0, _), (1, _), (2, _), (3, _)]) rfl ?_
          refine V_goto (pc := 66) hG (dk dd_X8_goBehind 36 rfl) (tgt := 38) (by decide) ?_
          rotate_left
          -- leaves: stop 69; stop 38; stop 38
          · exfalso; rw [e00] at h46; have := le_i h46 (by omega) (by omega); omega
          · rw [ci] at h55
            have hI := ihk (i + 1) μ2 (by omega) g1 (g2.cg (fun _ _ => rfl) (fun E _ => ⟨fun ⟨F, h1, h2⟩ => ⟨F, by omega, h2⟩, fun ⟨F, h1, h2⟩ => by
              by_cases e : F = i
              · subst e; exact absurd h2.1 (hm.no h55)
              · exact ⟨F, by omega, h2⟩⟩))
            rw [nI_succ] at hI
            exact hI
          · rw [ci] at h55
            obtain ⟨f, rfl, hf⟩ := p60
            have hI := ihk (i + 1) (setc μ2 53 f) (by omega) (fun a ha => by rw [setc_n ha]; exact g1 a ha) (by
              rw [setc_s]
              refine hf.cg (fun _ _ => rfl) (fun E _ => ⟨?_, ?_⟩)
              · rintro (⟨F, h1, h2⟩ | ⟨h, h1, h2⟩)
                · exact ⟨F, by omega, h2⟩
                · exact ⟨i, by omega, hm.yes h55, h, h1, h2⟩
              · rintro ⟨F, h1, h2, h3⟩
                by_cases e : F = i
                · subst e; exact Or.inr h3
                · exact Or.inl ⟨F, by omega, h2, h3⟩)
            rw [nI_succ] at hI
            exact hI
      refine V_iload_n (pc := 23) hG (dk dd_X8_goBehind 13 rfl) rfl ?_
      refine V_iload_n (pc := 24) hG (dk dd_X8_goBehind 14 rfl) rfl ?_
      refine V_icmp_ge (pc := 25) hG (dk dd_X8_goBehind 15 rfl) (tgt := 91) (by decide) (fun h25 => ?_) (fun h25 => ?_)
      rotate_left
      refine V_aload_n (pc := 28) hG (dk dd_X8_goBehind 16 rfl) rfl ?_
      refine V_getR (pc := 29) hG (dk dd_X8_goBehind 17 rfl) fl_X8_15 sh_51 rfl ?_
      refine V_iconst (pc := 32) hG (dk dd_X8_goBehind 18 rfl) (v := 0) (by decide) ?_
      refine V_callSvp (pc := 33) hG (dk dd_X8_goBehind 19 rfl) ml_X8_45 mo_J7_fill_53178 (c_fill sh_53 (by decide)) (by decide) (by decide) rfl rfl rfl (fun m33 p33 => ?_)
      refine V_iconst (pc := 36) hG (dk dd_X8_goBehind 20 rfl) (v := 0) (by decide) ?_
      refine V_istore_n (pc := 37) hG (dk dd_X8_goBehind 21 rfl) (by decide) (lv' := [(0, _), (1, _), (2, _), (3, _)]) rfl ?_
      rotate_left
      -- leaves: stop 91; stop 38
      · exfalso; rw [hx] at h25; have := le_i h25 (by omega) (by omega); omega
      · obtain ⟨f, rfl, hf⟩ := p33
        exact inner (2 ^ α 0 0) 0 _ (by omega) (fun a ha => setc_n ha) (by rw [setc_s]; exact fun E hE => Or.inr ⟨hf E hE, fun ⟨F, h1, _⟩ => absurd h1 (Nat.not_lt_zero F)⟩)
  refine V_aload_n (pc := 0) hG (dk dd_X8_goBehind 0 rfl) rfl ?_
  refine V_getR (pc := 1) hG (dk dd_X8_goBehind 1 rfl) fl_X8_9 sh_51 rfl ?_
  refine V_iconst (pc := 4) hG (dk dd_X8_goBehind 2 rfl) (v := 0) (by decide) ?_
  refine V_callSvp (pc := 5) hG (dk dd_X8_goBehind 3 rfl) ml_X8_45 mo_J7_fill_53178 (c_fill sh_52 (by decide)) (by decide) (by decide) rfl rfl rfl (fun m5 p5 => ?_)
  refine V_aload_n (pc := 8) hG (dk dd_X8_goBehind 4 rfl) rfl ?_
  refine V_getR (pc := 9) hG (dk dd_X8_goBehind 5 rfl) fl_X8_9 sh_51 rfl ?_
  refine V_aload_n (pc := 12) hG (dk dd_X8_goBehind 6 rfl) rfl ?_
  refine V_getR (pc := 13) hG (dk dd_X8_goBehind 7 rfl) fl_X8_30 sh_51 rfl ?_
  refine V_getI (pc := 16) hG (dk dd_X8_goBehind 8 rfl) fl_X8_51 sh_15 rfl ?_
  refine V_iconst (pc := 19) hG (dk dd_X8_goBehind 9 rfl) (v := 1) (by decide) ?_
  refine V_iast (pc := 20) hG (dk dd_X8_goBehind 10 rfl) sh_52 (by obtain ⟨f, hf1, hf⟩ := p5; rw [hf1, setc_n (by decide), e3]; exact vp_in_nI hD8 (by decide)) ?_
  refine V_iconst (pc := 21) hG (dk dd_X8_goBehind 11 rfl) (v := 0) (by decide) ?_
  refine V_istore_n (pc := 22) hG (dk dd_X8_goBehind 12 rfl) (by decide) (lv' := [(0, _), (1, _), (2, _)]) rfl ?_
  rotate_left
  -- leaves: stop 23
  · obtain ⟨f, rfl, hf⟩ := p5
    refine loop n 0 _ (by omega) (fun a a1 a2 => by rw [setc_n a1, setc_n a1]) ?_
    rw [setc_s, setc_s, setc_n (by decide), e3, nI_clamp (show α 0 3 < 2 ^ 31 by omega)]
    refine Mk.cg (Mk.upd (P := fun _ => False) (fun E hE => Or.inr ⟨hf E hE, id⟩) (α 0 3)) (fun _ _ => rfl) (fun E _ => ⟨fun q => q.elim False.elim id, Or.inr⟩)
end
section
theorem q_andG {D K : Nat} (hD : D < 2 ^ 31) (hK : K < 2 ^ 31) : nI D &&& nI K = nI (D &&& K) := by
  apply Int32.toBitVec_inj.mp
  apply BitVec.eq_of_toNat_eq
  rw [Int32.toBitVec_and, BitVec.toNat_and, pk_tn (n := D) (by omega), pk_tn (n := K) (by omega), pk_tn (Nat.lt_of_le_of_lt Nat.and_le_left (by omega))]
theorem q_and1 (x : Int32) : x &&& (-1) = x := by
  apply Int32.toBitVec_inj.mp
  rw [Int32.toBitVec_and, show (-1 : Int32).toBitVec = BitVec.allOnes 32 from rfl, BitVec.and_allOnes]
/-- all dreams with P, and-ed, or-ed -/
noncomputable def andT (P : Nat → Prop) (a : Nat) : Nat → Nat
  | 0 => a
  | n + 1 => @ite Nat (P n) (Classical.propDecidable _) (andT P a n &&& n) (andT P a n)
theorem andT_t {P : Nat → Prop} {a n : Nat} (h : P n) : andT P a (n + 1) = andT P a n &&& n := if_pos h
theorem andT_f {P : Nat → Prop} {a n : Nat} (h : ¬ P n) : andT P a (n + 1) = andT P a n := if_neg h
theorem andT_le (P : Nat → Prop) (a : Nat) : ∀ n, andT P a n ≤ a
  | 0 => Nat.le_refl _
  | n + 1 => by
    by_cases h : P n
    · rw [andT_t h]; exact Nat.le_trans Nat.and_le_left (andT_le P a n)
    · rw [andT_f h]; exact andT_le P a n
noncomputable def orP (P : Nat → Prop) : Nat → Nat
  | 0 => 0
  | n + 1 => @ite Nat (P n) (Classical.propDecidable _) (orP P n ||| n) (orP P n)
theorem orP_t {P : Nat → Prop} {n : Nat} (h : P n) : orP P (n + 1) = orP P n ||| n := if_pos h
theorem orP_f {P : Nat → Prop} {n : Nat} (h : ¬ P n) : orP P (n + 1) = orP P n := if_neg h
theorem orP_lt (P : Nat → Prop) : ∀ n, n ≤ 256 → orP P n < 256
  | 0, _ => (by decide : 0 < 256)
  | n + 1, hn => by
    have ih := orP_lt P n (by omega)
    by_cases h : P n
    · rw [orP_t h]; exact Nat.or_lt_two_pow (n := 8) ih (by omega)
    · rw [orP_f h]; exact ih
def IsG (P : Nat → Prop) (N : Nat) (r : Int32) : Prop := (∃ D, D < N ∧ P D ∧ r = nI D ∧ ∀ E, E < N → D < E → ¬ P E) ∨ ((∀ D, D < N → ¬ P D) ∧ r = -1000000)
theorem IsG.uniq {P : Nat → Prop} {N : Nat} {r r' : Int32} (h : IsG P N r) (h' : IsG P N r') : r = r' := by
  rcases h with ⟨D, a1, a2, a3, a4⟩ | ⟨a1, a2⟩ <;> rcases h' with ⟨E, b1, b2, b3, b4⟩ | ⟨b1, b2⟩
  · rw [a3, b3]
    rcases Nat.lt_trichotomy D E with q | q | q
    · exact absurd b2 (a4 E b1 q)
    · rw [q]
    · exact absurd a2 (b4 D a1 q)
  · exact absurd a2 (b1 D a1)
  · exact absurd b2 (a1 E b1)
  · rw [a2, b2]
/-- what is asked of marks: how many (0), in all (1), in any (2), the least (3), the greatest (4) -/
def DrQ (P : Nat → Prop) (t w : Nat) (r : Int32) : Prop := (w = 0 → r = nI (cntT P (2 ^ t))) ∧ (w = 1 → r = nI (andT P (2 ^ t - 1) (2 ^ t))) ∧ (w = 2 → r = nI (orP P (2 ^ t))) ∧ (w = 3 → IsL P (2 ^ t) r) ∧ (w = 4 → IsG P (2 ^ t) r)
theorem DrQ.uniq {P : Nat → Prop} {t w : Nat} {r r' : Int32} (hw : w < 5) (h : DrQ P t w r) (h' : DrQ P t w r') : r = r' := by
  obtain ⟨a0, a1, a2, a3, a4⟩ := h
  obtain ⟨b0, b1, b2, b3, b4⟩ := h'
  rcases (show w = 0 ∨ w = 1 ∨ w = 2 ∨ w = 3 ∨ w = 4 by omega) with q | q | q | q | q
  · rw [a0 q, b0 q]
  · rw [a1 q, b1 q]
  · rw [a2 q, b2 q]
  · exact (a3 q).uniq (b3 q)
  · exact (a4 q).uniq (b4 q)
theorem cntT_top {P : Nat → Prop} {N : Nat} (h : ∀ E, P E → E < N) : ∀ k, cntT P (N + k) = cntT P N
  | 0 => rfl
  | k + 1 => by
    show cntT P (N + k + 1) = _
    rw [cntT_s, p1_f (fun q => by have := h _ q; omega)]; exact cntT_top h k
theorem andT_top {P : Nat → Prop} {a N : Nat} (h : ∀ E, P E → E < N) : ∀ k, andT P a (N + k) = andT P a N
  | 0 => rfl
  | k + 1 => by
    show andT P a (N + k + 1) = _
    rw [andT_f (fun q => by have := h _ q; omega)]; exact andT_top h k
theorem orP_top {P : Nat → Prop} {N : Nat} (h : ∀ E, P E → E < N) : ∀ k, orP P (N + k) = orP P N
  | 0 => rfl
  | k + 1 => by
    show orP P (N + k + 1) = _
    rw [orP_f (fun q => by have := h _ q; omega)]; exact orP_top h k
theorem c_howManyBehind {μ : Mem} {α : Al} (hA : Abs (kac μ 15) α) (hv : Val α) {x : Int32} {n : Nat} (hx : x = nI n) (hn : n < 100) :
    CtP yX8_howManyBehind cX8_howManyBehind 4 (some .int) 5 [vR 51, vI x] μ (Pi (fun r μ' => (∀ a, a ≠ 52 → a ≠ 53 → μ' a = μ a) ∧ r = nI (cntT (Rch α (α 0 3) n) (2 ^ α 0 0)))) := by
  refine CtP.go RX8 rfl pn_X8 (Nat.le_of_ble_eq_true rfl) (fun C hG hR => ?_)
  have hp := pow8 hv.t
  have hlt : ∀ E, Rch α (α 0 3) n E → E < 2 ^ α 0 0 := fun E h => Rch_lt hv hv.D h
  have loop : ∀ μ1 : Mem, (∀ a, a ≠ 52 → a ≠ 53 → μ1 a = μ a) → Mk (μ1 52) (Rch α (α 0 3) n) → ∀ k i, i + k = 256 → V C 9 [(0, vR 51), (1, vI x), (2, vI (nI (cntT (Rch α (α 0 3) n) i))), (3, vI (nI i))] [] μ1 := by
    intro μ1 hf1 hm k
    induction k with
    | zero =>
      intro i hi
      refine V_iload_n (pc := 9) hG (dk dd_X8_howManyBehind 7 rfl) rfl ?_
      refine V_sipush (pc := 10) hG (dk dd_X8_howManyBehind 8 rfl) (v := 256) (by decide) ?_
      refine V_icmp_ge (pc := 13) hG (dk dd_X8_howManyBehind 9 rfl) (tgt := 31) (by decide) (fun h13 => ?_) (fun h13 => ?_)
      refine V_iload_n (pc := 31) hG (dk dd_X8_howManyBehind 19 rfl) rfl ?_
      refine V_iretP (pc := 32) hG (dk dd_X8_howManyBehind 20 rfl) hR (Pi.mk ?_)
      rotate_left
      rotate_left
      -- leaves: return@32; stop 16
      · refine ⟨hf1, ?_⟩
        have hi2 : i = 256 := by omega
        subst hi2
        have := cntT_top hlt (256 - 2 ^ α 0 0)
        rw [show 2 ^ α 0 0 + (256 - 2 ^ α 0 0) = 256 by omega] at this
        rw [this]
      · exfalso; have := nle_i (a := 256) h13 (by omega) (by omega); omega
    | succ k ih =>
      intro i hi
      have hI := ih (i + 1) (by omega)
      rw [nI_succ] at hI
      have hr : vp_in (nI i) 256 := vp_in_nI (by omega) (by decide)
      have ci : (nI i).toNatClampNeg = i := nI_clamp (by omega)
      refine V_iload_n (pc := 9) hG (dk dd_X8_howManyBehind 7 rfl) rfl ?_
      refine V_sipush (pc := 10) hG (dk dd_X8_howManyBehind 8 rfl) (v := 256) (by decide) ?_
      refine V_icmp_ge (pc := 13) hG (dk dd_X8_howManyBehind 9 rfl) (tgt := 31) (by decide) (fun h13 => ?_) (fun h13 => ?_)
      rotate_left
      refine V_iload_n (pc := 16) hG (dk dd_X8_howManyBehind 10 rfl) rfl ?_
      refine V_aload_n (pc := 17) hG (dk dd_X8_howManyBehind 11 rfl) rfl ?_
      refine V_getR (pc := 18) hG (dk dd_X8_howManyBehind 12 rfl) fl_X8_9 sh_51 rfl ?_
      refine V_iload_n (pc := 21) hG (dk dd_X8_howManyBehind 13 rfl) rfl ?_
      refine V_iald (pc := 22) hG (dk dd_X8_howManyBehind 14 rfl) sh_52 hr ?_
      refine V_iadd (pc := 23) hG (dk dd_X8_howManyBehind 15 rfl) ?_
      refine V_istore_n (pc := 24) hG (dk dd_X8_howManyBehind 16 rfl) (by decide) (lv' := [(0, _), (1, _), (2, _), (3, _)]) rfl ?_
      refine V_iinc (pc := 25) hG (dk dd_X8_howManyBehind 17 rfl) rfl (v := _ + 1) rfl (by decide) (lv' := [(0, _), (1, _), (2, _), (3, _)]) rfl ?_
      refine V_goto (pc := 28) hG (dk dd_X8_howManyBehind 18 rfl) (tgt := 9) (by decide) ?_
      rotate_left
      -- leaves: stop 31; stop 9
      · exfalso; have := le_i (a := 256) h13 (by omega) (by omega); omega
      · rw [ci]
        rcases hm i (by omega) with ⟨z1, z2⟩ | ⟨z1, z2⟩
        · rw [z1]
          rw [cntT_s, p1_t z2, nI_succ] at hI; exact hI
        · rw [z1]
          rw [cntT_s, p1_f z2, Nat.add_zero] at hI; rw [Int32.add_zero]; exact hI
  refine V_aload_n (pc := 0) hG (dk dd_X8_howManyBehind 0 rfl) rfl ?_
  refine V_iload_n (pc := 1) hG (dk dd_X8_howManyBehind 1 rfl) rfl ?_
  refine V_callVvp (pc := 2) hG (dk dd_X8_howManyBehind 2 rfl) ml_X8_34 mo_X8_goBehind sh_51 rfl (c_goBehind hA hv hx hn) (by decide) (by decide) rfl rfl rfl (fun m2 p2 => ?_)
  refine V_iconst (pc := 5) hG (dk dd_X8_howManyBehind 3 rfl) (v := 0) (by decide) ?_
  refine V_istore_n (pc := 6) hG (dk dd_X8_howManyBehind 4 rfl) (by decide) (lv' := [(0, _), (1, _), (2, _)]) rfl ?_
  refine V_iconst (pc := 7) hG (dk dd_X8_howManyBehind 5 rfl) (v := 0) (by decide) ?_
  refine V_istore_n (pc := 8) hG (dk dd_X8_howManyBehind 6 rfl) (by decide) (lv' := [(0, _), (1, _), (2, _), (3, _)]) rfl ?_
  rotate_left
  -- leaves: stop 9
  · exact loop _ p2.1 p2.2 256 0 (by omega)

theorem c_inAllBehind {μ : Mem} {α : Al} (hA : Abs (kac μ 15) α) (hv : Val α) {x : Int32} {n : Nat} (hx : x = nI n) (hn : n < 100) :
    CtP yX8_inAllBehind cX8_inAllBehind 4 (some .int) 5 [vR 51, vI x] μ (Pi (fun r μ' => (∀ a, a ≠ 52 → a ≠ 53 → μ' a = μ a) ∧ r = nI (andT (Rch α (α 0 3) n) (2 ^ α 0 0 - 1) (2 ^ α 0 0)))) := by
  refine CtP.go RX8 rfl pn_X8 (Nat.le_of_ble_eq_true rfl) (fun C hG hR => ?_)
  have hp := pow8 hv.t
  have hlt : ∀ E, Rch α (α 0 3) n E → E < 2 ^ α 0 0 := fun E h => Rch_lt hv hv.D h
  have loop : ∀ μ1 : Mem, (∀ a, a ≠ 52 → a ≠ 53 → μ1 a = μ a) → Mk (μ1 52) (Rch α (α 0 3) n) → ∀ k i, i + k = 256 → V C 17 [(0, vR 51), (1, vI x), (2, vI (nI (andT (Rch α (α 0 3) n) (2 ^ α 0 0 - 1) i))), (3, vI (nI i))] [] μ1 := by
    intro μ1 hf1 hm k
    induction k with
    | zero =>
      intro i hi
      refine V_iload_n (pc := 17) hG (dk dd_X8_inAllBehind 11 rfl) rfl ?_
      refine V_sipush (pc := 18) hG (dk dd_X8_inAllBehind 12 rfl) (v := 256) (by decide) ?_
      refine V_icmp_ge (pc := 21) hG (dk dd_X8_inAllBehind 13 rfl) (tgt := 47) (by decide) (fun h21 => ?_) (fun h21 => ?_)
      refine V_iload_n (pc := 47) hG (dk dd_X8_inAllBehind 27 rfl) rfl ?_
      refine V_iretP (pc := 48) hG (dk dd_X8_inAllBehind 28 rfl) hR (Pi.mk ?_)
      rotate_left
      rotate_left
      -- leaves: return@48; stop 24
      · refine ⟨hf1, ?_⟩
        have hi2 : i = 256 := by omega
        subst hi2
        have := andT_top (a := 2 ^ α 0 0 - 1) hlt (256 - 2 ^ α 0 0)
        rw [show 2 ^ α 0 0 + (256 - 2 ^ α 0 0) = 256 by omega] at this
        rw [this]
      · exfalso; have := nle_i (a := 256) h21 (by omega) (by omega); omega
    | succ k ih =>
      intro i hi
      have hI := ih (i + 1) (by omega)
      rw [nI_succ] at hI
      have hr : vp_in (nI i) 256 := vp_in_nI (by omega) (by decide)
      have ci : (nI i).toNatClampNeg = i := nI_clamp (by omega)
      refine V_iload_n (pc := 17) hG (dk dd_X8_inAllBehind 11 rfl) rfl ?_
      refine V_sipush (pc := 18) hG (dk dd_X8_inAllBehind 12 rfl) (v := 256) (by decide) ?_
      refine V_icmp_ge (pc := 21) hG (dk dd_X8_inAllBehind 13 rfl) (tgt := 47) (by decide) (fun h21 => ?_) (fun h21 => ?_)
      rotate_left
      refine V_iload_n (pc := 24) hG (dk dd_X8_inAllBehind 14 rfl) rfl ?_
      refine V_aload_n (pc := 25) hG (dk dd_X8_inAllBehind 15 rfl) rfl ?_
      refine V_getR (pc := 26) hG (dk dd_X8_inAllBehind 16 rfl) fl_X8_9 sh_51 rfl ?_
      refine V_iload_n (pc := 29) hG (dk dd_X8_inAllBehind 17 rfl) rfl ?_
      refine V_iald (pc := 30) hG (dk dd_X8_inAllBehind 18 rfl) sh_52 hr ?_
      refine V_if_eq (pc := 31) hG (dk dd_X8_inAllBehind 19 rfl) (tgt := 38) (by decide) (fun h31 => ?_) (fun h31 => ?_)
      refine V_iconst (pc := 38) hG (dk dd_X8_inAllBehind 22 rfl) (v := -1) (by decide) ?_
      refine V_iand (pc := 39) hG (dk dd_X8_inAllBehind 23 rfl) ?_
      refine V_istore_n (pc := 40) hG (dk dd_X8_inAllBehind 24 rfl) (by decide) (lv' := [(0, _), (1, _), (2, _), (3, _)]) rfl ?_
      refine V_iinc (pc := 41) hG (dk dd_X8_inAllBehind 25 rfl) rfl (v := _ + 1) rfl (by decide) (lv' := [(0, _), (1, _), (2, _), (3, _)]) rfl ?_
      refine V_goto (pc := 44) hG (dk dd_X8_inAllBehind 26 rfl) (tgt := 17) (by decide) ?_
      rotate_left
      refine V_iload_n (pc := 34) hG (dk dd_X8_inAllBehind 20 rfl) rfl ?_
      refine V_goto (pc := 35) hG (dk dd_X8_inAllBehind 21 rfl) (tgt := 39) (by decide) ?_
      refine V_iand (pc := 39) hG (dk dd_X8_inAllBehind 23 rfl) ?_
      refine V_istore_n (pc := 40) hG (dk dd_X8_inAllBehind 24 rfl) (by decide) (lv' := [(0, _), (1, _), (2, _), (3, _)]) rfl ?_
      refine V_iinc (pc := 41) hG (dk dd_X8_inAllBehind 25 rfl) rfl (v := _ + 1) rfl (by decide) (lv' := [(0, _), (1, _), (2, _), (3, _)]) rfl ?_
      refine V_goto (pc := 44) hG (dk dd_X8_inAllBehind 26 rfl) (tgt := 17) (by decide) ?_
      rotate_left
      -- leaves: stop 47; stop 17; stop 17
      · exfalso; have := le_i (a := 256) h21 (by omega) (by omega); omega
      · rw [ci] at h31
        have z2 := (hm i (by omega)).no h31
        rw [andT_f z2] at hI; rw [q_and1]; exact hI
      · rw [ci] at h31
        have z2 := (hm i (by omega)).yes h31
        rw [andT_t z2, ← q_andG (by have := andT_le (Rch α (α 0 3) n) (2 ^ α 0 0 - 1) i; omega) (by omega)] at hI; exact hI
  refine V_aload_n (pc := 0) hG (dk dd_X8_inAllBehind 0 rfl) rfl ?_
  refine V_iload_n (pc := 1) hG (dk dd_X8_inAllBehind 1 rfl) rfl ?_
  refine V_callVvp (pc := 2) hG (dk dd_X8_inAllBehind 2 rfl) ml_X8_34 mo_X8_goBehind sh_51 rfl (c_goBehind hA hv hx hn) (by decide) (by decide) rfl rfl rfl (fun m2 p2 => ?_)
  refine V_aload_n (pc := 5) hG (dk dd_X8_inAllBehind 3 rfl) rfl ?_
  refine V_getR (pc := 6) hG (dk dd_X8_inAllBehind 4 rfl) fl_X8_30 sh_51 rfl ?_
  refine V_callVi (pc := 9) hG (dk dd_X8_inAllBehind 5 rfl) ml_X8_38 mo_X2_dreamCount sh_15 rfl (c_dreamCount co_now) (by decide) (by decide) rfl rfl rfl ?_
  refine V_iconst (pc := 12) hG (dk dd_X8_inAllBehind 6 rfl) (v := 1) (by decide) ?_
  refine V_isub (pc := 13) hG (dk dd_X8_inAllBehind 7 rfl) ?_
  refine V_istore_n (pc := 14) hG (dk dd_X8_inAllBehind 8 rfl) (by decide) (lv' := [(0, _), (1, _), (2, _)]) rfl ?_
  refine V_iconst (pc := 15) hG (dk dd_X8_inAllBehind 9 rfl) (v := 0) (by decide) ?_
  refine V_istore_n (pc := 16) hG (dk dd_X8_inAllBehind 10 rfl) (by decide) (lv' := [(0, _), (1, _), (2, _), (3, _)]) rfl ?_
  rotate_left
  -- leaves: stop 17
  · have e0 : bI (m2 15 0) = nI (2 ^ α 0 0) := by rw [p2.1 15 (by decide) (by decide), show μ 15 0 = nI (α 0 0) from hA.1 0 (by decide)]; exact q_pow _ (by have := hv.t; omega)
    rw [e0, show (1 : Int32) = nI 1 from rfl, pk_sub (Nat.one_le_two_pow)]
    exact loop _ p2.1 p2.2 256 0 (by omega)

theorem c_inAnyBehind {μ : Mem} {α : Al} (hA : Abs (kac μ 15) α) (hv : Val α) {x : Int32} {n : Nat} (hx : x = nI n) (hn : n < 100) :
    CtP yX8_inAnyBehind cX8_inAnyBehind 4 (some .int) 5 [vR 51, vI x] μ (Pi (fun r μ' => (∀ a, a ≠ 52 → a ≠ 53 → μ' a = μ a) ∧ r = nI (orP (Rch α (α 0 3) n) (2 ^ α 0 0)))) := by
  refine CtP.go RX8 rfl pn_X8 (Nat.le_of_ble_eq_true rfl) (fun C hG hR => ?_)
  have hp := pow8 hv.t
  have hlt : ∀ E, Rch α (α 0 3) n E → E < 2 ^ α 0 0 := fun E h => Rch_lt hv hv.D h
  have loop : ∀ μ1 : Mem, (∀ a, a ≠ 52 → a ≠ 53 → μ1 a = μ a) → Mk (μ1 52) (Rch α (α 0 3) n) → ∀ k i, i + k = 256 → V C 9 [(0, vR 51), (1, vI x), (2, vI (nI (orP (Rch α (α 0 3) n) i))), (3, vI (nI i))] [] μ1 := by
    intro μ1 hf1 hm k
    induction k with
    | zero =>
      intro i hi
      refine V_iload_n (pc := 9) hG (dk dd_X8_inAnyBehind 7 rfl) rfl ?_
      refine V_sipush (pc := 10) hG (dk dd_X8_inAnyBehind 8 rfl) (v := 256) (by decide) ?_
      refine V_icmp_ge (pc := 13) hG (dk dd_X8_inAnyBehind 9 rfl) (tgt := 39) (by decide) (fun h13 => ?_) (fun h13 => ?_)
      refine V_iload_n (pc := 39) hG (dk dd_X8_inAnyBehind 23 rfl) rfl ?_
      refine V_iretP (pc := 40) hG (dk dd_X8_inAnyBehind 24 rfl) hR (Pi.mk ?_)
      rotate_left
      rotate_left
      -- leaves: return@40; stop 16
      · refine ⟨hf1, ?_⟩
        have hi2 : i = 256 := by omega
        subst hi2
        have := orP_top hlt (256 - 2 ^ α 0 0)
        rw [show 2 ^ α 0 0 + (256 - 2 ^ α 0 0) = 256 by omega] at this
        rw [this]
      · exfalso; have := nle_i (a := 256) h13 (by omega) (by omega); omega
    | succ k ih =>
      intro i hi
      have hI := ih (i + 1) (by omega)
      rw [nI_succ] at hI
      have hr : vp_in (nI i) 256 := vp_in_nI (by omega) (by decide)
      have ci : (nI i).toNatClampNeg = i := nI_clamp (by omega)
      refine V_iload_n (pc := 9) hG (dk dd_X8_inAnyBehind 7 rfl) rfl ?_
      refine V_sipush (pc := 10) hG (dk dd_X8_inAnyBehind 8 rfl) (v := 256) (by decide) ?_
      refine V_icmp_ge (pc := 13) hG (dk dd_X8_inAnyBehind 9 rfl) (tgt := 39) (by decide) (fun h13 => ?_) (fun h13 => ?_)
      rotate_left
      refine V_iload_n (pc := 16) hG (dk dd_X8_inAnyBehind 10 rfl) rfl ?_
      refine V_aload_n (pc := 17) hG (dk dd_X8_inAnyBehind 11 rfl) rfl ?_
      refine V_getR (pc := 18) hG (dk dd_X8_inAnyBehind 12 rfl) fl_X8_9 sh_51 rfl ?_
      refine V_iload_n (pc := 21) hG (dk dd_X8_inAnyBehind 13 rfl) rfl ?_
      refine V_iald (pc := 22) hG (dk dd_X8_inAnyBehind 14 rfl) sh_52 hr ?_
      refine V_if_eq (pc := 23) hG (dk dd_X8_inAnyBehind 15 rfl) (tgt := 30) (by decide) (fun h23 => ?_) (fun h23 => ?_)
      refine V_iconst (pc := 30) hG (dk dd_X8_inAnyBehind 18 rfl) (v := 0) (by decide) ?_
      refine V_ior (pc := 31) hG (dk dd_X8_inAnyBehind 19 rfl) ?_
      refine V_istore_n (pc := 32) hG (dk dd_X8_inAnyBehind 20 rfl) (by decide) (lv' := [(0, _), (1, _), (2, _), (3, _)]) rfl ?_
      refine V_iinc (pc := 33) hG (dk dd_X8_inAnyBehind 21 rfl) rfl (v := _ + 1) rfl (by decide) (lv' := [(0, _), (1, _), (2, _), (3, _)]) rfl ?_
      refine V_goto (pc := 36) hG (dk dd_X8_inAnyBehind 22 rfl) (tgt := 9) (by decide) ?_
      rotate_left
      refine V_iload_n (pc := 26) hG (dk dd_X8_inAnyBehind 16 rfl) rfl ?_
      refine V_goto (pc := 27) hG (dk dd_X8_inAnyBehind 17 rfl) (tgt := 31) (by decide) ?_
      refine V_ior (pc := 31) hG (dk dd_X8_inAnyBehind 19 rfl) ?_
      refine V_istore_n (pc := 32) hG (dk dd_X8_inAnyBehind 20 rfl) (by decide) (lv' := [(0, _), (1, _), (2, _), (3, _)]) rfl ?_
      refine V_iinc (pc := 33) hG (dk dd_X8_inAnyBehind 21 rfl) rfl (v := _ + 1) rfl (by decide) (lv' := [(0, _), (1, _), (2, _), (3, _)]) rfl ?_
      refine V_goto (pc := 36) hG (dk dd_X8_inAnyBehind 22 rfl) (tgt := 9) (by decide) ?_
      rotate_left
      -- leaves: stop 39; stop 9; stop 9
      · exfalso; have := le_i (a := 256) h13 (by omega) (by omega); omega
      · rw [ci] at h23
        have z2 := (hm i (by omega)).no h23
        rw [orP_f z2] at hI; rw [Int32.or_zero]; exact hI
      · rw [ci] at h23
        have z2 := (hm i (by omega)).yes h23
        rw [orP_t z2, ← q_orG (by have := orP_lt (Rch α (α 0 3) n) i (by omega); omega) (by omega)] at hI; exact hI
  refine V_aload_n (pc := 0) hG (dk dd_X8_inAnyBehind 0 rfl) rfl ?_
  refine V_iload_n (pc := 1) hG (dk dd_X8_inAnyBehind 1 rfl) rfl ?_
  refine V_callVvp (pc := 2) hG (dk dd_X8_inAnyBehind 2 rfl) ml_X8_34 mo_X8_goBehind sh_51 rfl (c_goBehind hA hv hx hn) (by decide) (by decide) rfl rfl rfl (fun m2 p2 => ?_)
  refine V_iconst (pc := 5) hG (dk dd_X8_inAnyBehind 3 rfl) (v := 0) (by decide) ?_
  refine V_istore_n (pc := 6) hG (dk dd_X8_inAnyBehind 4 rfl) (by decide) (lv' := [(0, _), (1, _), (2, _)]) rfl ?_
  refine V_iconst (pc := 7) hG (dk dd_X8_inAnyBehind 5 rfl) (v := 0) (by decide) ?_
  refine V_istore_n (pc := 8) hG (dk dd_X8_inAnyBehind 6 rfl) (by decide) (lv' := [(0, _), (1, _), (2, _), (3, _)]) rfl ?_
  rotate_left
  -- leaves: stop 9
  · exact loop _ p2.1 p2.2 256 0 (by omega)

theorem c_leastBehind {μ : Mem} {α : Al} (hA : Abs (kac μ 15) α) (hv : Val α) {x : Int32} {n : Nat} (hx : x = nI n) (hn : n < 100) :
    CtP yX8_leastBehind cX8_leastBehind 3 (some .int) 5 [vR 51, vI x] μ (Pi (fun r μ' => (∀ a, a ≠ 52 → a ≠ 53 → μ' a = μ a) ∧ IsL (Rch α (α 0 3) n) (2 ^ α 0 0) r)) := by
  refine CtP.go RX8 rfl pn_X8 (Nat.le_of_ble_eq_true rfl) (fun C hG hR => ?_)
  have hp := pow8 hv.t
  have hlt : ∀ E, Rch α (α 0 3) n E → E < 2 ^ α 0 0 := fun E h => Rch_lt hv hv.D h
  have loop : ∀ μ1 : Mem, (∀ a, a ≠ 52 → a ≠ 53 → μ1 a = μ a) → Mk (μ1 52) (Rch α (α 0 3) n) → ∀ k i, i + k = 256 → (∀ E, E < i → ¬ Rch α (α 0 3) n E) → V C 7 [(0, vR 51), (1, vI x), (2, vI (nI i))] [] μ1 := by
    intro μ1 hf1 hm k
    induction k with
    | zero =>
      intro i hi hE
      refine V_iload_n (pc := 7) hG (dk dd_X8_leastBehind 5 rfl) rfl ?_
      refine V_sipush (pc := 8) hG (dk dd_X8_leastBehind 6 rfl) (v := 256) (by decide) ?_
      refine V_icmp_ge (pc := 11) hG (dk dd_X8_leastBehind 7 rfl) (tgt := 31) (by decide) (fun h11 => ?_) (fun h11 => ?_)
      refine V_ldc (pc := 31) hG (dk dd_X8_leastBehind 17 rfl) kk_X8_44 ?_
      refine V_iretP (pc := 33) hG (dk dd_X8_leastBehind 18 rfl) hR (Pi.mk ?_)
      rotate_left
      rotate_left
      -- leaves: return@33; stop 14
      · exact ⟨hf1, Or.inr ⟨fun D hD => hE D (by omega), rfl⟩⟩
      · exfalso; have := nle_i (a := 256) h11 (by omega) (by omega); omega
    | succ k ih =>
      intro i hi hE
      have hI := fun z => ih (i + 1) (by omega) z
      rw [nI_succ] at hI
      have hr : vp_in (nI i) 256 := vp_in_nI (by omega) (by decide)
      have ci : (nI i).toNatClampNeg = i := nI_clamp (by omega)
      refine V_iload_n (pc := 7) hG (dk dd_X8_leastBehind 5 rfl) rfl ?_
      refine V_sipush (pc := 8) hG (dk dd_X8_leastBehind 6 rfl) (v := 256) (by decide) ?_
      refine V_icmp_ge (pc := 11) hG (dk dd_X8_leastBehind 7 rfl) (tgt := 31) (by decide) (fun h11 => ?_) (fun h11 => ?_)
      rotate_left
      refine V_aload_n (pc := 14) hG (dk dd_X8_leastBehind 8 rfl) rfl ?_
      refine V_getR (pc := 15) hG (dk dd_X8_leastBehind 9 rfl) fl_X8_9 sh_51 rfl ?_
      refine V_iload_n (pc := 18) hG (dk dd_X8_leastBehind 10 rfl) rfl ?_
      refine V_iald (pc := 19) hG (dk dd_X8_leastBehind 11 rfl) sh_52 hr ?_
      refine V_if_eq (pc := 20) hG (dk dd_X8_leastBehind 12 rfl) (tgt := 25) (by decide) (fun h20 => ?_) (fun h20 => ?_)
      refine V_iinc (pc := 25) hG (dk dd_X8_leastBehind 15 rfl) rfl (v := _ + 1) rfl (by decide) (lv' := [(0, _), (1, _), (2, _)]) rfl ?_
      refine V_goto (pc := 28) hG (dk dd_X8_leastBehind 16 rfl) (tgt := 7) (by decide) ?_
      rotate_left
      refine V_iload_n (pc := 23) hG (dk dd_X8_leastBehind 13 rfl) rfl ?_
      refine V_iretP (pc := 24) hG (dk dd_X8_leastBehind 14 rfl) hR (Pi.mk ?_)
      rotate_left
      -- leaves: stop 31; stop 7; return@24
      · exfalso; have := le_i (a := 256) h11 (by omega) (by omega); omega
      · rw [ci] at h20
        refine hI (fun E hE' => ?_)
        rcases Nat.lt_succ_iff_lt_or_eq.mp hE' with z | z
        · exact hE E z
        · rw [z]; exact (hm i (by omega)).no h20
      · rw [ci] at h20
        have z2 := (hm i (by omega)).yes h20
        exact ⟨hf1, Or.inl ⟨i, hlt i z2, z2, rfl, hE⟩⟩
  refine V_aload_n (pc := 0) hG (dk dd_X8_leastBehind 0 rfl) rfl ?_
  refine V_iload_n (pc := 1) hG (dk dd_X8_leastBehind 1 rfl) rfl ?_
  refine V_callVvp (pc := 2) hG (dk dd_X8_leastBehind 2 rfl) ml_X8_34 mo_X8_goBehind sh_51 rfl (c_goBehind hA hv hx hn) (by decide) (by decide) rfl rfl rfl (fun m2 p2 => ?_)
  refine V_iconst (pc := 5) hG (dk dd_X8_leastBehind 3 rfl) (v := 0) (by decide) ?_
  refine V_istore_n (pc := 6) hG (dk dd_X8_leastBehind 4 rfl) (by decide) (lv' := [(0, _), (1, _), (2, _)]) rfl ?_
  rotate_left
  -- leaves: stop 7
  · exact loop _ p2.1 p2.2 256 0 (by omega) (fun E hE => absurd hE (Nat.not_lt_zero E))
theorem c_greatestBehind {μ : Mem} {α : Al} (hA : Abs (kac μ 15) α) (hv : Val α) {x : Int32} {n : Nat} (hx : x = nI n) (hn : n < 100) :
    CtP yX8_greatestBehind cX8_greatestBehind 3 (some .int) 5 [vR 51, vI x] μ (Pi (fun r μ' => (∀ a, a ≠ 52 → a ≠ 53 → μ' a = μ a) ∧ IsG (Rch α (α 0 3) n) (2 ^ α 0 0) r)) := by
  refine CtP.go RX8 rfl pn_X8 (Nat.le_of_ble_eq_true rfl) (fun C hG hR => ?_)
  have hp := pow8 hv.t
  have hlt : ∀ E, Rch α (α 0 3) n E → E < 2 ^ α 0 0 := fun E h => Rch_lt hv hv.D h
  have loop : ∀ μ1 : Mem, (∀ a, a ≠ 52 → a ≠ 53 → μ1 a = μ a) → Mk (μ1 52) (Rch α (α 0 3) n) → ∀ i, i ≤ 256 → (∀ E, i ≤ E → E < 256 → ¬ Rch α (α 0 3) n E) → V C 9 [(0, vR 51), (1, vI x), (2, vI (nI i + (-1)))] [] μ1 := by
    intro μ1 hf1 hm i
    induction i with
    | zero =>
      intro hi hE
      refine V_iload_n (pc := 9) hG (dk dd_X8_greatestBehind 5 rfl) rfl ?_
      refine V_if_lt (pc := 10) hG (dk dd_X8_greatestBehind 6 rfl) (tgt := 30) (by decide) (fun h10 => ?_) (fun h10 => ?_)
      refine V_ldc (pc := 30) hG (dk dd_X8_greatestBehind 16 rfl) kk_X8_44 ?_
      refine V_iretP (pc := 32) hG (dk dd_X8_greatestBehind 17 rfl) hR (Pi.mk ?_)
      rotate_left
      rotate_left
      -- leaves: return@32; stop 13
      · exact ⟨hf1, Or.inr ⟨fun D hD => hE D (Nat.zero_le D) (by omega), rfl⟩⟩
      · exact absurd (by decide) h10
    | succ i ih =>
      intro hi hE
      have hI := fun z => ih (by omega) z
      have hr : vp_in (nI i) 256 := vp_in_nI (by omega) (by decide)
      have ci : (nI i).toNatClampNeg = i := nI_clamp (by omega)
      rw [pk_m1]
      refine V_iload_n (pc := 9) hG (dk dd_X8_greatestBehind 5 rfl) rfl ?_
      refine V_if_lt (pc := 10) hG (dk dd_X8_greatestBehind 6 rfl) (tgt := 30) (by decide) (fun h10 => ?_) (fun h10 => ?_)
      rotate_left
      refine V_aload_n (pc := 13) hG (dk dd_X8_greatestBehind 7 rfl) rfl ?_
      refine V_getR (pc := 14) hG (dk dd_X8_greatestBehind 8 rfl) fl_X8_9 sh_51 rfl ?_
      refine V_iload_n (pc := 17) hG (dk dd_X8_greatestBehind 9 rfl) rfl ?_
      refine V_iald (pc := 18) hG (dk dd_X8_greatestBehind 10 rfl) sh_52 hr ?_
      refine V_if_eq (pc := 19) hG (dk dd_X8_greatestBehind 11 rfl) (tgt := 24) (by decide) (fun h19 => ?_) (fun h19 => ?_)
      refine V_iinc (pc := 24) hG (dk dd_X8_greatestBehind 14 rfl) rfl (v := _ + (-1)) rfl (by decide) (lv' := [(0, _), (1, _), (2, _)]) rfl ?_
      refine V_goto (pc := 27) hG (dk dd_X8_greatestBehind 15 rfl) (tgt := 9) (by decide) ?_
      rotate_left
      refine V_iload_n (pc := 22) hG (dk dd_X8_greatestBehind 12 rfl) rfl ?_
      refine V_iretP (pc := 23) hG (dk dd_X8_greatestBehind 13 rfl) hR (Pi.mk ?_)
      rotate_left
      -- leaves: stop 30; stop 9; return@23
      · exact absurd h10 (nI_pos (by omega))
      · rw [ci] at h19
        refine hI (fun E h1 h2 => ?_)
        by_cases e : E = i
        · rw [e]; exact (hm i (by omega)).no h19
        · exact hE E (by omega) h2
      · rw [ci] at h19
        have z2 := (hm i (by omega)).yes h19
        exact ⟨hf1, Or.inl ⟨i, hlt i z2, z2, rfl, fun E h1 h2 => hE E (by omega) (by omega)⟩⟩
  refine V_aload_n (pc := 0) hG (dk dd_X8_greatestBehind 0 rfl) rfl ?_
  refine V_iload_n (pc := 1) hG (dk dd_X8_greatestBehind 1 rfl) rfl ?_
  refine V_callVvp (pc := 2) hG (dk dd_X8_greatestBehind 2 rfl) ml_X8_34 mo_X8_goBehind sh_51 rfl (c_goBehind hA hv hx hn) (by decide) (by decide) rfl rfl rfl (fun m2 p2 => ?_)
  refine V_sipush (pc := 5) hG (dk dd_X8_greatestBehind 3 rfl) (v := 255) (by decide) ?_
  refine V_istore_n (pc := 8) hG (dk dd_X8_greatestBehind 4 rfl) (by decide) (lv' := [(0, _), (1, _), (2, _)]) rfl ?_
  rotate_left
  -- leaves: stop 9
  · exact loop _ p2.1 p2.2 256 (by omega) (fun E h1 h2 => by omega)
end
section
/-! ===== rows of hums, by how long and by numbers ===== -/
def lx : List Nat → List Nat → Prop
  | [], _ => False
  | _ :: _, [] => False
  | a :: x, b :: y => a < b ∨ (a = b ∧ lx x y)
def sl (x y : List Nat) : Prop := x.length < y.length ∨ (x.length = y.length ∧ lx x y)
theorem lx_irr : ∀ x, ¬ lx x x
  | [] => id
  | a :: x => fun h => h.elim (Nat.lt_irrefl a) (fun q => lx_irr x q.2)
theorem lx_tr : ∀ {x y z : List Nat}, lx x y → lx y z → lx x z
  | [], _, _, h, _ => h.elim
  | _ :: _, [], _, h, _ => h.elim
  | _ :: _, _ :: _, [], _, h => h.elim
  | a :: x, b :: y, c :: z, h, k => by
    rcases h with h | ⟨h, h'⟩ <;> rcases k with k | ⟨k, k'⟩
    · exact Or.inl (by omega)
    · exact Or.inl (by omega)
    · exact Or.inl (by omega)
    · exact Or.inr ⟨by omega, lx_tr h' k'⟩
theorem lx_sn1 : ∀ {x y : List Nat} {a b : Nat}, lx x y → lx (x ++ [a]) (y ++ [b])
  | [], _, _, _, h => h.elim
  | _ :: _, [], _, _, h => h.elim
  | c :: x, d :: y, a, b, h => h.elim Or.inl (fun q => Or.inr ⟨q.1, lx_sn1 q.2⟩)
theorem lx_sn2 : ∀ (x : List Nat) {a b : Nat}, a < b → lx (x ++ [a]) (x ++ [b])
  | [], _, _, h => Or.inl h
  | _ :: x, _, _, h => Or.inr ⟨rfl, lx_sn2 x h⟩
theorem lx_tot : ∀ {x y : List Nat}, x.length = y.length → x = y ∨ lx x y ∨ lx y x
  | [], [], _ => Or.inl rfl
  | [], _ :: _, h => by simp at h
  | _ :: _, [], h => by simp at h
  | a :: x, b :: y, h => by
    have h2 : x.length = y.length := by simpa using h
    rcases Nat.lt_trichotomy a b with q | q | q
    · exact Or.inr (Or.inl (Or.inl q))
    · subst q
      rcases lx_tot (x := x) (y := y) h2 with z | z | z
      · exact Or.inl (by rw [z])
      · exact Or.inr (Or.inl (Or.inr ⟨rfl, z⟩))
      · exact Or.inr (Or.inr (Or.inr ⟨rfl, z⟩))
    · exact Or.inr (Or.inr (Or.inl q))
theorem sl_irr (x : List Nat) : ¬ sl x x := fun h => h.elim (Nat.lt_irrefl _) (fun q => lx_irr x q.2)
theorem sl_tr {x y z : List Nat} (h : sl x y) (k : sl y z) : sl x z := by
  rcases h with h | ⟨h, h'⟩ <;> rcases k with k | ⟨k, k'⟩
  · exact Or.inl (by omega)
  · exact Or.inl (by omega)
  · exact Or.inl (by omega)
  · exact Or.inr ⟨by omega, lx_tr h' k'⟩
theorem sl_sn1 {x y : List Nat} {a b : Nat} (h : sl x y) : sl (x ++ [a]) (y ++ [b]) := by
  rcases h with h | ⟨h, h'⟩
  · exact Or.inl (by simp; exact h)
  · exact Or.inr ⟨by simp [h], lx_sn1 h'⟩
theorem sl_sn2 (x : List Nat) {a b : Nat} (h : a < b) : sl (x ++ [a]) (x ++ [b]) := Or.inr ⟨by simp, lx_sn2 x h⟩
theorem sl_nil {x : List Nat} {a : Nat} : sl [] (x ++ [a]) := Or.inl (by simp)
/-- at most -/
def le_sl (x y : List Nat) : Prop := x = y ∨ sl x y
theorem le_sl_tr {x y z : List Nat} (h : le_sl x y) (k : le_sl y z) : le_sl x z := by
  rcases h with rfl | h
  · exact k
  · rcases k with rfl | k
    · exact Or.inr h
    · exact Or.inr (sl_tr h k)
theorem le_sl_as {x y : List Nat} (h : le_sl x y) (k : le_sl y x) : x = y := by
  rcases h with h | h
  · exact h
  · rcases k with k | k
    · exact k.symm
    · exact absurd (sl_tr h k) (sl_irr x)
theorem le_sl_sn {x y : List Nat} {a : Nat} (h : le_sl x y) : le_sl (x ++ [a]) (y ++ [a]) := by
  rcases h with rfl | h
  · exact Or.inl rfl
  · exact Or.inr (sl_sn1 h)
theorem le_sl_len {x y : List Nat} (h : le_sl x y) : x.length ≤ y.length := by
  rcases h with rfl | h | h
  · exact Nat.le_refl _
  · omega
  · omega
def endN (α : Al) (D : Nat) (w : List Nat) : Nat := w.foldl (fun d h => humN α h d) D
theorem endN_sn (α : Al) (D : Nat) (w : List Nat) (h : Nat) : endN α D (w ++ [h]) = humN α h (endN α D w) := by unfold endN; rw [List.foldl_append]; rfl
def Hs (α : Al) (w : List Nat) : Prop := ∀ h ∈ w, h < α 0 6
theorem Hs.sn {α : Al} {w : List Nat} {h : Nat} (hw : Hs α (w ++ [h])) : Hs α w ∧ h < α 0 6 := ⟨fun q hq => hw q (List.mem_append_left _ hq), hw h (by simp)⟩
theorem Hs.mk {α : Al} {w : List Nat} {h : Nat} (hw : Hs α w) (hh : h < α 0 6) : Hs α (w ++ [h]) := fun q hq => (List.mem_append.mp hq).elim (hw q) (fun z => by rw [List.mem_singleton.mp z]; exact hh)
theorem endN_lt {α : Al} (hv : Val α) : ∀ {w : List Nat} {D : Nat}, D < 2 ^ α 0 0 → Hs α w → endN α D w < 2 ^ α 0 0
  | [], _, hD, _ => hD
  | h :: w, D, hD, hw => endN_lt hv (w := w) (humN_lt hv (hw h List.mem_cons_self) hD) (fun q hq => hw q (List.mem_cons_of_mem _ hq))
/-- the first shortest row to a dream with T -/
def Best (α : Al) (D n : Nat) (T : Nat → Prop) (w : List Nat) : Prop := Hs α w ∧ w.length ≤ n ∧ T (endN α D w) ∧ ∀ w', Hs α w' → w'.length ≤ n → T (endN α D w') → le_sl w w'
theorem Best.uniq {α : Al} {D n : Nat} {T : Nat → Prop} {w w' : List Nat} (h : Best α D n T w) (h' : Best α D n T w') : w = w' :=
  le_sl_as (h.2.2.2 w' h'.1 h'.2.1 h'.2.2.1) (h'.2.2.2 w h.1 h.2.1 h.2.2.1)
/-- how many hums (-1), the k-th one; NONE -/
def WR (α : Al) (D n : Nat) (T : Nat → Prop) (k r : Int32) : Prop :=
  (∃ w, Best α D n T w ∧ ((k = -1 ∧ r = nI w.length) ∨ (∃ j, k = nI j ∧ j < w.length ∧ r = nI (w.getD j 0)) ∨ (¬ k = -1 ∧ nI w.length ≤ k ∧ r = -1000000))) ∨ ((∀ w, Hs α w → w.length ≤ n → ¬ T (endN α D w)) ∧ r = -1000000)
theorem WR.uniq {α : Al} {D n : Nat} {T : Nat → Prop} {k r r' : Int32} (hn : n ≤ 12) (h : WR α D n T k r) (h' : WR α D n T k r') : r = r' := by
  rcases h with ⟨w, hb, h⟩ | ⟨h, e⟩ <;> rcases h' with ⟨w', hb', h'⟩ | ⟨h', e'⟩
  · have := hb.uniq hb'
    subst this
    have hl := hb.2.1
    rcases h with ⟨h1, h2⟩ | ⟨j, h1, h2, h3⟩ | ⟨h1, h2, h3⟩ <;> rcases h' with ⟨g1, g2⟩ | ⟨j', g1, g2, g3⟩ | ⟨g1, g2, g3⟩
    · rw [h2, g2]
    · exact absurd (show nI j' < 0 by rw [← g1, h1]; decide) (nI_pos (by omega))
    · exact absurd h1 g1
    · exact absurd (show nI j < 0 by rw [← h1, g1]; decide) (nI_pos (by omega))
    · have : j = j' := (nI_eq (by omega) (by omega)).mp (h1.symm.trans g1)
      rw [h3, g3, this]
    · rw [h1] at g2; have := le_i g2 (by omega) (by omega); omega
    · exact absurd g1 h1
    · rw [g1] at h2; have := le_i h2 (by omega) (by omega); omega
    · rw [h3, g3]
  · exact absurd hb.2.2.1 (h' w hb.1 hb.2.1)
  · exact absurd hb'.2.2.1 (h w' hb'.1 hb'.2.1)
  · rw [e, e']
end
section
/-! ===== Walks: dreams within n hums ===== -/
/-- the dreams met so far: N of them, each with its row -/
def Met0 (α : Al) (D : Nat) (N : Nat) (ρ : Nat → List Nat) : Nat → Prop := fun E => ∃ i, i < N ∧ endN α D (ρ i) = E
def BF (μ : Mem) (α : Al) (N : Nat) (ρ : Nat → List Nat) (fr : Nat → Nat) : Prop :=
  μ 51 7 = nI N ∧ (∀ i, i < N → Hs α (ρ i) ∧ μ 54 i = nI (endN α (α 0 3) (ρ i)) ∧ μ 57 i = nI (ρ i).length) ∧
  (∀ i, 0 < i → i < N → fr i < i ∧ μ 55 i = nI (fr i) ∧ ∃ h, h < α 0 6 ∧ μ 56 i = nI h ∧ ρ i = ρ (fr i) ++ [h]) ∧ ρ 0 = [] ∧ 1 ≤ N ∧
  (∀ i j, i < j → j < N → sl (ρ i) (ρ j)) ∧ Mk (μ 52) (Met0 α (α 0 3) N ρ) ∧ cntT (Met0 α (α 0 3) N ρ) 256 = N
theorem cntT_cg {P Q : Nat → Prop} : ∀ {n : Nat}, (∀ E, E < n → (P E ↔ Q E)) → cntT P n = cntT Q n
  | 0, _ => rfl
  | n + 1, h => by
    rw [cntT_s, cntT_s, cntT_cg (fun E hE => h E (by omega))]
    by_cases q : P n
    · rw [p1_t q, p1_t ((h n (by omega)).mp q)]
    · rw [p1_f q, p1_f (fun z => q ((h n (by omega)).mpr z))]
theorem cntT_add {P : Nat → Prop} {k : Nat} (hk : ¬ P k) : ∀ {n : Nat}, cntT (fun E => P E ∨ E = k) n = cntT P n + (if k < n then 1 else 0)
  | 0 => rfl
  | n + 1 => by
    rw [cntT_s, cntT_s, cntT_add hk]
    by_cases e : n = k
    · subst e
      rw [p1_t (Or.inr rfl), p1_f hk, if_neg (by omega), if_pos (by omega)]
    · have : p1 (P n ∨ n = k) = p1 (P n) := by
        by_cases q : P n
        · rw [p1_t q, p1_t (Or.inl q)]
        · rw [p1_f q, p1_f (fun z => z.elim q e)]
      rw [this]
      by_cases l : k < n
      · rw [if_pos l, if_pos (by omega)]; omega
      · rw [if_neg l, if_neg (by omega)]; omega
theorem cntT_lt {P : Nat → Prop} {k n : Nat} (hk : ¬ P k) (h : k < n) : cntT P n < n := by
  have h1 := cntT_add hk (n := n)
  have h2 := cntT_le (fun E => P E ∨ E = k) n
  rw [if_pos h] at h1
  omega
/-- a dream is met: as it was, or new -/
def MeetQ (μ : Mem) (E N : Nat) (x y z w : Int32) (μ' : Mem) : Prop := (¬ μ 52 E = 0 ∧ μ' = μ) ∨ (μ 52 E = 0 ∧ μ' = setc (setc (setc (setc (setc (setc μ 52 (upd (μ 52) E 1)) 54 (upd (μ 54) N x)) 55 (upd (μ 55) N y)) 56 (upd (μ 56) N z)) 57 (upd (μ 57) N w)) 51 (upd (μ 51) 7 (nI (N + 1))))
theorem c_meet {μ : Mem} {x y z w : Int32} {E N : Nat} (hx : x = nI E) (hE : E < 256) (hN : μ 51 7 = nI N) (hl : μ 52 E = 0 → N < 256) : CtP yX8_meet cX8_meet 5 none 0 [vR 51, vI x, vI y, vI z, vI w] μ (Pv (fun μ' => MeetQ μ E N x y z w μ')) := by
  refine CtP.go RX8 rfl pn_X8 (Nat.le_of_ble_eq_true rfl) (fun C hG hR => ?_)
  have hr : vp_in x 256 := in_nI hx hE (by decide)
  have hc : x.toNatClampNeg = E := nI_cl hx (by omega)
  refine V_aload_n (pc := 0) hG (dk dd_X8_meet 0 rfl) rfl ?_
  refine V_getR (pc := 1) hG (dk dd_X8_meet 1 rfl) fl_X8_9 sh_51 rfl ?_
  refine V_iload_n (pc := 4) hG (dk dd_X8_meet 2 rfl) rfl ?_
  refine V_iald (pc := 5) hG (dk dd_X8_meet 3 rfl) sh_52 hr ?_
  refine V_if_ne (pc := 6) hG (dk dd_X8_meet 4 rfl) (tgt := 77) (by decide) (fun h6 => ?_) (fun h6 => ?_)
  refine V_vretP (pc := 77) hG (dk dd_X8_meet 44 rfl) hR (Pv.mk ?_)
  rotate_left
  refine V_aload_n (pc := 9) hG (dk dd_X8_meet 5 rfl) rfl ?_
  refine V_getI (pc := 10) hG (dk dd_X8_meet 6 rfl) fl_X8_71 sh_51 rfl ?_
  refine V_sipush (pc := 13) hG (dk dd_X8_meet 7 rfl) (v := 256) (by decide) ?_
  refine V_icmp_ge (pc := 16) hG (dk dd_X8_meet 8 rfl) (tgt := 77) (by decide) (fun h16 => ?_) (fun h16 => ?_)
  refine V_vretP (pc := 77) hG (dk dd_X8_meet 44 rfl) hR (Pv.mk ?_)
  rotate_left
  refine V_aload_n (pc := 19) hG (dk dd_X8_meet 9 rfl) rfl ?_
  refine V_getR (pc := 20) hG (dk dd_X8_meet 10 rfl) fl_X8_9 sh_51 rfl ?_
  refine V_iload_n (pc := 23) hG (dk dd_X8_meet 11 rfl) rfl ?_
  refine V_iconst (pc := 24) hG (dk dd_X8_meet 12 rfl) (v := 1) (by decide) ?_
  refine V_iast (pc := 25) hG (dk dd_X8_meet 13 rfl) sh_52 hr ?_
  refine V_aload_n (pc := 26) hG (dk dd_X8_meet 14 rfl) rfl ?_
  refine V_getR (pc := 27) hG (dk dd_X8_meet 15 rfl) fl_X8_18 sh_51 rfl ?_
  refine V_aload_n (pc := 30) hG (dk dd_X8_meet 16 rfl) rfl ?_
  refine V_getI (pc := 31) hG (dk dd_X8_meet 17 rfl) fl_X8_71 sh_51 rfl ?_
  refine V_iload_n (pc := 34) hG (dk dd_X8_meet 18 rfl) rfl ?_
  refine V_iast (pc := 35) hG (dk dd_X8_meet 19 rfl) sh_54 (by rw [hc] at h6; simp (disch := omega) only [setc_s, setc_n]; rw [hN]; exact vp_in_nI (hl h6) (by decide)) ?_
  refine V_aload_n (pc := 36) hG (dk dd_X8_meet 20 rfl) rfl ?_
  refine V_getR (pc := 37) hG (dk dd_X8_meet 21 rfl) fl_X8_21 sh_51 rfl ?_
  refine V_aload_n (pc := 40) hG (dk dd_X8_meet 22 rfl) rfl ?_
  refine V_getI (pc := 41) hG (dk dd_X8_meet 23 rfl) fl_X8_71 sh_51 rfl ?_
  refine V_iload_n (pc := 44) hG (dk dd_X8_meet 24 rfl) rfl ?_
  refine V_iast (pc := 45) hG (dk dd_X8_meet 25 rfl) sh_55 (by rw [hc] at h6; simp (disch := omega) only [setc_s, setc_n]; rw [hN]; exact vp_in_nI (hl h6) (by decide)) ?_
  refine V_aload_n (pc := 46) hG (dk dd_X8_meet 26 rfl) rfl ?_
  refine V_getR (pc := 47) hG (dk dd_X8_meet 27 rfl) fl_X8_24 sh_51 rfl ?_
  refine V_aload_n (pc := 50) hG (dk dd_X8_meet 28 rfl) rfl ?_
  refine V_getI (pc := 51) hG (dk dd_X8_meet 29 rfl) fl_X8_71 sh_51 rfl ?_
  refine V_iload_n (pc := 54) hG (dk dd_X8_meet 30 rfl) rfl ?_
  refine V_iast (pc := 55) hG (dk dd_X8_meet 31 rfl) sh_56 (by rw [hc] at h6; simp (disch := omega) only [setc_s, setc_n]; rw [hN]; exact vp_in_nI (hl h6) (by decide)) ?_
  refine V_aload_n (pc := 56) hG (dk dd_X8_meet 32 rfl) rfl ?_
  refine V_getR (pc := 57) hG (dk dd_X8_meet 33 rfl) fl_X8_27 sh_51 rfl ?_
  refine V_aload_n (pc := 60) hG (dk dd_X8_meet 34 rfl) rfl ?_
  refine V_getI (pc := 61) hG (dk dd_X8_meet 35 rfl) fl_X8_71 sh_51 rfl ?_
  refine V_iload (pc := 64) hG (dk dd_X8_meet 36 rfl) rfl ?_
  refine V_iast (pc := 66) hG (dk dd_X8_meet 37 rfl) sh_57 (by rw [hc] at h6; simp (disch := omega) only [setc_s, setc_n]; rw [hN]; exact vp_in_nI (hl h6) (by decide)) ?_
  refine V_aload_n (pc := 67) hG (dk dd_X8_meet 38 rfl) rfl ?_
  refine V_dup (pc := 68) hG (dk dd_X8_meet 39 rfl) rfl ?_
  refine V_getI (pc := 69) hG (dk dd_X8_meet 40 rfl) fl_X8_71 sh_51 rfl ?_
  refine V_iconst (pc := 72) hG (dk dd_X8_meet 41 rfl) (v := 1) (by decide) ?_
  refine V_iadd (pc := 73) hG (dk dd_X8_meet 42 rfl) ?_
  refine V_putI (pc := 74) hG (dk dd_X8_meet 43 rfl) fl_X8_71 sh_51 rfl rfl ?_
  refine V_vretP (pc := 77) hG (dk dd_X8_meet 44 rfl) hR (Pv.mk ?_)
  rotate_left
  -- leaves: return@77; return@77; return@77
  · rw [hc] at h6; exact Or.inl ⟨h6, rfl⟩
  · exfalso; rw [hc] at h6; rw [hN] at h16; have := le_i (a := 256) h16 (by omega) (by have := hl h6; omega); have := hl h6; omega
  · rw [hc] at h6; have hl := hl h6; refine Or.inr ⟨h6, ?_⟩; simp (disch := omega) only [setc_s, setc_n, hc, hN, nI_clamp (show N < 2 ^ 31 by omega), nI_1]
theorem BF.le {μ : Mem} {α : Al} {N : Nat} {ρ : Nat → List Nat} {fr : Nat → Nat} (h : BF μ α N ρ fr) : N ≤ 256 := by
  have := cntT_le (Met0 α (α 0 3) N ρ) 256
  have := h.2.2.2.2.2.2.2
  omega
theorem BF.lt {μ : Mem} {α : Al} {N : Nat} {ρ : Nat → List Nat} {fr : Nat → Nat} (h : BF μ α N ρ fr) {E : Nat} (hE : E < 256) (h0 : μ 52 E = 0) : N < 256 := by
  have h1 := cntT_lt ((h.2.2.2.2.2.2.1 E hE).no h0) hE
  have := h.2.2.2.2.2.2.2
  omega
theorem BF.add {μ μ' : Mem} {α : Al} (hv : Val α) {N : Nat} {ρ : Nat → List Nat} {fr : Nat → Nat} (hB : BF μ α N ρ fr) {a h : Nat} (ha : a < N) (hh : h < α 0 6) (hs : ∀ j, j < N → sl (ρ j) (ρ a ++ [h]))
    {E : Nat} (hE : E = endN α (α 0 3) (ρ a ++ [h])) {x y z w : Int32} (hx : x = nI E) (hy : y = nI a) (hz : z = nI h) (hw : w = nI ((ρ a).length + 1)) (hq : MeetQ μ E N x y z w μ') :
    (μ' = μ ∧ ∃ j, j < N ∧ endN α (α 0 3) (ρ j) = E ∧ sl (ρ j) (ρ a ++ [h])) ∨ (BF μ' α (N + 1) (fun i => if i = N then ρ a ++ [h] else ρ i) (fun i => if i = N then a else fr i) ∧ ∀ c, (c < 51 ∨ 57 < c) → μ' c = μ c) := by
  obtain ⟨b1, b2, b3, b4, b5, b6, b7, b8⟩ := id hB
  have hHa : Hs α (ρ a ++ [h]) := (b2 a ha).1.mk hh
  have hE8 : E < 256 := by rw [hE]; exact hv.lt (endN_lt hv hv.D hHa)
  rcases hq with ⟨q1, q2⟩ | ⟨q1, q2⟩
  · obtain ⟨j, hj, hje⟩ := (b7 E hE8).yes q1
    exact Or.inl ⟨q2, j, hj, hje, hs j hj⟩
  · refine Or.inr ⟨?_, fun c hc => by rw [q2]; simp (disch := omega) only [setc_n]⟩
    have hnew : ¬ Met0 α (α 0 3) N ρ E := (b7 E hE8).no q1
    have hmet : ∀ F, (Met0 α (α 0 3) N ρ F ∨ F = E) ↔ Met0 α (α 0 3) (N + 1) (fun i => if i = N then ρ a ++ [h] else ρ i) F := by
      intro F
      constructor
      · rintro (⟨i, h1, h2⟩ | h1)
        · exact ⟨i, by omega, by show endN α (α 0 3) (if i = N then _ else ρ i) = F; rw [if_neg (by omega)]; exact h2⟩
        · exact ⟨N, by omega, by show endN α (α 0 3) (if N = N then _ else ρ N) = F; rw [if_pos rfl, ← hE, h1]⟩
      · rintro ⟨i, h1, h2⟩
        have h2 : endN α (α 0 3) (if i = N then ρ a ++ [h] else ρ i) = F := h2
        by_cases e : i = N
        · rw [if_pos e, ← hE] at h2; exact Or.inr h2.symm
        · rw [if_neg e] at h2; exact Or.inl ⟨i, by omega, h2⟩
    have e52 : μ' 52 = upd (μ 52) E 1 := by rw [q2]; simp (disch := omega) only [setc_s, setc_n]
    have e54 : μ' 54 = upd (μ 54) N x := by rw [q2]; simp (disch := omega) only [setc_s, setc_n]
    have e55 : μ' 55 = upd (μ 55) N y := by rw [q2]; simp (disch := omega) only [setc_s, setc_n]
    have e56 : μ' 56 = upd (μ 56) N z := by rw [q2]; simp (disch := omega) only [setc_s, setc_n]
    have e57 : μ' 57 = upd (μ 57) N w := by rw [q2]; simp (disch := omega) only [setc_s, setc_n]
    refine ⟨by rw [q2, setc_s, pk_us], fun i hi => ?_, fun i h0 hi => ?_, ?_, by omega, fun i j hij hj => ?_, ?_, ?_⟩
    · show Hs α (if i = N then _ else ρ i) ∧ μ' 54 i = nI (endN α (α 0 3) (if i = N then _ else ρ i)) ∧ μ' 57 i = nI (if i = N then ρ a ++ [h] else ρ i).length
      rw [e54, e57]
      by_cases e : i = N
      · subst e; rw [if_pos rfl, pk_us, pk_us]; exact ⟨hHa, by rw [hx, hE], by rw [hw, List.length_append]; rfl⟩
      · rw [if_neg e, pk_un e, pk_un e]; exact b2 i (by omega)
    · show (if i = N then a else fr i) < i ∧ μ' 55 i = nI (if i = N then a else fr i) ∧ ∃ h', h' < α 0 6 ∧ μ' 56 i = nI h' ∧ (if i = N then ρ a ++ [h] else ρ i) = (if (if i = N then a else fr i) = N then ρ a ++ [h] else ρ (if i = N then a else fr i)) ++ [h']
      rw [e55, e56]
      by_cases e : i = N
      · subst e; rw [if_pos rfl, if_pos rfl, if_neg (by omega), pk_us, pk_us]; exact ⟨ha, hy, h, hh, hz, rfl⟩
      · rw [if_neg e, if_neg e, pk_un e, pk_un e]
        obtain ⟨c1, c2, h', c3, c4, c5⟩ := b3 i h0 (by omega)
        rw [if_neg (by omega)]
        exact ⟨c1, c2, h', c3, c4, c5⟩
    · show (if 0 = N then _ else ρ 0) = []
      rw [if_neg (by omega)]; exact b4
    · show sl (if i = N then _ else ρ i) (if j = N then _ else ρ j)
      rw [if_neg (show i ≠ N by omega)]
      by_cases e : j = N
      · rw [if_pos e]; exact hs i (by omega)
      · rw [if_neg e]; exact b6 i j hij (by omega)
    · rw [e52]; exact (b7.upd E).cg (fun _ _ => rfl) (fun F _ => hmet F)
    · rw [← cntT_cg (P := fun F => Met0 α (α 0 3) N ρ F ∨ F = E) (fun F _ => hmet F), cntT_add hnew, b8, if_pos hE8]
end
section
def Full (α : Al) (n N : Nat) (ρ : Nat → List Nat) : Prop := (∀ i, i < N → (ρ i).length ≤ n) ∧ ∀ w, Hs α w → w.length ≤ n → ∃ j, j < N ∧ endN α (α 0 3) (ρ j) = endN α (α 0 3) w ∧ le_sl (ρ j) w
/-- the hums of the dream i have been gone through, those below m -/
def Done (α : Al) (N : Nat) (ρ : Nat → List Nat) (i m : Nat) : Prop := ∀ h, h < m → ∃ j, j < N ∧ endN α (α 0 3) (ρ j) = humN α h (endN α (α 0 3) (ρ i)) ∧ le_sl (ρ j) (ρ i ++ [h])
theorem full_of {α : Al} {n N a : Nat} {ρ : Nat → List Nat} (h0 : ρ 0 = []) (h1 : 1 ≤ N) (hd : ∀ i, i < N → (ρ i).length ≤ n) (hp : ∀ i, i < a → i < N → Done α N ρ i (α 0 6)) (hr : ∀ i, a ≤ i → i < N → n ≤ (ρ i).length) : Full α n N ρ := by
  refine ⟨hd, ?_⟩
  have key : ∀ k w, w.length = k → Hs α w → w.length ≤ n → ∃ j, j < N ∧ endN α (α 0 3) (ρ j) = endN α (α 0 3) w ∧ le_sl (ρ j) w := by
    intro k
    induction k with
    | zero =>
      intro w hw _ _
      have : w = [] := List.length_eq_zero_iff.mp hw
      subst this
      exact ⟨0, by omega, by rw [h0], Or.inl h0⟩
    | succ k ih =>
      intro w hw hs hl
      rcases List.eq_nil_or_concat w with e | ⟨u, b, e⟩
      · rw [e] at hw; simp at hw
      · have e : w = u ++ [b] := by rw [e]; simp
        subst e
        have hu : u.length = k := by simp at hw; exact hw
        obtain ⟨j, j1, j2, j3⟩ := ih u hu hs.sn.1 (by omega)
        have hja : j < a := by
          rcases Nat.lt_or_ge j a with q | q
          · exact q
          · exfalso
            have q1 := hr j q j1
            have q2 := le_sl_len j3
            simp at hl
            omega
        obtain ⟨i, i1, i2, i3⟩ := hp j hja j1 b hs.sn.2
        exact ⟨i, i1, by rw [i2, endN_sn, j2], le_sl_tr i3 (le_sl_sn j3)⟩
  exact fun w hs hl => key w.length w rfl hs hl
theorem Done.grow {α : Al} {N : Nat} {ρ : Nat → List Nat} {i m : Nat} {v : List Nat} (h : Done α N ρ i m) (hi : i < N) : Done α (N + 1) (fun q => if q = N then v else ρ q) i m := by
  intro b hb
  obtain ⟨j, j1, j2, j3⟩ := h b hb
  refine ⟨j, by omega, ?_, ?_⟩
  · show endN α (α 0 3) (if j = N then v else ρ j) = humN α b (endN α (α 0 3) (if i = N then v else ρ i))
    rw [if_neg (by omega), if_neg (by omega)]; exact j2
  · show le_sl (if j = N then v else ρ j) ((if i = N then v else ρ i) ++ [b])
    rw [if_neg (by omega), if_neg (by omega)]; exact j3
set_option maxHeartbeats 1000000 in
theorem c_goWithin {μ : Mem} {α : Al} (hA : Abs (kac μ 15) α) (hv : Val α) {x : Int32} {n : Nat} (hx : x = nI n) (hn : n ≤ 12) :
    CtP yX8_goWithin cX8_goWithin 4 none 4 [vR 51, vI x] μ (Pv (fun μ' => (∀ c, (c < 51 ∨ 57 < c) → μ' c = μ c) ∧ ∃ N ρ fr, BF μ' α N ρ fr ∧ Full α n N ρ)) := by
  refine CtP.go RX8 rfl pn_X8 (Nat.le_of_ble_eq_true rfl) (fun C hG hR => ?_)
  have e3 : μ 15 3 = nI (α 0 3) := hA.1 3 (by decide)
  have e6 : μ 15 6 = nI (α 0 6) := hA.1 6 (by decide)
  have hH := hv.H
  have hD8 := hv.lt hv.D
  have loop : ∀ k a μ1 N ρ fr, a + k = 256 → (∀ c, (c < 51 ∨ 57 < c) → μ1 c = μ c) → BF μ1 α N ρ fr → a ≤ N → (∀ i, i < N → (ρ i).length ≤ n) → (∀ i, i < a → i < N → Done α N ρ i (α 0 6)) → (∀ j, 0 < j → j < N → fr j < a) → V C 29 [(0, vR 51), (1, vI x), (2, vI (nI a))] [] μ1 := by
    intro k
    induction k with
    | zero =>
      intro a μ1 N ρ fr hk f1 hB haN hd hp hf
      have hN := hB.le
      refine V_iload_n (pc := 29) hG (dk dd_X8_goWithin 17 rfl) rfl ?_
      refine V_sipush (pc := 30) hG (dk dd_X8_goWithin 18 rfl) (v := 256) (by decide) ?_
      refine V_icmp_ge (pc := 33) hG (dk dd_X8_goWithin 19 rfl) (tgt := 107) (by decide) (fun h33 => ?_) (fun h33 => ?_)
      refine V_vretP (pc := 107) hG (dk dd_X8_goWithin 59 rfl) hR (Pv.mk ?_)
      rotate_left
      rotate_left
      -- leaves: return@107; stop 36
      · exact ⟨f1, N, ρ, fr, hB, full_of hB.2.2.2.1 hB.2.2.2.2.1 hd hp (fun i h1 h2 => by omega)⟩
      · exfalso; have := nle_i (a := 256) h33 (by omega) (by omega); omega
    | succ k ih =>
      intro a μ1 N ρ fr hk f1 hB haN hd hp hf
      have hN := hB.le
      have hr : vp_in (nI a) 256 := vp_in_nI (by omega) (by decide)
      have ca : (nI a).toNatClampNeg = a := nI_clamp (by omega)
      have inner : ∀ kk h μ2 N2 ρ2 fr2, h + kk = α 0 6 → (∀ c, (c < 51 ∨ 57 < c) → μ2 c = μ c) → BF μ2 α N2 ρ2 fr2 → a < N2 → (ρ2 a).length < n → (∀ i, i < N2 → (ρ2 i).length ≤ n) → (∀ i, i < a → i < N2 → Done α N2 ρ2 i (α 0 6)) → Done α N2 ρ2 a h → (∀ j, 0 < j → j < N2 → fr2 j ≤ a) → (∀ j, j < N2 → sl (ρ2 j) (ρ2 a ++ [h])) → V C 56 [(0, vR 51), (1, vI x), (2, vI (nI a)), (3, vI (nI h))] [] μ2 := by
        intro kk
        induction kk with
        | zero =>
          intro h μ2 N2 ρ2 fr2 hkk g1 hB2 ha2 hla hd2 hp2 hpa hf2 hs2
          have e62 : μ2 15 6 = nI (α 0 6) := by rw [g1 15 (by omega)]; exact e6
          have hI := ih (a + 1) μ2 N2 ρ2 fr2 (by omega) g1 hB2 (by omega) hd2 (fun i h1 h2 => by
            by_cases e : i = a
            · subst e; rw [show α 0 6 = h by omega]; exact hpa
            · exact hp2 i (by omega) h2) (fun j h1 h2 => by have := hf2 j h1 h2; omega)
          rw [nI_succ] at hI
          refine V_iload_n (pc := 56) hG (dk dd_X8_goWithin 32 rfl) rfl ?_
          refine V_aload_n (pc := 57) hG (dk dd_X8_goWithin 33 rfl) rfl ?_
          refine V_getR (pc := 58) hG (dk dd_X8_goWithin 34 rfl) fl_X8_30 sh_51 rfl ?_
          refine V_getI (pc := 61) hG (dk dd_X8_goWithin 35 rfl) fl_X8_64 sh_15 rfl ?_
          refine V_icmp_ge (pc := 64) hG (dk dd_X8_goWithin 36 rfl) (tgt := 101) (by decide) (fun h64 => ?_) (fun h64 => ?_)
          refine V_iinc (pc := 101) hG (dk dd_X8_goWithin 57 rfl) rfl (v := _ + 1) rfl (by decide) (lv' := [(0, _), (1, _), (2, _), (3, _)]) rfl ?_
          refine V_goto (pc := 104) hG (dk dd_X8_goWithin 58 rfl) (tgt := 29) (by decide) ?_
          refine V_keep [0, 1, 2] (lv' := [(0, _), (1, _), (2, _)]) rfl ?_
          rotate_left
          rotate_left
          -- leaves: stop 29; stop 67
          · exact hI
          · exfalso; rw [e62] at h64; have := nle_i h64 (by omega) (by omega); omega
        | succ kk ihk =>
          intro h μ2 N2 ρ2 fr2 hkk g1 hB2 ha2 hla hd2 hp2 hpa hf2 hs2
          have e62 : μ2 15 6 = nI (α 0 6) := by rw [g1 15 (by omega)]; exact e6
          have hA2 : Abs (kac μ2 15) α := hA.off (fun x hx => g1 _ (by omega))
          have hN2 := hB2.le
          obtain ⟨b2a, b2b, b2c⟩ := hB2.2.1 a ha2
          have hh : h < α 0 6 := by omega
          have ed : μ2 54 (nI a).toNatClampNeg = nI (endN α (α 0 3) (ρ2 a)) := by rw [ca]; exact b2b
          have ew : μ2 57 (nI a).toNatClampNeg + 1 = nI ((ρ2 a).length + 1) := by rw [ca, b2c, nI_1]
          have hla8 := endN_lt hv hv.D b2a
          have eE : humN α h (endN α (α 0 3) (ρ2 a)) = endN α (α 0 3) (ρ2 a ++ [h]) := (endN_sn α _ _ _).symm
          have hE8 : humN α h (endN α (α 0 3) (ρ2 a)) < 256 := hv.lt (humN_lt hv hh hla8)
          refine V_iload_n (pc := 56) hG (dk dd_X8_goWithin 32 rfl) rfl ?_
          refine V_aload_n (pc := 57) hG (dk dd_X8_goWithin 33 rfl) rfl ?_
          refine V_getR (pc := 58) hG (dk dd_X8_goWithin 34 rfl) fl_X8_30 sh_51 rfl ?_
          refine V_getI (pc := 61) hG (dk dd_X8_goWithin 35 rfl) fl_X8_64 sh_15 rfl ?_
          refine V_icmp_ge (pc := 64) hG (dk dd_X8_goWithin 36 rfl) (tgt := 101) (by decide) (fun h64 => ?_) (fun h64 => ?_)
          rotate_left
          refine V_aload_n (pc := 67) hG (dk dd_X8_goWithin 37 rfl) rfl ?_
          refine V_aload_n (pc := 68) hG (dk dd_X8_goWithin 38 rfl) rfl ?_
          refine V_getR (pc := 69) hG (dk dd_X8_goWithin 39 rfl) fl_X8_30 sh_51 rfl ?_
          refine V_iload_n (pc := 72) hG (dk dd_X8_goWithin 40 rfl) rfl ?_
          refine V_aload_n (pc := 73) hG (dk dd_X8_goWithin 41 rfl) rfl ?_
          refine V_getR (pc := 74) hG (dk dd_X8_goWithin 42 rfl) fl_X8_18 sh_51 rfl ?_
          refine V_iload_n (pc := 77) hG (dk dd_X8_goWithin 43 rfl) rfl ?_
          refine V_iald (pc := 78) hG (dk dd_X8_goWithin 44 rfl) sh_54 hr ?_
          refine V_callVi (pc := 79) hG (dk dd_X8_goWithin 45 rfl) ml_X8_67 mo_X2_by sh_15 rfl (c_by co_now hA2 hv rfl hh ed hla8) (by decide) (by decide) rfl rfl rfl ?_
          refine V_iload_n (pc := 82) hG (dk dd_X8_goWithin 46 rfl) rfl ?_
          refine V_iload_n (pc := 83) hG (dk dd_X8_goWithin 47 rfl) rfl ?_
          refine V_aload_n (pc := 84) hG (dk dd_X8_goWithin 48 rfl) rfl ?_
          refine V_getR (pc := 85) hG (dk dd_X8_goWithin 49 rfl) fl_X8_27 sh_51 rfl ?_
          refine V_iload_n (pc := 88) hG (dk dd_X8_goWithin 50 rfl) rfl ?_
          refine V_iald (pc := 89) hG (dk dd_X8_goWithin 51 rfl) sh_57 hr ?_
          refine V_iconst (pc := 90) hG (dk dd_X8_goWithin 52 rfl) (v := 1) (by decide) ?_
          refine V_iadd (pc := 91) hG (dk dd_X8_goWithin 53 rfl) ?_
          refine V_callVvp (pc := 92) hG (dk dd_X8_goWithin 54 rfl) ml_X8_74 mo_X8_meet sh_51 rfl (c_meet (N := N2) rfl hE8 hB2.1 (fun q => hB2.lt hE8 q)) (by decide) (by decide) rfl rfl rfl (fun m92 p92 => ?_)
          refine V_iinc (pc := 95) hG (dk dd_X8_goWithin 55 rfl) rfl (v := _ + 1) rfl (by decide) (lv' := [(0, _), (1, _), (2, _), (3, _)]) rfl ?_
          refine V_goto (pc := 98) hG (dk dd_X8_goWithin 56 rfl) (tgt := 56) (by decide) ?_
          rotate_left
          -- leaves: stop 101; stop 56
          · exfalso; rw [e62] at h64; have := le_i h64 (by omega) (by omega); omega
          · rcases hB2.add hv ha2 hh hs2 eE rfl rfl rfl ew p92 with ⟨rfl, j, j1, j2, j3⟩ | ⟨hB3, g3⟩
            · have hI := ihk (h + 1) m92 N2 ρ2 fr2 (by omega) g1 hB2 ha2 hla hd2 hp2 (fun b hb => by
                by_cases e : b = h
                · subst e; exact ⟨j, j1, j2, Or.inr j3⟩
                · exact hpa b (by omega)) hf2 (fun i hi => sl_tr (hs2 i hi) (sl_sn2 _ (Nat.lt_succ_self h)))
              rw [nI_succ] at hI
              exact hI
            · have hI := ihk (h + 1) m92 (N2 + 1) _ _ (by omega) (fun c hc => (g3 c hc).trans (g1 c hc)) hB3 (by omega) (by show (if a = N2 then _ else ρ2 a).length < n; rw [if_neg (by omega)]; exact hla) (fun i hi => by
                  show (if i = N2 then ρ2 a ++ [h] else ρ2 i).length ≤ n
                  by_cases e : i = N2
                  · rw [if_pos e, List.length_append]; show (ρ2 a).length + 1 ≤ n; omega
                  · rw [if_neg e]; exact hd2 i (by omega)) (fun i h1 h2 => (hp2 i h1 (by omega)).grow (by omega)) (fun b hb => by
                  by_cases e : b = h
                  · subst e
                    refine ⟨N2, by omega, ?_, ?_⟩
                    · show endN α (α 0 3) (if N2 = N2 then _ else ρ2 N2) = humN α b (endN α (α 0 3) (if a = N2 then _ else ρ2 a))
                      rw [if_pos rfl, if_neg (by omega), endN_sn]
                    · show le_sl (if N2 = N2 then _ else ρ2 N2) ((if a = N2 then _ else ρ2 a) ++ [b])
                      rw [if_pos rfl, if_neg (by omega)]; exact Or.inl rfl
                  · exact hpa.grow ha2 b (by omega)) (fun j h1 h2 => by
                  show (if j = N2 then a else fr2 j) ≤ a
                  by_cases e : j = N2
                  · rw [if_pos e]; exact Nat.le_refl a
                  · rw [if_neg e]; exact hf2 j h1 (by omega)) (fun j hj => by
                  show sl (if j = N2 then _ else ρ2 j) ((if a = N2 then _ else ρ2 a) ++ [h + 1])
                  rw [if_neg (show a ≠ N2 by omega)]
                  by_cases e : j = N2
                  · rw [if_pos e]; exact sl_sn2 _ (Nat.lt_succ_self h)
                  · rw [if_neg e]; exact sl_tr (hs2 j (by omega)) (sl_sn2 _ (Nat.lt_succ_self h)))
              rw [nI_succ] at hI
              exact hI
      refine V_iload_n (pc := 29) hG (dk dd_X8_goWithin 17 rfl) rfl ?_
      refine V_sipush (pc := 30) hG (dk dd_X8_goWithin 18 rfl) (v := 256) (by decide) ?_
      refine V_icmp_ge (pc := 33) hG (dk dd_X8_goWithin 19 rfl) (tgt := 107) (by decide) (fun h33 => ?_) (fun h33 => ?_)
      refine V_vretP (pc := 107) hG (dk dd_X8_goWithin 59 rfl) hR (Pv.mk ?_)
      rotate_left
      refine V_iload_n (pc := 36) hG (dk dd_X8_goWithin 20 rfl) rfl ?_
      refine V_aload_n (pc := 37) hG (dk dd_X8_goWithin 21 rfl) rfl ?_
      refine V_getI (pc := 38) hG (dk dd_X8_goWithin 22 rfl) fl_X8_71 sh_51 rfl ?_
      refine V_icmp_ge (pc := 41) hG (dk dd_X8_goWithin 23 rfl) (tgt := 107) (by decide) (fun h41 => ?_) (fun h41 => ?_)
      refine V_vretP (pc := 107) hG (dk dd_X8_goWithin 59 rfl) hR (Pv.mk ?_)
      rotate_left
      refine V_aload_n (pc := 44) hG (dk dd_X8_goWithin 24 rfl) rfl ?_
      refine V_getR (pc := 45) hG (dk dd_X8_goWithin 25 rfl) fl_X8_27 sh_51 rfl ?_
      refine V_iload_n (pc := 48) hG (dk dd_X8_goWithin 26 rfl) rfl ?_
      refine V_iald (pc := 49) hG (dk dd_X8_goWithin 27 rfl) sh_57 hr ?_
      refine V_iload_n (pc := 50) hG (dk dd_X8_goWithin 28 rfl) rfl ?_
      refine V_icmp_ge (pc := 51) hG (dk dd_X8_goWithin 29 rfl) (tgt := 107) (by decide) (fun h51 => ?_) (fun h51 => ?_)
      refine V_vretP (pc := 107) hG (dk dd_X8_goWithin 59 rfl) hR (Pv.mk ?_)
      rotate_left
      refine V_iconst (pc := 54) hG (dk dd_X8_goWithin 30 rfl) (v := 0) (by decide) ?_
      refine V_istore_n (pc := 55) hG (dk dd_X8_goWithin 31 rfl) (by decide) (lv' := [(0, _), (1, _), (2, _), (3, _)]) rfl ?_
      rotate_left
      -- leaves: return@107; return@107; return@107; stop 56
      · exfalso; have := le_i (a := 256) h33 (by omega) (by omega); omega
      · rw [hB.1] at h41; have := le_i h41 (by omega) (by omega)
        exact ⟨f1, N, ρ, fr, hB, full_of hB.2.2.2.1 hB.2.2.2.2.1 hd hp (fun i h1 h2 => by omega)⟩
      · rw [hB.1] at h41; have haN2 := nle_i h41 (by omega) (by omega)
        rw [ca, (hB.2.1 a haN2).2.2, hx] at h51
        have hla := hd a haN2
        have := le_i h51 (by omega) (by omega)
        refine ⟨f1, N, ρ, fr, hB, full_of hB.2.2.2.1 hB.2.2.2.2.1 hd hp (fun i h1 h2 => ?_)⟩
        by_cases e : a = i
        · subst e; exact this
        · have := le_sl_len (Or.inr (hB.2.2.2.2.2.1 a i (by omega) h2)); omega
      · rw [hB.1] at h41; have haN2 := nle_i h41 (by omega) (by omega)
        rw [ca, (hB.2.1 a haN2).2.2, hx] at h51
        have hla := hd a haN2
        have := nle_i h51 (by omega) (by omega)
        refine inner (α 0 6) 0 μ1 N ρ fr (by omega) f1 hB haN2 this hd hp (fun b hb => absurd hb (Nat.not_lt_zero b)) (fun j h1 h2 => Nat.le_of_lt (hf j h1 h2)) (fun j hj => ?_)
        by_cases e : j = 0
        · subst e; rw [hB.2.2.2.1]; exact sl_nil
        · obtain ⟨_, _, b, _, _, c5⟩ := hB.2.2.1 j (by omega) hj
          rw [c5]; exact sl_sn1 (hB.2.2.2.2.2.1 (fr j) a (hf j (by omega) hj) haN2)
  refine V_aload_n (pc := 0) hG (dk dd_X8_goWithin 0 rfl) rfl ?_
  refine V_getR (pc := 1) hG (dk dd_X8_goWithin 1 rfl) fl_X8_9 sh_51 rfl ?_
  refine V_iconst (pc := 4) hG (dk dd_X8_goWithin 2 rfl) (v := 0) (by decide) ?_
  refine V_callSvp (pc := 5) hG (dk dd_X8_goWithin 3 rfl) ml_X8_45 mo_J7_fill_53178 (c_fill sh_52 (by decide)) (by decide) (by decide) rfl rfl rfl (fun m5 p5 => ?_)
  refine V_aload_n (pc := 8) hG (dk dd_X8_goWithin 4 rfl) rfl ?_
  refine V_iconst (pc := 9) hG (dk dd_X8_goWithin 5 rfl) (v := 0) (by decide) ?_
  refine V_putI (pc := 10) hG (dk dd_X8_goWithin 6 rfl) fl_X8_71 sh_51 rfl rfl ?_
  refine V_aload_n (pc := 13) hG (dk dd_X8_goWithin 7 rfl) rfl ?_
  refine V_aload_n (pc := 14) hG (dk dd_X8_goWithin 8 rfl) rfl ?_
  refine V_getR (pc := 15) hG (dk dd_X8_goWithin 9 rfl) fl_X8_30 sh_51 rfl ?_
  refine V_getI (pc := 18) hG (dk dd_X8_goWithin 10 rfl) fl_X8_51 sh_15 rfl ?_
  refine V_iconst (pc := 21) hG (dk dd_X8_goWithin 11 rfl) (v := -1) (by decide) ?_
  refine V_iconst (pc := 22) hG (dk dd_X8_goWithin 12 rfl) (v := -1) (by decide) ?_
  refine V_iconst (pc := 23) hG (dk dd_X8_goWithin 13 rfl) (v := 0) (by decide) ?_
  refine V_callVvp (pc := 24) hG (dk dd_X8_goWithin 14 rfl) ml_X8_74 mo_X8_meet sh_51 rfl (c_meet (N := 0) (E := α 0 3) ?_ hD8 ?_ (fun _ => by decide)) (by decide) (by decide) rfl rfl rfl (fun m24 p24 => ?_)
  rotate_left
  rotate_left
  refine V_iconst (pc := 27) hG (dk dd_X8_goWithin 15 rfl) (v := 0) (by decide) ?_
  refine V_istore_n (pc := 28) hG (dk dd_X8_goWithin 16 rfl) (by decide) (lv' := [(0, _), (1, _), (2, _)]) rfl ?_
  rotate_left
  -- leaves: call meet@24 0; call meet@24 1; stop 29
  · obtain ⟨f, rfl, hf⟩ := p5; rw [setc_n (by decide), setc_n (by decide)]; exact e3
  · obtain ⟨f, rfl, hf⟩ := p5; rw [setc_s, pk_us]; rfl
  · obtain ⟨f, rfl, hf⟩ := p5
    have e52 : ∀ E, E < 256 → setc (setc μ 52 f) 51 (upd (setc μ 52 f 51) 7 0) 52 E = 0 := fun E hE => by rw [setc_n (by decide), setc_s]; exact hf E hE
    rcases p24 with ⟨q1, _⟩ | ⟨_, q2⟩
    · exact absurd (e52 _ hD8) q1
    · have hex : (setc (setc μ 52 f) 51 (upd (setc μ 52 f 51) 7 0)) 15 3 = nI (α 0 3) := by rw [setc_n (by decide), setc_n (by decide)]; exact e3
      rw [hex] at q2
      refine loop 256 0 m24 1 (fun _ => []) (fun _ => 0) (by omega) (fun c hc => by rw [q2]; simp (disch := omega) only [setc_n]) ⟨by rw [q2, setc_s, pk_us], fun i hi => ?_, fun i h1 h2 => by omega, rfl, by omega, fun i j h1 h2 => by omega, ?_, ?_⟩ (by omega) (fun i _ => Nat.zero_le n) (fun i h1 _ => absurd h1 (Nat.not_lt_zero i)) (fun j h1 h2 => by omega)
      · have : i = 0 := by omega
        subst this
        refine ⟨fun _ h => absurd h List.not_mem_nil, ?_, ?_⟩
        · rw [q2]; simp (disch := omega) only [setc_s, setc_n]; rw [pk_us]; rfl
        · rw [q2]; simp (disch := omega) only [setc_s, setc_n]; rw [pk_us]; rfl
      · rw [show m24 52 = upd (setc (setc μ 52 f) 51 (upd (setc μ 52 f 51) 7 0) 52) (α 0 3) 1 by rw [q2]; simp (disch := omega) only [setc_s, setc_n]]
        exact (Mk.upd (P := fun _ => False) (fun E hE => Or.inr ⟨e52 E hE, id⟩) (α 0 3)).cg (fun _ _ => rfl) (fun E _ => ⟨fun q => q.elim False.elim (fun z => ⟨0, by decide, z.symm⟩), fun ⟨i, _, h⟩ => Or.inr h.symm⟩)
      · rw [cntT_cg (Q := fun E => False ∨ E = α 0 3) (fun E _ => ⟨fun ⟨i, _, h⟩ => Or.inr h.symm, fun q => q.elim False.elim (fun z => ⟨0, by decide, z.symm⟩)⟩), cntT_add (P := fun _ => False) id, if_pos hD8]
        have : ∀ m, cntT (fun _ => False) m = 0 := by
          intro m; induction m with
          | zero => rfl
          | succ m ih => rw [cntT_s, ih, p1_f id]
        rw [this]
end
section
def FstI (α : Al) (N : Nat) (ρ : Nat → List Nat) (T : Nat → Prop) (r : Int32) : Prop := (∃ i, i < N ∧ r = nI i ∧ T (endN α (α 0 3) (ρ i)) ∧ ∀ j, j < i → ¬ T (endN α (α 0 3) (ρ j))) ∨ (r = -1 ∧ ∀ i, i < N → ¬ T (endN α (α 0 3) (ρ i)))
def TgT (a b : Nat) (E : Nat) : Prop := E &&& a = a ∧ E &&& b = 0
theorem c_firstWith {μ : Mem} {α : Al} (hv : Val α) {N : Nat} {ρ : Nat → List Nat} {fr : Nat → Nat} (hB : BF μ α N ρ fr) {x y : Int32} {a b : Nat} (hx : x = nI a) (ha : a < 256) (hy : y = nI b) (hb : b < 256) :
    CtP yX8_firstWith cX8_firstWith 4 (some .int) 0 [vR 51, vI x, vI y] μ (Pi (fun r μ' => μ' = μ ∧ FstI α N ρ (TgT a b) r)) := by
  refine CtP.go RX8 rfl pn_X8 (Nat.le_of_ble_eq_true rfl) (fun C hG hR => ?_)
  have hN := hB.le
  have loop : ∀ k i, i + k = N → (∀ j, j < i → ¬ TgT a b (endN α (α 0 3) (ρ j))) → V C 2 [(0, vR 51), (1, vI x), (2, vI y), (3, vI (nI i))] [] μ := by
    intro k
    induction k with
    | zero =>
      intro i hi hn
      refine V_iload_n (pc := 2) hG (dk dd_X8_firstWith 2 rfl) rfl ?_
      refine V_aload_n (pc := 3) hG (dk dd_X8_firstWith 3 rfl) rfl ?_
      refine V_getI (pc := 4) hG (dk dd_X8_firstWith 4 rfl) fl_X8_71 sh_51 rfl ?_
      refine V_icmp_ge (pc := 7) hG (dk dd_X8_firstWith 5 rfl) (tgt := 41) (by decide) (fun h7 => ?_) (fun h7 => ?_)
      refine V_iconst (pc := 41) hG (dk dd_X8_firstWith 25 rfl) (v := -1) (by decide) ?_
      refine V_iretP (pc := 42) hG (dk dd_X8_firstWith 26 rfl) hR (Pi.mk ?_)
      rotate_left
      rotate_left
      -- leaves: return@42; stop 10
      · exact ⟨rfl, Or.inr ⟨rfl, fun j hj => hn j (by omega)⟩⟩
      · exfalso; rw [hB.1] at h7; have := nle_i h7 (by omega) (by omega); omega
    | succ k ih =>
      intro i hi hn
      have hr : vp_in (nI i) 256 := vp_in_nI (by omega) (by decide)
      have em : μ 54 (nI i).toNatClampNeg = nI (endN α (α 0 3) (ρ i)) := by rw [nI_clamp (by omega)]; exact (hB.2.1 i (by omega)).2.1
      have hE := hv.lt (endN_lt hv hv.D (hB.2.1 i (by omega)).1)
      have q1 : nI (endN α (α 0 3) (ρ i)) &&& nI a = nI (endN α (α 0 3) (ρ i) &&& a) := q_andG (by omega) (by omega)
      have q2 : nI (endN α (α 0 3) (ρ i)) &&& nI b = nI (endN α (α 0 3) (ρ i) &&& b) := q_andG (by omega) (by omega)
      have l1 : endN α (α 0 3) (ρ i) &&& a ≤ a := Nat.and_le_right
      have l2 : endN α (α 0 3) (ρ i) &&& b ≤ b := Nat.and_le_right
      have hI := fun z => ih (i + 1) (by omega) z
      rw [nI_succ] at hI
      have go : ¬ TgT a b (endN α (α 0 3) (ρ i)) → ∀ j, j < i + 1 → ¬ TgT a b (endN α (α 0 3) (ρ j)) := fun hz j hj => by
        rcases Nat.lt_succ_iff_lt_or_eq.mp hj with z | z
        · exact hn j z
        · rw [z]; exact hz
      refine V_iload_n (pc := 2) hG (dk dd_X8_firstWith 2 rfl) rfl ?_
      refine V_aload_n (pc := 3) hG (dk dd_X8_firstWith 3 rfl) rfl ?_
      refine V_getI (pc := 4) hG (dk dd_X8_firstWith 4 rfl) fl_X8_71 sh_51 rfl ?_
      refine V_icmp_ge (pc := 7) hG (dk dd_X8_firstWith 5 rfl) (tgt := 41) (by decide) (fun h7 => ?_) (fun h7 => ?_)
      rotate_left
      refine V_aload_n (pc := 10) hG (dk dd_X8_firstWith 6 rfl) rfl ?_
      refine V_getR (pc := 11) hG (dk dd_X8_firstWith 7 rfl) fl_X8_18 sh_51 rfl ?_
      refine V_iload_n (pc := 14) hG (dk dd_X8_firstWith 8 rfl) rfl ?_
      refine V_iald (pc := 15) hG (dk dd_X8_firstWith 9 rfl) sh_54 hr ?_
      refine V_iload_n (pc := 16) hG (dk dd_X8_firstWith 10 rfl) rfl ?_
      refine V_iand (pc := 17) hG (dk dd_X8_firstWith 11 rfl) ?_
      refine V_iload_n (pc := 18) hG (dk dd_X8_firstWith 12 rfl) rfl ?_
      refine V_icmp_ne (pc := 19) hG (dk dd_X8_firstWith 13 rfl) (tgt := 35) (by decide) (fun h19 => ?_) (fun h19 => ?_)
      refine V_iinc (pc := 35) hG (dk dd_X8_firstWith 23 rfl) rfl (v := _ + 1) rfl (by decide) (lv' := [(0, _), (1, _), (2, _), (3, _)]) rfl ?_
      refine V_goto (pc := 38) hG (dk dd_X8_firstWith 24 rfl) (tgt := 2) (by decide) ?_
      rotate_left
      refine V_aload_n (pc := 22) hG (dk dd_X8_firstWith 14 rfl) rfl ?_
      refine V_getR (pc := 23) hG (dk dd_X8_firstWith 15 rfl) fl_X8_18 sh_51 rfl ?_
      refine V_iload_n (pc := 26) hG (dk dd_X8_firstWith 16 rfl) rfl ?_
      refine V_iald (pc := 27) hG (dk dd_X8_firstWith 17 rfl) sh_54 hr ?_
      refine V_iload_n (pc := 28) hG (dk dd_X8_firstWith 18 rfl) rfl ?_
      refine V_iand (pc := 29) hG (dk dd_X8_firstWith 19 rfl) ?_
      refine V_if_ne (pc := 30) hG (dk dd_X8_firstWith 20 rfl) (tgt := 35) (by decide) (fun h30 => ?_) (fun h30 => ?_)
      refine V_iinc (pc := 35) hG (dk dd_X8_firstWith 23 rfl) rfl (v := _ + 1) rfl (by decide) (lv' := [(0, _), (1, _), (2, _), (3, _)]) rfl ?_
      refine V_goto (pc := 38) hG (dk dd_X8_firstWith 24 rfl) (tgt := 2) (by decide) ?_
      rotate_left
      refine V_iload_n (pc := 33) hG (dk dd_X8_firstWith 21 rfl) rfl ?_
      refine V_iretP (pc := 34) hG (dk dd_X8_firstWith 22 rfl) hR (Pi.mk ?_)
      rotate_left
      -- leaves: stop 41; stop 2; stop 2; return@34
      · exfalso; rw [hB.1] at h7; have := le_i h7 (by omega) (by omega); omega
      · rw [em, hx, q1] at h19
        exact hI (go (fun z => h19 (by rw [z.1])))
      · rw [em, hy, q2] at h30
        exact hI (go (fun z => h30 (by rw [z.2]; rfl)))
      · rw [em, hx, q1] at h19; rw [em, hy, q2] at h30
        exact ⟨rfl, Or.inl ⟨i, by omega, rfl, ⟨(nI_eq (by omega) (by omega)).mp h19, (nI_eq (b := 0) (by omega) (by omega)).mp h30⟩, hn⟩⟩
  refine V_iconst (pc := 0) hG (dk dd_X8_firstWith 0 rfl) (v := 0) (by decide) ?_
  refine V_istore_n (pc := 1) hG (dk dd_X8_firstWith 1 rfl) (by decide) (lv' := [(0, _), (1, _), (2, _), (3, _)]) rfl ?_
  rotate_left
  -- leaves: stop 2
  · exact loop N 0 (by omega) (fun j hj => absurd hj (Nat.not_lt_zero j))
theorem c_firstFree {μ : Mem} {α : Al} (hA : Abs (kac μ 15) α) (hv : Val α) {N : Nat} {ρ : Nat → List Nat} {fr : Nat → Nat} (hB : BF μ α N ρ fr) {x : Int32} {c : Nat} (hx : x = nI c) (hc : c < α 0 7) :
    CtP yX8_firstFree cX8_firstFree 3 (some .int) 4 [vR 51, vI x] μ (Pi (fun r μ' => μ' = μ ∧ FstI α N ρ (fun E => verN α c E = 1) r)) := by
  refine CtP.go RX8 rfl pn_X8 (Nat.le_of_ble_eq_true rfl) (fun C hG hR => ?_)
  have hN := hB.le
  have loop : ∀ k i, i + k = N → (∀ j, j < i → ¬ verN α c (endN α (α 0 3) (ρ j)) = 1) → V C 2 [(0, vR 51), (1, vI x), (2, vI (nI i))] [] μ := by
    intro k
    induction k with
    | zero =>
      intro i hi hn
      refine V_iload_n (pc := 2) hG (dk dd_X8_firstFree 2 rfl) rfl ?_
      refine V_aload_n (pc := 3) hG (dk dd_X8_firstFree 3 rfl) rfl ?_
      refine V_getI (pc := 4) hG (dk dd_X8_firstFree 4 rfl) fl_X8_71 sh_51 rfl ?_
      refine V_icmp_ge (pc := 7) hG (dk dd_X8_firstFree 5 rfl) (tgt := 36) (by decide) (fun h7 => ?_) (fun h7 => ?_)
      refine V_iconst (pc := 36) hG (dk dd_X8_firstFree 20 rfl) (v := -1) (by decide) ?_
      refine V_iretP (pc := 37) hG (dk dd_X8_firstFree 21 rfl) hR (Pi.mk ?_)
      rotate_left
      rotate_left
      -- leaves: return@37; stop 10
      · exact ⟨rfl, Or.inr ⟨rfl, fun j hj => hn j (by omega)⟩⟩
      · exfalso; rw [hB.1] at h7; have := nle_i h7 (by omega) (by omega); omega
    | succ k ih =>
      intro i hi hn
      have hr : vp_in (nI i) 256 := vp_in_nI (by omega) (by decide)
      have em : μ 54 (nI i).toNatClampNeg = nI (endN α (α 0 3) (ρ i)) := by rw [nI_clamp (by omega)]; exact (hB.2.1 i (by omega)).2.1
      have hE := endN_lt hv hv.D (hB.2.1 i (by omega)).1
      have hI := fun z => ih (i + 1) (by omega) z
      rw [nI_succ] at hI
      have hv3 := verN_lt α c (endN α (α 0 3) (ρ i))
      refine V_iload_n (pc := 2) hG (dk dd_X8_firstFree 2 rfl) rfl ?_
      refine V_aload_n (pc := 3) hG (dk dd_X8_firstFree 3 rfl) rfl ?_
      refine V_getI (pc := 4) hG (dk dd_X8_firstFree 4 rfl) fl_X8_71 sh_51 rfl ?_
      refine V_icmp_ge (pc := 7) hG (dk dd_X8_firstFree 5 rfl) (tgt := 36) (by decide) (fun h7 => ?_) (fun h7 => ?_)
      rotate_left
      refine V_aload_n (pc := 10) hG (dk dd_X8_firstFree 6 rfl) rfl ?_
      refine V_getR (pc := 11) hG (dk dd_X8_firstFree 7 rfl) fl_X8_30 sh_51 rfl ?_
      refine V_iload_n (pc := 14) hG (dk dd_X8_firstFree 8 rfl) rfl ?_
      refine V_aload_n (pc := 15) hG (dk dd_X8_firstFree 9 rfl) rfl ?_
      refine V_getR (pc := 16) hG (dk dd_X8_firstFree 10 rfl) fl_X8_18 sh_51 rfl ?_
      refine V_iload_n (pc := 19) hG (dk dd_X8_firstFree 11 rfl) rfl ?_
      refine V_iald (pc := 20) hG (dk dd_X8_firstFree 12 rfl) sh_54 hr ?_
      refine V_callVi (pc := 21) hG (dk dd_X8_firstFree 13 rfl) ml_X8_78 mo_X2_verdict sh_15 rfl (c_verdict co_now hA hv hx hc em hE) (by decide) (by decide) rfl rfl rfl ?_
      refine V_iconst (pc := 24) hG (dk dd_X8_firstFree 14 rfl) (v := 1) (by decide) ?_
      refine V_icmp_ne (pc := 25) hG (dk dd_X8_firstFree 15 rfl) (tgt := 30) (by decide) (fun h25 => ?_) (fun h25 => ?_)
      refine V_iinc (pc := 30) hG (dk dd_X8_firstFree 18 rfl) rfl (v := _ + 1) rfl (by decide) (lv' := [(0, _), (1, _), (2, _)]) rfl ?_
      refine V_goto (pc := 33) hG (dk dd_X8_firstFree 19 rfl) (tgt := 2) (by decide) ?_
      rotate_left
      refine V_iload_n (pc := 28) hG (dk dd_X8_firstFree 16 rfl) rfl ?_
      refine V_iretP (pc := 29) hG (dk dd_X8_firstFree 17 rfl) hR (Pi.mk ?_)
      rotate_left
      -- leaves: stop 36; stop 2; return@29
      · exfalso; rw [hB.1] at h7; have := le_i h7 (by omega) (by omega); omega
      · refine hI (fun j hj => ?_)
        rcases Nat.lt_succ_iff_lt_or_eq.mp hj with z | z
        · exact hn j z
        · rw [z]; exact fun q => h25 (by rw [q]; rfl)
      · exact ⟨rfl, Or.inl ⟨i, by omega, rfl, (nI_eq (b := 1) (by omega) (by omega)).mp h25, hn⟩⟩
  refine V_iconst (pc := 0) hG (dk dd_X8_firstFree 0 rfl) (v := 0) (by decide) ?_
  refine V_istore_n (pc := 1) hG (dk dd_X8_firstFree 1 rfl) (by decide) (lv' := [(0, _), (1, _), (2, _)]) rfl ?_
  rotate_left
  -- leaves: stop 2
  · exact loop N 0 (by omega) (fun j hj => absurd hj (Nat.not_lt_zero j))
theorem c_humOfRowTo {μ : Mem} {α : Al} {n N : Nat} {ρ : Nat → List Nat} {fr : Nat → Nat} (hB : BF μ α N ρ fr) (hF : Full α n N ρ) (hn : n ≤ 12) {T : Nat → Prop} {x k : Int32} (hx : FstI α N ρ T x) (hk : -1 ≤ k) :
    CtP yX8_humOfRowTo cX8_humOfRowTo 5 (some .int) 0 [vR 51, vI x, vI k] μ (Pi (fun r μ' => μ' = μ ∧ WR α (α 0 3) n T k r)) := by
  refine CtP.go RX8 rfl pn_X8 (Nat.le_of_ble_eq_true rfl) (fun C hG hR => ?_)
  have hN := hB.le
  have none0 : x = -1 → ∀ w, Hs α w → w.length ≤ n → ¬ T (endN α (α 0 3) w) := by
    intro e w h1 h2 h3
    rcases hx with ⟨i, i1, i2, _⟩ | ⟨_, i2⟩
    · exact absurd (show nI i < 0 by rw [← i2, e]; decide) (nI_pos (by omega))
    · obtain ⟨j, j1, j2, _⟩ := hF.2 w h1 h2
      exact i2 j j1 (by rw [j2]; exact h3)
  have some0 : ¬ x = -1 → ∃ i, i < N ∧ x = nI i ∧ Best α (α 0 3) n T (ρ i) := by
    intro e
    rcases hx with ⟨i, i1, i2, i3, i4⟩ | ⟨q, _⟩
    · refine ⟨i, i1, i2, (hB.2.1 i i1).1, hF.1 i i1, i3, fun w h1 h2 h3 => ?_⟩
      obtain ⟨j, j1, j2, j3⟩ := hF.2 w h1 h2
      have hij : i ≤ j := Nat.not_lt.mp (fun q => i4 j q (by rw [j2]; exact h3))
      rcases Nat.lt_or_ge i j with q | q
      · exact le_sl_tr (Or.inr (hB.2.2.2.2.2.1 i j q j1)) j3
      · rw [show i = j by omega]; exact j3
    · exact absurd q e
  have back : ∀ i kk, i < N → Best α (α 0 3) n T (ρ i) → k = nI kk → kk < (ρ i).length → ∀ m q, q < N → (ρ q).length = kk + 1 + m → (ρ q).getD kk 0 = (ρ i).getD kk 0 → V C 43 [(0, vR 51), (1, vI x), (2, vI k), (3, vI (nI q)), (4, vI (nI (kk + 1 + m)))] [] μ := by
    intro i kk hi hBe hkk hkl m
    have hl12 := hF.1 i hi
    induction m with
    | zero =>
      intro q hq hl hg
      have hr : vp_in (nI q) 256 := vp_in_nI (by omega) (by decide)
      have cq : (nI q).toNatClampNeg = q := nI_clamp (by omega)
      have hq0 : 0 < q := by
        rcases Nat.eq_zero_or_pos q with z | z
        · rw [z, hB.2.2.2.1] at hl; simp at hl
        · exact z
      obtain ⟨_, _, h, _, c4, c5⟩ := hB.2.2.1 q hq0 hq
      refine V_iload (pc := 43) hG (dk dd_X8_humOfRowTo 28 rfl) rfl ?_
      refine V_iload_n (pc := 45) hG (dk dd_X8_humOfRowTo 29 rfl) rfl ?_
      refine V_iconst (pc := 46) hG (dk dd_X8_humOfRowTo 30 rfl) (v := 1) (by decide) ?_
      refine V_iadd (pc := 47) hG (dk dd_X8_humOfRowTo 31 rfl) ?_
      refine V_icmp_le (pc := 48) hG (dk dd_X8_humOfRowTo 32 rfl) (tgt := 64) (by decide) (fun h48 => ?_) (fun h48 => ?_)
      refine V_aload_n (pc := 64) hG (dk dd_X8_humOfRowTo 40 rfl) rfl ?_
      refine V_getR (pc := 65) hG (dk dd_X8_humOfRowTo 41 rfl) fl_X8_24 sh_51 rfl ?_
      refine V_iload_n (pc := 68) hG (dk dd_X8_humOfRowTo 42 rfl) rfl ?_
      refine V_iald (pc := 69) hG (dk dd_X8_humOfRowTo 43 rfl) sh_56 hr ?_
      refine V_iretP (pc := 70) hG (dk dd_X8_humOfRowTo 44 rfl) hR (Pi.mk ?_)
      rotate_left
      rotate_left
      -- leaves: return@70; stop 51
      · refine ⟨rfl, Or.inl ⟨ρ i, hBe, Or.inr (Or.inl ⟨kk, hkk, hkl, ?_⟩)⟩⟩
        rw [cq, c4, ← hg, c5]
        have : (ρ (fr q)).length = kk := by rw [c5] at hl; simp at hl; exact hl
        rw [List.getD_eq_getElem?_getD, List.getElem?_append_right (by omega), this, Nat.sub_self]; rfl
      · exfalso; rw [hkk, nI_1] at h48; exact h48 ((nI_leI (by omega) (by omega)).mpr (by omega))
    | succ m ihm =>
      intro q hq hl hg
      have hr : vp_in (nI q) 256 := vp_in_nI (by omega) (by decide)
      have cq : (nI q).toNatClampNeg = q := nI_clamp (by omega)
      have hlq := hF.1 q hq
      have hq0 : 0 < q := by
        rcases Nat.eq_zero_or_pos q with z | z
        · rw [z, hB.2.2.2.1] at hl; simp at hl
        · exact z
      obtain ⟨c1, c2, h, _, c4, c5⟩ := hB.2.2.1 q hq0 hq
      have hlf : (ρ (fr q)).length = kk + 1 + m := by rw [c5] at hl; simp at hl; omega
      have hI := ihm (fr q) (by omega) hlf (by
        rw [← hg, c5, List.getD_eq_getElem?_getD, List.getD_eq_getElem?_getD, List.getElem?_append_left (by omega)])
      refine V_iload (pc := 43) hG (dk dd_X8_humOfRowTo 28 rfl) rfl ?_
      refine V_iload_n (pc := 45) hG (dk dd_X8_humOfRowTo 29 rfl) rfl ?_
      refine V_iconst (pc := 46) hG (dk dd_X8_humOfRowTo 30 rfl) (v := 1) (by decide) ?_
      refine V_iadd (pc := 47) hG (dk dd_X8_humOfRowTo 31 rfl) ?_
      refine V_icmp_le (pc := 48) hG (dk dd_X8_humOfRowTo 32 rfl) (tgt := 64) (by decide) (fun h48 => ?_) (fun h48 => ?_)
      rotate_left
      refine V_aload_n (pc := 51) hG (dk dd_X8_humOfRowTo 33 rfl) rfl ?_
      refine V_getR (pc := 52) hG (dk dd_X8_humOfRowTo 34 rfl) fl_X8_21 sh_51 rfl ?_
      refine V_iload_n (pc := 55) hG (dk dd_X8_humOfRowTo 35 rfl) rfl ?_
      refine V_iald (pc := 56) hG (dk dd_X8_humOfRowTo 36 rfl) sh_55 hr ?_
      refine V_istore_n (pc := 57) hG (dk dd_X8_humOfRowTo 37 rfl) (by decide) (lv' := [(0, _), (1, _), (2, _), (3, _), (4, _)]) rfl ?_
      refine V_iinc (pc := 58) hG (dk dd_X8_humOfRowTo 38 rfl) rfl (v := _ + (-1)) rfl (by decide) (lv' := [(0, _), (1, _), (2, _), (3, _), (4, _)]) rfl ?_
      refine V_goto (pc := 61) hG (dk dd_X8_humOfRowTo 39 rfl) (tgt := 43) (by decide) ?_
      rotate_left
      -- leaves: stop 64; stop 43
      · exfalso; rw [hkk, nI_1] at h48; have := (nI_leI (by omega) (by omega)).mp h48; omega
      · rw [cq, c2, show kk + 1 + (m + 1) = (kk + 1 + m) + 1 by omega, pk_m1]; exact hI
  by_cases hx1 : x = -1
  · skip
    refine V_iload_n (pc := 0) hG (dk dd_X8_humOfRowTo 0 rfl) rfl ?_
    refine V_iconst (pc := 1) hG (dk dd_X8_humOfRowTo 1 rfl) (v := -1) (by decide) ?_
    refine V_icmp_ne (pc := 2) hG (dk dd_X8_humOfRowTo 2 rfl) (tgt := 8) (by decide) (fun h2 => ?_) (fun h2 => ?_)
    rotate_left
    refine V_ldc (pc := 5) hG (dk dd_X8_humOfRowTo 3 rfl) kk_X8_44 ?_
    refine V_iretP (pc := 7) hG (dk dd_X8_humOfRowTo 4 rfl) hR (Pi.mk ?_)
    rotate_left
    -- leaves: stop 8; return@7
    · exact absurd hx1 h2
    · exact ⟨rfl, Or.inr ⟨none0 hx1, rfl⟩⟩
  · obtain ⟨i, i1, i2, i3⟩ := some0 hx1
    have hr : vp_in x 256 := in_nI i2 (by omega) (by decide)
    have ci : x.toNatClampNeg = i := nI_cl i2 (by omega)
    have ed : μ 57 x.toNatClampNeg = nI (ρ i).length := by rw [ci]; exact (hB.2.1 i i1).2.2
    have hl12 := hF.1 i i1
    refine V_iload_n (pc := 0) hG (dk dd_X8_humOfRowTo 0 rfl) rfl ?_
    refine V_iconst (pc := 1) hG (dk dd_X8_humOfRowTo 1 rfl) (v := -1) (by decide) ?_
    refine V_icmp_ne (pc := 2) hG (dk dd_X8_humOfRowTo 2 rfl) (tgt := 8) (by decide) (fun h2 => ?_) (fun h2 => ?_)
    refine V_iload_n (pc := 8) hG (dk dd_X8_humOfRowTo 5 rfl) rfl ?_
    refine V_iconst (pc := 9) hG (dk dd_X8_humOfRowTo 6 rfl) (v := -1) (by decide) ?_
    refine V_icmp_ne (pc := 10) hG (dk dd_X8_humOfRowTo 7 rfl) (tgt := 20) (by decide) (fun h10 => ?_) (fun h10 => ?_)
    refine V_iload_n (pc := 20) hG (dk dd_X8_humOfRowTo 13 rfl) rfl ?_
    refine V_aload_n (pc := 21) hG (dk dd_X8_humOfRowTo 14 rfl) rfl ?_
    refine V_getR (pc := 22) hG (dk dd_X8_humOfRowTo 15 rfl) fl_X8_27 sh_51 rfl ?_
    refine V_iload_n (pc := 25) hG (dk dd_X8_humOfRowTo 16 rfl) rfl ?_
    refine V_iald (pc := 26) hG (dk dd_X8_humOfRowTo 17 rfl) sh_57 hr ?_
    refine V_icmp_lt (pc := 27) hG (dk dd_X8_humOfRowTo 18 rfl) (tgt := 33) (by decide) (fun h27 => ?_) (fun h27 => ?_)
    refine V_iload_n (pc := 33) hG (dk dd_X8_humOfRowTo 21 rfl) rfl ?_
    refine V_istore_n (pc := 34) hG (dk dd_X8_humOfRowTo 22 rfl) (by decide) (lv' := [(0, _), (1, _), (2, _), (3, _)]) rfl ?_
    refine V_aload_n (pc := 35) hG (dk dd_X8_humOfRowTo 23 rfl) rfl ?_
    refine V_getR (pc := 36) hG (dk dd_X8_humOfRowTo 24 rfl) fl_X8_27 sh_51 rfl ?_
    refine V_iload_n (pc := 39) hG (dk dd_X8_humOfRowTo 25 rfl) rfl ?_
    refine V_iald (pc := 40) hG (dk dd_X8_humOfRowTo 26 rfl) sh_57 hr ?_
    refine V_istore (pc := 41) hG (dk dd_X8_humOfRowTo 27 rfl) (by decide) (lv' := [(0, _), (1, _), (2, _), (3, _), (4, _)]) rfl ?_
    rotate_left
    refine V_ldc (pc := 30) hG (dk dd_X8_humOfRowTo 19 rfl) kk_X8_44 ?_
    refine V_iretP (pc := 32) hG (dk dd_X8_humOfRowTo 20 rfl) hR (Pi.mk ?_)
    rotate_left
    refine V_aload_n (pc := 13) hG (dk dd_X8_humOfRowTo 8 rfl) rfl ?_
    refine V_getR (pc := 14) hG (dk dd_X8_humOfRowTo 9 rfl) fl_X8_27 sh_51 rfl ?_
    refine V_iload_n (pc := 17) hG (dk dd_X8_humOfRowTo 10 rfl) rfl ?_
    refine V_iald (pc := 18) hG (dk dd_X8_humOfRowTo 11 rfl) sh_57 hr ?_
    refine V_iretP (pc := 19) hG (dk dd_X8_humOfRowTo 12 rfl) hR (Pi.mk ?_)
    rotate_left
    refine V_ldc (pc := 5) hG (dk dd_X8_humOfRowTo 3 rfl) kk_X8_44 ?_
    refine V_iretP (pc := 7) hG (dk dd_X8_humOfRowTo 4 rfl) hR (Pi.mk ?_)
    rotate_left
    -- leaves: stop 43; return@32; return@19; return@7
    · rw [ed] at h27
      have hk0 : 0 ≤ k := by clear hG hR; grind
      obtain ⟨kk, hkk, rfl⟩ := nI_of (Int32.not_lt.mpr hk0)
      have hlt := (nI_ltI hkk (by omega)).mp h27
      have := back i kk i1 i3 rfl hlt ((ρ i).length - (kk + 1)) i i1 (by omega) rfl
      rw [show kk + 1 + ((ρ i).length - (kk + 1)) = (ρ i).length by omega] at this
      rw [ed]
      have e2 : vI x = vI (nI i) := by rw [i2]
      rw [e2] at this ⊢
      exact this
    · rw [ed] at h27
      exact ⟨rfl, Or.inl ⟨ρ i, i3, Or.inr (Or.inr ⟨h10, Int32.not_lt.mp h27, rfl⟩)⟩⟩
    · exact ⟨rfl, Or.inl ⟨ρ i, i3, Or.inl ⟨h10, ed⟩⟩⟩
    · exact absurd h2 hx1
/-- verdicts that there can be, as bits -/
def CanQ (α : Al) (D n c : Nat) (r : Int32) : Prop := ∃ b, b < 8 ∧ r = nI b ∧ ∀ v, v < 3 → (b.testBit v = true ↔ ∃ w, Hs α w ∧ w.length ≤ n ∧ verN α c (endN α D w) = v)
theorem CanQ.uniq {α : Al} {D n c : Nat} {r r' : Int32} (h : CanQ α D n c r) (h' : CanQ α D n c r') : r = r' := by
  obtain ⟨b, b1, b2, b3⟩ := h
  obtain ⟨d, d1, d2, d3⟩ := h'
  have e : ∀ v, v < 3 → b.testBit v = d.testBit v := fun v hv => by
    rw [Bool.eq_iff_iff, b3 v hv, d3 v hv]
  have : b = d := by
    apply Nat.eq_of_testBit_eq
    intro i
    by_cases hi : i < 3
    · exact e i hi
    · rw [Nat.testBit_lt_two_pow (Nat.lt_of_lt_of_le b1 (Nat.pow_le_pow_right (n := 2) (by decide) (show 3 ≤ i by omega))), Nat.testBit_lt_two_pow (Nat.lt_of_lt_of_le d1 (Nat.pow_le_pow_right (n := 2) (by decide) (show 3 ≤ i by omega)))]
  rw [b2, d2, this]
theorem q_or3 : ∀ b, b < 8 → ∀ v, v < 3 → b ||| 2 ^ v < 8 ∧ ∀ u, u < 3 → ((b ||| 2 ^ v).testBit u = true ↔ (b.testBit u = true ∨ u = v)) := by decide +kernel
theorem c_verdictsMet {μ : Mem} {α : Al} (hA : Abs (kac μ 15) α) (hv : Val α) {n N : Nat} {ρ : Nat → List Nat} {fr : Nat → Nat} (hB : BF μ α N ρ fr) (hF : Full α n N ρ) {x : Int32} {c : Nat} (hx : x = nI c) (hc : c < α 0 7) :
    CtP yX8_verdictsMet cX8_verdictsMet 4 (some .int) 4 [vR 51, vI x] μ (Pi (fun r μ' => μ' = μ ∧ CanQ α (α 0 3) n c r)) := by
  refine CtP.go RX8 rfl pn_X8 (Nat.le_of_ble_eq_true rfl) (fun C hG hR => ?_)
  have hN := hB.le
  have loop : ∀ k i b, i + k = N → b < 8 → (∀ v, v < 3 → (b.testBit v = true ↔ ∃ j, j < i ∧ verN α c (endN α (α 0 3) (ρ j)) = v)) → V C 4 [(0, vR 51), (1, vI x), (2, vI (nI b)), (3, vI (nI i))] [] μ := by
    intro k
    induction k with
    | zero =>
      intro i b hi hb hq
      refine V_iload_n (pc := 4) hG (dk dd_X8_verdictsMet 4 rfl) rfl ?_
      refine V_aload_n (pc := 5) hG (dk dd_X8_verdictsMet 5 rfl) rfl ?_
      refine V_getI (pc := 6) hG (dk dd_X8_verdictsMet 6 rfl) fl_X8_71 sh_51 rfl ?_
      refine V_icmp_ge (pc := 9) hG (dk dd_X8_verdictsMet 7 rfl) (tgt := 37) (by decide) (fun h9 => ?_) (fun h9 => ?_)
      refine V_iload_n (pc := 37) hG (dk dd_X8_verdictsMet 23 rfl) rfl ?_
      refine V_iretP (pc := 38) hG (dk dd_X8_verdictsMet 24 rfl) hR (Pi.mk ?_)
      rotate_left
      rotate_left
      -- leaves: return@38; stop 12
      · refine ⟨rfl, b, hb, rfl, fun v hv3 => ?_⟩
        rw [hq v hv3]
        constructor
        · rintro ⟨j, j1, j2⟩; exact ⟨ρ j, (hB.2.1 j (by omega)).1, hF.1 j (by omega), j2⟩
        · rintro ⟨w, w1, w2, w3⟩
          obtain ⟨j, j1, j2, _⟩ := hF.2 w w1 w2
          exact ⟨j, by omega, by rw [j2]; exact w3⟩
      · exfalso; rw [hB.1] at h9; have := nle_i h9 (by omega) (by omega); omega
    | succ k ih =>
      intro i b hi hb hq
      have hr : vp_in (nI i) 256 := vp_in_nI (by omega) (by decide)
      have em : μ 54 (nI i).toNatClampNeg = nI (endN α (α 0 3) (ρ i)) := by rw [nI_clamp (by omega)]; exact (hB.2.1 i (by omega)).2.1
      have hE := endN_lt hv hv.D (hB.2.1 i (by omega)).1
      have hv3 := verN_lt α c (endN α (α 0 3) (ρ i))
      obtain ⟨o1, o2⟩ := q_or3 b hb _ hv3
      have hI := ih (i + 1) _ (by omega) o1 (fun v hv => by
        rw [o2 v hv, hq v hv]
        constructor
        · rintro (⟨j, j1, j2⟩ | j2)
          · exact ⟨j, by omega, j2⟩
          · exact ⟨i, by omega, j2.symm⟩
        · rintro ⟨j, j1, j2⟩
          by_cases e : j = i
          · subst e; exact Or.inr j2.symm
          · exact Or.inl ⟨j, by omega, j2⟩)
      rw [nI_succ, ← q_or b (by omega) _ (by omega)] at hI
      refine V_iload_n (pc := 4) hG (dk dd_X8_verdictsMet 4 rfl) rfl ?_
      refine V_aload_n (pc := 5) hG (dk dd_X8_verdictsMet 5 rfl) rfl ?_
      refine V_getI (pc := 6) hG (dk dd_X8_verdictsMet 6 rfl) fl_X8_71 sh_51 rfl ?_
      refine V_icmp_ge (pc := 9) hG (dk dd_X8_verdictsMet 7 rfl) (tgt := 37) (by decide) (fun h9 => ?_) (fun h9 => ?_)
      rotate_left
      refine V_iload_n (pc := 12) hG (dk dd_X8_verdictsMet 8 rfl) rfl ?_
      refine V_iconst (pc := 13) hG (dk dd_X8_verdictsMet 9 rfl) (v := 1) (by decide) ?_
      refine V_aload_n (pc := 14) hG (dk dd_X8_verdictsMet 10 rfl) rfl ?_
      refine V_getR (pc := 15) hG (dk dd_X8_verdictsMet 11 rfl) fl_X8_30 sh_51 rfl ?_
      refine V_iload_n (pc := 18) hG (dk dd_X8_verdictsMet 12 rfl) rfl ?_
      refine V_aload_n (pc := 19) hG (dk dd_X8_verdictsMet 13 rfl) rfl ?_
      refine V_getR (pc := 20) hG (dk dd_X8_verdictsMet 14 rfl) fl_X8_18 sh_51 rfl ?_
      refine V_iload_n (pc := 23) hG (dk dd_X8_verdictsMet 15 rfl) rfl ?_
      refine V_iald (pc := 24) hG (dk dd_X8_verdictsMet 16 rfl) sh_54 hr ?_
      refine V_callVi (pc := 25) hG (dk dd_X8_verdictsMet 17 rfl) ml_X8_78 mo_X2_verdict sh_15 rfl (c_verdict co_now hA hv hx hc em hE) (by decide) (by decide) rfl rfl rfl ?_
      refine V_ishl (pc := 28) hG (dk dd_X8_verdictsMet 18 rfl) ?_
      refine V_ior (pc := 29) hG (dk dd_X8_verdictsMet 19 rfl) ?_
      refine V_istore_n (pc := 30) hG (dk dd_X8_verdictsMet 20 rfl) (by decide) (lv' := [(0, _), (1, _), (2, _), (3, _)]) rfl ?_
      refine V_iinc (pc := 31) hG (dk dd_X8_verdictsMet 21 rfl) rfl (v := _ + 1) rfl (by decide) (lv' := [(0, _), (1, _), (2, _), (3, _)]) rfl ?_
      refine V_goto (pc := 34) hG (dk dd_X8_verdictsMet 22 rfl) (tgt := 4) (by decide) ?_
      rotate_left
      -- leaves: stop 37; stop 4
      · exfalso; rw [hB.1] at h9; have := le_i h9 (by omega) (by omega); omega
      · exact hI
  refine V_iconst (pc := 0) hG (dk dd_X8_verdictsMet 0 rfl) (v := 0) (by decide) ?_
  refine V_istore_n (pc := 1) hG (dk dd_X8_verdictsMet 1 rfl) (by decide) (lv' := [(0, _), (1, _), (2, _)]) rfl ?_
  refine V_iconst (pc := 2) hG (dk dd_X8_verdictsMet 2 rfl) (v := 0) (by decide) ?_
  refine V_istore_n (pc := 3) hG (dk dd_X8_verdictsMet 3 rfl) (by decide) (lv' := [(0, _), (1, _), (2, _), (3, _)]) rfl ?_
  rotate_left
  -- leaves: stop 4
  · exact loop N 0 0 (by omega) (by decide) (fun v _ => by rw [Nat.zero_testBit]; exact ⟨fun q => (by cases q), fun ⟨j, j1, _⟩ => absurd j1 (Nat.not_lt_zero j)⟩)
end
section
/-! ===== Orders ===== -/
def frN (α : Al) (D : Nat) : List Nat → Nat
  | [] => 0
  | c :: p => (if verN α c D = 1 then 1 else 0) + frN α (heaN α c D) p
def guN (α : Al) (D : Nat) : List Nat → Nat
  | [] => 0
  | c :: p => (if verN α c D = 2 then 1 else 0) + guN α (heaN α c D) p
def dhN (α : Al) (D : Nat) (p : List Nat) : Nat := p.foldl (fun d c => heaN α c d) D
theorem frN_sn (α : Al) : ∀ (p : List Nat) (D c : Nat), frN α D (p ++ [c]) = frN α D p + (if verN α c (dhN α D p) = 1 then 1 else 0)
  | [], D, c => by show _ + 0 = 0 + _; rw [Nat.add_zero, Nat.zero_add]; rfl
  | b :: p, D, c => by show _ + frN α (heaN α b D) (p ++ [c]) = _; rw [frN_sn α p]; show _ = (_ + frN α (heaN α b D) p) + _; rw [Nat.add_assoc]; rfl
theorem guN_sn (α : Al) : ∀ (p : List Nat) (D c : Nat), guN α D (p ++ [c]) = guN α D p + (if verN α c (dhN α D p) = 2 then 1 else 0)
  | [], D, c => by show _ + 0 = 0 + _; rw [Nat.add_zero, Nat.zero_add]; rfl
  | b :: p, D, c => by show _ + guN α (heaN α b D) (p ++ [c]) = _; rw [guN_sn α p]; show _ = (_ + guN α (heaN α b D) p) + _; rw [Nat.add_assoc]; rfl
theorem dhN_sn (α : Al) (p : List Nat) (D c : Nat) : dhN α D (p ++ [c]) = heaN α c (dhN α D p) := by unfold dhN; rw [List.foldl_append]; rfl
theorem frN_le (α : Al) : ∀ (p : List Nat) (D : Nat), frN α D p ≤ p.length
  | [], _ => Nat.le_refl _
  | c :: p, D => by have := frN_le α p (heaN α c D); show _ + frN α (heaN α c D) p ≤ p.length + 1; split <;> omega
theorem guN_le (α : Al) : ∀ (p : List Nat) (D : Nat), guN α D p ≤ p.length
  | [], _ => Nat.le_refl _
  | c :: p, D => by have := guN_le α p (heaN α c D); show _ + guN α (heaN α c D) p ≤ p.length + 1; split <;> omega
/-- the better one, of two the earlier -/
def betO (α : Al) (D : Nat) (s : Option (List Nat)) (p : List Nat) : Option (List Nat) := match s with
  | none => some p
  | some q => if frN α D q < frN α D p ∨ (frN α D p = frN α D q ∧ guN α D p < guN α D q) then some p else some q
def bestL (α : Al) (D : Nat) (L : List (List Nat)) : Option (List Nat) := L.foldl (betO α D) none
theorem bestL_sn (α : Al) (D : Nat) (L : List (List Nat)) (p : List Nat) : bestL α D (L ++ [p]) = betO α D (bestL α D L) p := by unfold bestL; rw [List.foldl_append]; rfl
def MxQ (S : Nat → Prop) (bot v : Int32) : Prop := (v = bot ∧ ∀ x, ¬ S x) ∨ (∃ x, S x ∧ v = nI x ∧ ∀ y, S y → y ≤ x)
/-- how many are free by the orders of L that begin with c -/
def ByF (α : Al) (D : Nat) (L : List (List Nat)) (c x : Nat) : Prop := ∃ p, p ∈ L ∧ p.head? = some c ∧ x = frN α D p
def BstQ (α : Al) (n : Nat) (q : Option (List Nat)) (f g bot : Int32) (b : Nat → Int32) : Prop := match q with
  | none => f = bot
  | some q => q.length = n ∧ f = nI (frN α (α 0 3) q) ∧ g = nI (guN α (α 0 3) q) ∧ ∀ k, k < n → b k = nI (q.getD k 0)
def OrdS (μ : Mem) (α : Al) (n : Nat) (L : List (List Nat)) : Prop := μ 58 4 = nI n ∧ BstQ α n (bestL α (α 0 3) L) (μ 58 5) (μ 58 6) (-1) (μ 60) ∧ (∀ c, c < 5 → MxQ (ByF α (α 0 3) L c) (-1) (μ 61 c))
theorem MxQ.add {S S' : Nat → Prop} {v v' : Int32} {y : Nat} (h : MxQ S (-1) v) (hy : y ≤ 5) (hS : ∀ x, S' x ↔ (S x ∨ x = y)) (hv : v' = if v < nI y then nI y else v) (hb : ∀ x, S x → x ≤ 5) : MxQ S' (-1) v' := by
  rcases h with ⟨h1, h2⟩ | ⟨x, h1, h2, h3⟩
  · rw [h1, if_pos (by have : (0 : Int32) ≤ nI y := nI_pos' (by omega); clear hv h1; grind)] at hv
    exact Or.inr ⟨y, (hS y).mpr (Or.inr rfl), hv, fun z hz => ((hS z).mp hz).elim (fun q => absurd q (h2 z)) (fun q => by omega)⟩
  · have hx := hb x h1
    rw [h2] at hv
    by_cases q : x < y
    · rw [if_pos ((nI_ltI (by omega) (by omega)).mpr q)] at hv
      exact Or.inr ⟨y, (hS y).mpr (Or.inr rfl), hv, fun z hz => ((hS z).mp hz).elim (fun w => by have := h3 z w; omega) (fun w => by omega)⟩
    · rw [if_neg (fun z => q ((nI_ltI (by omega) (by omega)).mp z))] at hv
      exact Or.inr ⟨x, (hS x).mpr (Or.inl h1), hv, fun z hz => ((hS z).mp hz).elim (h3 z) (fun w => by omega)⟩
theorem c_compare {μ : Mem} {α : Al} {n : Nat} {L : List (List Nat)} {p : List Nat} (hO : OrdS μ α n L) (hn : n ≤ 5) (hp : p.length = n) (hL : ∀ q, q ∈ L → q.length = n) (hc : ∀ c, c ∈ p → c < 5) (ht : ∀ k, k < n → μ 59 k = nI (p.getD k 0)) {x y : Int32} (hx : x = nI (frN α (α 0 3) p)) (hy : y = nI (guN α (α 0 3) p)) :
    CtP yX3_compare cX3_compare 3 none 1 [vR 58, vI x, vI y] μ (Pv (fun μ' => OrdS μ' α n (L ++ [p]) ∧ ∀ a, a ≠ 58 → a ≠ 60 → a ≠ 61 → μ' a = μ a)) := by
  refine CtP.go RX3 rfl pn_X3 (Nat.le_of_ble_eq_true rfl) (fun C hG hR => ?_)
  obtain ⟨o1, o2, o3⟩ := hO
  have hf5 := frN_le α p (α 0 3)
  have hg5 := guN_le α p (α 0 3)
  subst hx; subst hy
  have fin : ∀ μ1 : Mem, (∀ a, a ≠ 61 → μ1 a = μ a) → (∀ c, c < 5 → MxQ (ByF α (α 0 3) (L ++ [p]) c) (-1) (μ1 61 c)) → V C 33 [(0, vR 58), (1, vI (nI (frN α (α 0 3) p))), (2, vI (nI (guN α (α 0 3) p)))] [] μ1 := by
    intro μ1 f1 f2
    have e58 : μ1 58 = μ 58 := f1 58 (by decide)
    have e59 : μ1 59 = μ 59 := f1 59 (by decide)
    have e60 : μ1 60 = μ 60 := f1 60 (by decide)
    have take : (bestL α (α 0 3) (L ++ [p]) = some p) → V C 57 [(0, vR 58), (1, vI (nI (frN α (α 0 3) p))), (2, vI (nI (guN α (α 0 3) p)))] [] μ1 := by
      intro hb
      have cn : ((nI n).toNatClampNeg) = n := nI_clamp (by omega)
      refine V_aload_n (pc := 57) hG (dk dd_X3_compare 31 rfl) rfl ?_
      refine V_iload_n (pc := 58) hG (dk dd_X3_compare 32 rfl) rfl ?_
      refine V_putI (pc := 59) hG (dk dd_X3_compare 33 rfl) fl_X3_40 sh_58 rfl rfl ?_
      refine V_aload_n (pc := 62) hG (dk dd_X3_compare 34 rfl) rfl ?_
      refine V_iload_n (pc := 63) hG (dk dd_X3_compare 35 rfl) rfl ?_
      refine V_putI (pc := 64) hG (dk dd_X3_compare 36 rfl) fl_X3_43 sh_58 rfl rfl ?_
      refine V_aload_n (pc := 67) hG (dk dd_X3_compare 37 rfl) rfl ?_
      refine V_getR (pc := 68) hG (dk dd_X3_compare 38 rfl) fl_X3_9 sh_58 rfl ?_
      refine V_iconst (pc := 71) hG (dk dd_X3_compare 39 rfl) (v := 0) (by decide) ?_
      refine V_aload_n (pc := 72) hG (dk dd_X3_compare 40 rfl) rfl ?_
      refine V_getR (pc := 73) hG (dk dd_X3_compare 41 rfl) fl_X3_15 sh_58 rfl ?_
      refine V_iconst (pc := 76) hG (dk dd_X3_compare 42 rfl) (v := 0) (by decide) ?_
      refine V_aload_n (pc := 77) hG (dk dd_X3_compare 43 rfl) rfl ?_
      refine V_getI (pc := 78) hG (dk dd_X3_compare 44 rfl) fl_X3_36 sh_58 rfl ?_
      -- arraycopy
      refine V_acopy (pc := 81) hG (dk dd_X3_compare 45 rfl) ml_X3_78 sh_59 sh_60 (by decide) (by decide) ?_ ?_ ?_ rfl ?_
      rotate_left
      rotate_left
      rotate_left
      refine V_vretP (pc := 84) hG (dk dd_X3_compare 46 rfl) hR (Pv.mk ?_)
      rotate_left
      -- leaves: arraycopy@81 side 0; arraycopy@81 side 1; arraycopy@81 side 2; return@84
      · rw [setc_s, setc_s, pk_un (by decide), pk_un (by decide), e58, o1]; exact nI_pos (by omega)
      · rw [setc_s, setc_s, pk_un (by decide), pk_un (by decide), e58, o1, cn]; show 0 + n ≤ 5; omega
      · rw [setc_s, setc_s, pk_un (by decide), pk_un (by decide), e58, o1, cn]; show 0 + n ≤ 5; omega
      · have e58' : ∀ g : Nat → Int32, setc (setc (setc μ1 58 (upd (μ1 58) 5 (nI (frN α (α 0 3) p)))) 58 (upd (setc μ1 58 (upd (μ1 58) 5 (nI (frN α (α 0 3) p))) 58) 6 (nI (guN α (α 0 3) p)))) 60 g 58 = upd (upd (μ 58) 5 (nI (frN α (α 0 3) p))) 6 (nI (guN α (α 0 3) p)) := fun g => by rw [setc_n (by decide), setc_s, setc_s, e58]
        refine ⟨⟨?_, ?_, fun c hc5 => ?_⟩, fun a h1 h2 h3 => by rw [setc_n h2, setc_n h1, setc_n h1, f1 a h3]⟩
        · rw [e58', pk_un (by decide), pk_un (by decide)]; exact o1
        · rw [hb]
          refine ⟨hp, ?_, ?_, fun k hk => ?_⟩
          · rw [e58', pk_un (by decide), pk_us]
          · rw [e58', pk_us]
          · rw [setc_s]
            simp only [setc_s, setc_n (show (58 : Nat) ≠ 60 by decide), setc_n (show (59 : Nat) ≠ 58 by decide), setc_n (show (60 : Nat) ≠ 58 by decide)]
            rw [pk_un (by decide), pk_un (by decide), e58, o1, cn, pk_cpy_in (by show 0 ≤ k; omega) (by show k < 0 + n; omega), e59]
            show μ 59 (0 + (k - 0)) = _
            rw [Nat.zero_add, Nat.sub_zero]
            exact ht k hk
        · rw [setc_n (by decide), setc_n (by decide), setc_n (by decide)]; exact f2 c hc5
    have stay : (bestL α (α 0 3) (L ++ [p]) = bestL α (α 0 3) L) → V C 84 [(0, vR 58), (1, vI (nI (frN α (α 0 3) p))), (2, vI (nI (guN α (α 0 3) p)))] [] μ1 := by
      intro hb
      refine V_vretP (pc := 84) hG (dk dd_X3_compare 46 rfl) hR (Pv.mk ?_)
      rotate_left
      -- leaves: return@84
      · exact ⟨⟨by rw [e58]; exact o1, by rw [hb, e58, e60]; exact o2, f2⟩, fun a h1 h2 h3 => f1 a h3⟩
    have hbs := bestL_sn α (α 0 3) L p
    refine V_iload_n (pc := 33) hG (dk dd_X3_compare 19 rfl) rfl ?_
    refine V_aload_n (pc := 34) hG (dk dd_X3_compare 20 rfl) rfl ?_
    refine V_getI (pc := 35) hG (dk dd_X3_compare 21 rfl) fl_X3_40 sh_58 rfl ?_
    refine V_icmp_gt (pc := 38) hG (dk dd_X3_compare 22 rfl) (tgt := 57) (by decide) (fun h38 => ?_) (fun h38 => ?_)
    rotate_left
    refine V_iload_n (pc := 41) hG (dk dd_X3_compare 23 rfl) rfl ?_
    refine V_aload_n (pc := 42) hG (dk dd_X3_compare 24 rfl) rfl ?_
    refine V_getI (pc := 43) hG (dk dd_X3_compare 25 rfl) fl_X3_40 sh_58 rfl ?_
    refine V_icmp_ne (pc := 46) hG (dk dd_X3_compare 26 rfl) (tgt := 84) (by decide) (fun h46 => ?_) (fun h46 => ?_)
    rotate_left
    refine V_iload_n (pc := 49) hG (dk dd_X3_compare 27 rfl) rfl ?_
    refine V_aload_n (pc := 50) hG (dk dd_X3_compare 28 rfl) rfl ?_
    refine V_getI (pc := 51) hG (dk dd_X3_compare 29 rfl) fl_X3_43 sh_58 rfl ?_
    refine V_icmp_ge (pc := 54) hG (dk dd_X3_compare 30 rfl) (tgt := 84) (by decide) (fun h54 => ?_) (fun h54 => ?_)
    rotate_left
    rotate_left
    -- leaves: stop 57; stop 84; stop 84; stop 57
    all_goals (rw [e58] at *; cases hq : bestL α (α 0 3) L with | none => ?_ | some q => ?_) <;> rw [hq] at o2 hbs
    · exact take (by rw [hbs]; rfl)
    · obtain ⟨q0, q1, q2, _⟩ := o2
      rw [q1] at h38
      exact take (by rw [hbs]; exact if_pos (Or.inl ((nI_ltI (by have := frN_le α q (α 0 3); omega) (by omega)).mp h38)))
    · have o2 : μ 58 5 = -1 := o2
      rw [o2] at h38; exact absurd (by have : (0 : Int32) ≤ nI (frN α (α 0 3) p) := nI_pos' (by omega); clear hG hR; grind) h38
    · obtain ⟨q0, q1, q2, _⟩ := o2
      have hq5 := frN_le α q (α 0 3)
      rw [q1] at h38 h46
      exact stay (by rw [hbs, hq]; exact if_neg (fun z => z.elim (fun w => h38 ((nI_ltI (by omega) (by omega)).mpr w)) (fun w => h46 (by rw [w.1]))))
    · have o2 : μ 58 5 = -1 := o2
      rw [o2] at h38; exact absurd (by have : (0 : Int32) ≤ nI (frN α (α 0 3) p) := nI_pos' (by omega); clear hG hR; grind) h38
    · obtain ⟨q0, q1, q2, _⟩ := o2
      have hq5 := frN_le α q (α 0 3)
      have hqg := guN_le α q (α 0 3)
      rw [q1] at h38; rw [q2] at h54
      exact stay (by rw [hbs, hq]; exact if_neg (fun z => z.elim (fun w => h38 ((nI_ltI (by omega) (by omega)).mpr w)) (fun w => by have := le_i h54 (by omega) (by omega); omega)))
    · have o2 : μ 58 5 = -1 := o2
      rw [o2] at h38; exact absurd (by have : (0 : Int32) ≤ nI (frN α (α 0 3) p) := nI_pos' (by omega); clear hG hR; grind) h38
    · obtain ⟨q0, q1, q2, _⟩ := o2
      have hq5 := frN_le α q (α 0 3)
      have hqg := guN_le α q (α 0 3)
      rw [q1] at h46; rw [q2] at h54
      exact take (by rw [hbs]; exact if_pos (Or.inr ⟨(nI_eq (by omega) (by omega)).mp h46, nle_i h54 (by omega) (by omega)⟩))
  by_cases h0 : n = 0
  · have hI := fin μ (fun _ _ => rfl) (fun c hc5 => by
      have hp0 : p = [] := List.length_eq_zero_iff.mp (hp.trans h0)
      have hall : ∀ x, ByF α (α 0 3) (L ++ [p]) c x ↔ ByF α (α 0 3) L c x := fun x => ⟨fun ⟨q, q1, q2, q3⟩ => (List.mem_append.mp q1).elim (fun z => ⟨q, z, q2, q3⟩) (fun z => by rw [List.mem_singleton.mp z, hp0] at q2; cases q2), fun ⟨q, q1, q2⟩ => ⟨q, List.mem_append_left _ q1, q2⟩⟩
      rcases o3 c hc5 with ⟨z1, z2⟩ | ⟨x, z1, z2, z3⟩
      · exact Or.inl ⟨z1, fun x hx => z2 x ((hall x).mp hx)⟩
      · exact Or.inr ⟨x, (hall x).mpr z1, z2, fun y hy => z3 y ((hall y).mp hy)⟩)
    refine V_aload_n (pc := 0) hG (dk dd_X3_compare 0 rfl) rfl ?_
    refine V_getI (pc := 1) hG (dk dd_X3_compare 1 rfl) fl_X3_36 sh_58 rfl ?_
    refine V_if_le (pc := 4) hG (dk dd_X3_compare 2 rfl) (tgt := 33) (by decide) (fun h4 => ?_) (fun h4 => ?_)
    rotate_left
    rotate_left
    -- leaves: stop 33; stop 7
    · exact hI
    · exfalso; rw [o1, h0] at h4; exact h4 (by decide)
  · obtain ⟨c, s, rfl⟩ : ∃ c s, p = c :: s := by
      cases p with
      | nil => exact absurd hp.symm h0
      | cons c s => exact ⟨c, s, rfl⟩
    have hc5 := hc c List.mem_cons_self
    have e0 : μ 59 (0 : Int32).toNatClampNeg = nI c := ht 0 (by omega)
    have hr0 : vp_in (0 : Int32) 5 := vp_in_nI (n := 0) (by decide) (by decide)
    have hr1 : vp_in (μ 59 (0 : Int32).toNatClampNeg) 5 := in_nI e0 hc5 (by decide)
    have cc : (μ 59 (0 : Int32).toNatClampNeg).toNatClampNeg = c := nI_cl e0 (by omega)
    refine V_aload_n (pc := 0) hG (dk dd_X3_compare 0 rfl) rfl ?_
    refine V_getI (pc := 1) hG (dk dd_X3_compare 1 rfl) fl_X3_36 sh_58 rfl ?_
    refine V_if_le (pc := 4) hG (dk dd_X3_compare 2 rfl) (tgt := 33) (by decide) (fun h4 => ?_) (fun h4 => ?_)
    rotate_left
    refine V_aload_n (pc := 7) hG (dk dd_X3_compare 3 rfl) rfl ?_
    refine V_getR (pc := 8) hG (dk dd_X3_compare 4 rfl) fl_X3_18 sh_58 rfl ?_
    refine V_aload_n (pc := 11) hG (dk dd_X3_compare 5 rfl) rfl ?_
    refine V_getR (pc := 12) hG (dk dd_X3_compare 6 rfl) fl_X3_9 sh_58 rfl ?_
    refine V_iconst (pc := 15) hG (dk dd_X3_compare 7 rfl) (v := 0) (by decide) ?_
    refine V_iald (pc := 16) hG (dk dd_X3_compare 8 rfl) sh_59 hr0 ?_
    refine V_aload_n (pc := 17) hG (dk dd_X3_compare 9 rfl) rfl ?_
    refine V_getR (pc := 18) hG (dk dd_X3_compare 10 rfl) fl_X3_18 sh_58 rfl ?_
    refine V_aload_n (pc := 21) hG (dk dd_X3_compare 11 rfl) rfl ?_
    refine V_getR (pc := 22) hG (dk dd_X3_compare 12 rfl) fl_X3_9 sh_58 rfl ?_
    refine V_iconst (pc := 25) hG (dk dd_X3_compare 13 rfl) (v := 0) (by decide) ?_
    refine V_iald (pc := 26) hG (dk dd_X3_compare 14 rfl) sh_59 hr0 ?_
    refine V_iald (pc := 27) hG (dk dd_X3_compare 15 rfl) sh_61 hr1 ?_
    refine V_iload_n (pc := 28) hG (dk dd_X3_compare 16 rfl) rfl ?_
    refine V_mmax (pc := 29) hG (dk dd_X3_compare 17 rfl) ml_X3_73 rfl ?_
    refine V_iast (pc := 32) hG (dk dd_X3_compare 18 rfl) sh_61 hr1 ?_
    rotate_left
    -- leaves: stop 33; stop 33
    · exfalso; rw [o1] at h4; exact nI_nle (by omega) (by omega) h4
    · refine fin _ (fun a ha => setc_n ha) (fun c' hc' => ?_)
      rw [setc_s, cc]
      have hall : ∀ x, ByF α (α 0 3) (L ++ [c :: s]) c' x ↔ (ByF α (α 0 3) L c' x ∨ (c' = c ∧ x = frN α (α 0 3) (c :: s))) := by
        intro x
        constructor
        · rintro ⟨q, q1, q2, q3⟩
          rcases List.mem_append.mp q1 with z | z
          · exact Or.inl ⟨q, z, q2, q3⟩
          · rw [List.mem_singleton] at z; subst z
            have q2 : some c = some c' := q2
            exact Or.inr ⟨(Option.some.inj q2).symm, q3⟩
        · rintro (⟨q, q1, q2⟩ | ⟨q1, q2⟩)
          · exact ⟨q, List.mem_append_left _ q1, q2⟩
          · exact ⟨c :: s, List.mem_append_right _ (List.mem_singleton.mpr rfl), by rw [q1]; rfl, q2⟩
      have hb5 : ∀ x, ByF α (α 0 3) L c' x → x ≤ 5 := fun x ⟨q, q1, _, q3⟩ => by have := frN_le α q (α 0 3); have := hL q q1; omega
      by_cases e : c' = c
      · subst e
        rw [pk_us]
        exact (o3 c' hc').add (by omega) (fun x => (hall x).trans ⟨fun z => z.imp id (·.2), fun z => z.imp id (fun w => ⟨rfl, w⟩)⟩) rfl hb5
      · rw [pk_un e]
        rcases o3 c' hc' with ⟨z1, z2⟩ | ⟨x, z1, z2, z3⟩
        · exact Or.inl ⟨z1, fun x hx => ((hall x).mp hx).elim (z2 x) (fun w => e w.1)⟩
        · exact Or.inr ⟨x, (hall x).mpr (Or.inl z1), z2, fun y hy => ((hall y).mp hy).elim (z3 y) (fun w => absurd w.1 e)⟩
end
section
/-- all orders of the cases that are left, by numbers -/
def ordM (Cn : Nat) : Nat → Nat → List (List Nat)
  | 0, _ => [[]]
  | k + 1, left => (List.range Cn).flatMap (fun c => if left.testBit c then (ordM Cn k (clr left c)).map (c :: ·) else [])
theorem ordM_s (Cn k left : Nat) : ordM Cn (k + 1) left = (List.range Cn).flatMap (fun c => if left.testBit c then (ordM Cn k (clr left c)).map (c :: ·) else []) := rfl
theorem ordM_len (Cn : Nat) : ∀ k left, ∀ p ∈ ordM Cn k left, p.length = k ∧ ∀ c ∈ p, c < Cn
  | 0, _, p, h => by
    have h : p ∈ [[]] := h
    rw [List.mem_singleton] at h; subst h
    exact ⟨rfl, fun c hc => absurd hc List.not_mem_nil⟩
  | k + 1, left, p, h => by
    rw [ordM_s] at h
    obtain ⟨c, hc, hp⟩ := List.mem_flatMap.mp h
    have hc := List.mem_range.mp hc
    by_cases hb : left.testBit c = true
    · rw [if_pos hb] at hp
      obtain ⟨q, hq, rfl⟩ := List.mem_map.mp hp
      obtain ⟨h1, h2⟩ := ordM_len Cn k _ q hq
      exact ⟨by simp [h1], fun d hd => (List.mem_cons.mp hd).elim (fun e => by omega) (h2 d)⟩
    · rw [if_neg hb] at hp; exact absurd hp List.not_mem_nil
theorem q_clrB : ∀ l, l < 32 → ∀ c, c < 5 → l.testBit c = true → bitsN (clr l c) + 1 = bitsN l ∧ clr l c < 32 := by decide +kernel
theorem q_bz : ∀ l, l < 32 → bitsN l = 0 → l = 0 := by decide +kernel
theorem q_t1g {D K : Nat} (hD : D < 256) (hK : K < 8) : ((nI D >>> (nI K &&& 31)) &&& 1 = 0) ↔ D.testBit K = false := q_t1 hD hK
theorem dhN_lt {α : Al} (hv : Val α) : ∀ {p : List Nat} {D : Nat}, D < 2 ^ α 0 0 → (∀ c ∈ p, c < α 0 7) → dhN α D p < 2 ^ α 0 0
  | [], _, hD, _ => hD
  | c :: p, D, hD, h => dhN_lt hv (p := p) (heaN_lt hv (h c List.mem_cons_self) hD) (fun d hd => h d (List.mem_cons_of_mem _ hd))
theorem getD_ap {l : List Nat} {c j : Nat} (h : j < l.length) : (l ++ [c]).getD j 0 = l.getD j 0 := by
  rw [List.getD_eq_getElem?_getD, List.getD_eq_getElem?_getD, List.getElem?_append_left h]
theorem getD_la {l : List Nat} {c : Nat} : (l ++ [c]).getD l.length 0 = c := by
  rw [List.getD_eq_getElem?_getD, List.getElem?_append_right (Nat.le_refl _), Nat.sub_self]; rfl
set_option maxHeartbeats 1000000 in
theorem c_tryBehind {α : Al} (hv : Val α) {n : Nat} (hn : n ≤ 5) : ∀ (k : Nat) {μ : Mem} {L : List (List Nat)} {pre : List Nat} {left : Nat} {a b c d e : Int32}, Abs (kac μ 15) α → OrdS μ α n L → (∀ q, q ∈ L → q.length = n) → pre.length + k = n → (∀ c ∈ pre, c < α 0 7) → (∀ j, j < pre.length → μ 59 j = nI (pre.getD j 0)) → left < 32 → bitsN left = k →
    a = nI pre.length → b = nI left → c = nI (dhN α (α 0 3) pre) → d = nI (frN α (α 0 3) pre) → e = nI (guN α (α 0 3) pre) →
    CtP yX3_tryBehind cX3_tryBehind 8 none (4 + k) [vR 58, vI a, vI b, vI c, vI d, vI e] μ (Pv (fun μ' => OrdS μ' α n (L ++ (ordM (α 0 7) k left).map (pre ++ ·)) ∧ (∀ j, j < pre.length → μ' 59 j = μ 59 j) ∧ ∀ q, (q < 58 ∨ 61 < q) → μ' q = μ q)) := by
  intro k
  induction k with
  | zero =>
    intro μ L pre left a b c d e hA hO hL hp hc ht hl hk ha hb hcD hd he
    refine CtP.go RX3 rfl pn_X3 (Nat.le_of_ble_eq_true rfl) (fun C hG hR => ?_)
    have h0 := q_bz left hl hk
    have hC5 := hv.C
    refine V_iload_n (pc := 0) hG (dk dd_X3_tryBehind 0 rfl) rfl ?_
    refine V_if_eq (pc := 1) hG (dk dd_X3_tryBehind 1 rfl) (tgt := 9) (by decide) (fun h1 => ?_) (fun h1 => ?_)
    refine V_aload_n (pc := 9) hG (dk dd_X3_tryBehind 5 rfl) rfl ?_
    refine V_iload (pc := 10) hG (dk dd_X3_tryBehind 6 rfl) rfl ?_
    refine V_iload (pc := 12) hG (dk dd_X3_tryBehind 7 rfl) rfl ?_
    refine V_callVvp (pc := 14) hG (dk dd_X3_tryBehind 8 rfl) ml_X3_59 mo_X3_compare sh_58 rfl (c_compare hO hn (by omega) hL (fun q hq => by have := hc q hq; omega) (fun j hj => ht j (by omega)) hd he) (by omega) (by decide) rfl rfl rfl (fun m14 p14 => ?_)
    refine V_vretP (pc := 17) hG (dk dd_X3_tryBehind 9 rfl) hR (Pv.mk ?_)
    rotate_left
    rotate_left
    -- leaves: return@17; stop 4
    · obtain ⟨q1, q2⟩ := p14
      refine ⟨?_, fun j hj => by rw [q2 59 (by decide) (by decide) (by decide)], fun q hq => q2 q (by omega) (by omega) (by omega)⟩
      show OrdS m14 α n (L ++ [pre ++ []])
      rw [List.append_nil]; exact q1
    · exact absurd (by rw [hb, h0]; rfl) h1
  | succ k ih =>
    intro μ L pre left a b c d e hA hO hL hp hc ht hl hk ha hb hcD hd he
    refine CtP.go RX3 rfl pn_X3 (Nat.le_of_ble_eq_true rfl) (fun C hG hR => ?_)
    have hC5 := hv.C
    have e7 : μ 15 7 = nI (α 0 7) := hA.1 7 (by decide)
    have hne : ¬ b = 0 := by
      rw [hb]; intro q
      have : left = 0 := (nI_eq (b := 0) (by omega) (by decide)).mp q
      rw [this, bits0] at hk; omega
    subst ha hb hcD hd he
    have hDl := dhN_lt hv (p := pre) hv.D hc
    have loop : ∀ m i μ1, i + m = α 0 7 → OrdS μ1 α n (L ++ ((List.range i).flatMap (fun c => if left.testBit c then (ordM (α 0 7) k (clr left c)).map (c :: ·) else [])).map (pre ++ ·)) → (∀ j, j < pre.length → μ1 59 j = μ 59 j) → (∀ q, (q < 58 ∨ 61 < q) → μ1 q = μ q) →
        V C 21 [(0, vR 58), (1, vI (nI pre.length)), (2, vI (nI left)), (3, vI (nI (dhN α (α 0 3) pre))), (4, vI (nI (frN α (α 0 3) pre))), (5, vI (nI (guN α (α 0 3) pre))), (6, vI (nI i))] [] μ1 := by
      intro m
      induction m with
      | zero =>
        intro i μ1 hi f1 f2 f3
        refine V_iload (pc := 21) hG (dk dd_X3_tryBehind 12 rfl) rfl ?_
        refine V_aload_n (pc := 23) hG (dk dd_X3_tryBehind 13 rfl) rfl ?_
        refine V_getR (pc := 24) hG (dk dd_X3_tryBehind 14 rfl) fl_X3_21 sh_58 rfl ?_
        refine V_getI (pc := 27) hG (dk dd_X3_tryBehind 15 rfl) fl_X3_63 sh_15 rfl ?_
        refine V_icmp_ge (pc := 30) hG (dk dd_X3_tryBehind 16 rfl) (tgt := 121) (by decide) (fun h30 => ?_) (fun h30 => ?_)
        refine V_vretP (pc := 121) hG (dk dd_X3_tryBehind 69 rfl) hR (Pv.mk ?_)
        rotate_left
        rotate_left
        -- leaves: return@121; stop 33
        · exact ⟨by rw [ordM_s, show α 0 7 = i by omega]; exact (by rw [show α 0 7 = i by omega] at f1; exact f1), f2, f3⟩
        · exfalso; rw [f3 15 (by omega), e7] at h30; have := nle_i h30 (by omega) (by omega); omega
      | succ m ihm =>
        intro i μ1 hi f1 f2 f3
        have hi7 : i < α 0 7 := by omega
        have hA1 : Abs (kac μ1 15) α := hA.off (fun x hx => f3 _ (by omega))
        have hI := fun μ2 z => ihm (i + 1) μ2 (by omega) z
        rw [List.range_succ, List.flatMap_append, List.map_append, ← List.append_assoc] at hI
        simp only [List.flatMap_singleton] at hI
        rw [nI_succ] at hI
        have nx : ∀ μ2, V C 21 [(0, vR 58), (1, vI (nI pre.length)), (2, vI (nI left)), (3, vI (nI (dhN α (α 0 3) pre))), (4, vI (nI (frN α (α 0 3) pre))), (5, vI (nI (guN α (α 0 3) pre))), (6, vI (nI i + 1))] [] μ2 → V C 115 [(0, vR 58), (1, vI (nI pre.length)), (2, vI (nI left)), (3, vI (nI (dhN α (α 0 3) pre))), (4, vI (nI (frN α (α 0 3) pre))), (5, vI (nI (guN α (α 0 3) pre))), (6, vI (nI i))] [] μ2 := by
          intro μ2 hq
          refine V_iinc (pc := 115) hG (dk dd_X3_tryBehind 67 rfl) rfl (v := _ + 1) rfl (by decide) (lv' := [(0, _), (1, _), (2, _), (3, _), (4, _), (5, _), (6, _)]) rfl ?_
          refine V_goto (pc := 118) hG (dk dd_X3_tryBehind 68 rfl) (tgt := 21) (by decide) ?_
          rotate_left
          -- leaves: stop 21
          · exact hq
        by_cases hbit : left.testBit i = true
        · rw [if_pos hbit] at hI
          obtain ⟨cb1, cb2⟩ := q_clrB left hl i (by omega) hbit
          have hlen : ∀ q, q ∈ L ++ ((List.range i).flatMap (fun c => if left.testBit c then (ordM (α 0 7) k (clr left c)).map (c :: ·) else [])).map (pre ++ ·) → q.length = n := by
            intro q hq
            rcases List.mem_append.mp hq with z | z
            · exact hL q z
            · obtain ⟨s, hs, rfl⟩ := List.mem_map.mp z
              obtain ⟨c', hc', hs'⟩ := List.mem_flatMap.mp hs
              by_cases w : left.testBit c' = true
              · rw [if_pos w] at hs'
                obtain ⟨s', h1, rfl⟩ := List.mem_map.mp hs'
                rw [List.length_append, List.length_cons, (ordM_len _ _ _ s' h1).1]; omega
              · rw [if_neg w] at hs'; exact absurd hs' List.not_mem_nil
          have hr : vp_in (nI pre.length) 5 := vp_in_nI (by omega) (by decide)
          have cp : (nI pre.length).toNatClampNeg = pre.length := nI_clamp (by omega)
          have el : nI left &&& (bI (nI i) ^^^ (-1)) = nI (clr left i) := q_clr left (by omega) i (by omega)
          have ev3 := verN_lt α i (dhN α (α 0 3) pre)
          have fr5 := frN_le α pre (α 0 3)
          have gu5 := guN_le α pre (α 0 3)
          have hA2 : Abs (kac (setc μ1 59 (upd (μ1 59) pre.length (nI i))) 15) α := hA1.off (fun x hx => setc_n (by omega))
          have recu : ∀ (x y : Int32), x = nI (frN α (α 0 3) (pre ++ [i])) → y = nI (guN α (α 0 3) (pre ++ [i])) → CtP yX3_tryBehind cX3_tryBehind 8 none (4 + k) [vR 58, vI (nI pre.length + 1), vI (nI left &&& (bI (nI i) ^^^ (-1))), vI (nI (heaN α i (dhN α (α 0 3) pre))), vI x, vI y] (setc μ1 59 (upd (μ1 59) pre.length (nI i))) (Pv (fun μ' => OrdS μ' α n ((L ++ ((List.range i).flatMap (fun c => if left.testBit c then (ordM (α 0 7) k (clr left c)).map (c :: ·) else [])).map (pre ++ ·)) ++ (ordM (α 0 7) k (clr left i)).map ((pre ++ [i]) ++ ·)) ∧ (∀ j, j < (pre ++ [i]).length → μ' 59 j = setc μ1 59 (upd (μ1 59) pre.length (nI i)) 59 j) ∧ ∀ q, (q < 58 ∨ 61 < q) → μ' q = setc μ1 59 (upd (μ1 59) pre.length (nI i)) q)) := by
            intro x y hx hy
            refine ih hA2 ?_ hlen (by simp; omega) (fun q hq => (List.mem_append.mp hq).elim (hc q) (fun z => by rw [List.mem_singleton.mp z]; exact hi7)) (fun j hj => ?_) cb2 (by omega) ?_ el (by rw [dhN_sn]) hx hy
            · obtain ⟨z1, z2, z3⟩ := f1
              exact ⟨by rw [setc_n (by decide)]; exact z1, by rw [setc_n (by decide), setc_n (by decide)]; exact z2, by rw [setc_n (by decide)]; exact z3⟩
            · rw [setc_s]
              by_cases w : j = pre.length
              · subst w; rw [pk_us, getD_la]
              · rw [List.length_append, List.length_singleton] at hj
                rw [pk_un w, f2 j (by omega), getD_ap (by omega)]; exact ht j (by omega)
            · rw [nI_1, List.length_append]; rfl
          have done : ∀ m2 : Mem, OrdS m2 α n ((L ++ ((List.range i).flatMap (fun c => if left.testBit c then (ordM (α 0 7) k (clr left c)).map (c :: ·) else [])).map (pre ++ ·)) ++ (ordM (α 0 7) k (clr left i)).map ((pre ++ [i]) ++ ·)) → (∀ j, j < (pre ++ [i]).length → m2 59 j = setc μ1 59 (upd (μ1 59) pre.length (nI i)) 59 j) → (∀ q, (q < 58 ∨ 61 < q) → m2 q = setc μ1 59 (upd (μ1 59) pre.length (nI i)) q) → V C 115 [(0, vR 58), (1, vI (nI pre.length)), (2, vI (nI left)), (3, vI (nI (dhN α (α 0 3) pre))), (4, vI (nI (frN α (α 0 3) pre))), (5, vI (nI (guN α (α 0 3) pre))), (6, vI (nI i))] [] m2 := by
            intro m2 g1 g2 g3
            refine nx m2 (hI m2 ?_ (fun j hj => ?_) (fun q hq => by rw [g3 q hq, setc_n (by omega)]; exact f3 q hq))
            · rw [List.map_map]
              have : ((fun s => pre ++ s) ∘ fun s => i :: s) = fun s => (pre ++ [i]) ++ s := by funext s; simp
              rw [this]; exact g1
            · rw [g2 j (by simp; omega), setc_s, pk_un (by omega)]; exact f2 j hj
          have hm2 : setc μ1 59 (upd (μ1 59) pre.length (nI i)) = setc μ1 59 (upd (μ1 59) (nI pre.length).toNatClampNeg (nI i)) := by rw [cp]
          rw [hm2] at recu hA2 done
          refine V_iload (pc := 21) hG (dk dd_X3_tryBehind 12 rfl) rfl ?_
          refine V_aload_n (pc := 23) hG (dk dd_X3_tryBehind 13 rfl) rfl ?_
          refine V_getR (pc := 24) hG (dk dd_X3_tryBehind 14 rfl) fl_X3_21 sh_58 rfl ?_
          refine V_getI (pc := 27) hG (dk dd_X3_tryBehind 15 rfl) fl_X3_63 sh_15 rfl ?_
          refine V_icmp_ge (pc := 30) hG (dk dd_X3_tryBehind 16 rfl) (tgt := 121) (by decide) (fun h30 => ?_) (fun h30 => ?_)
          rotate_left
          refine V_iload_n (pc := 33) hG (dk dd_X3_tryBehind 17 rfl) rfl ?_
          refine V_iload (pc := 34) hG (dk dd_X3_tryBehind 18 rfl) rfl ?_
          refine V_ishr (pc := 36) hG (dk dd_X3_tryBehind 19 rfl) ?_
          refine V_iconst (pc := 37) hG (dk dd_X3_tryBehind 20 rfl) (v := 1) (by decide) ?_
          refine V_iand (pc := 38) hG (dk dd_X3_tryBehind 21 rfl) ?_
          refine V_if_eq (pc := 39) hG (dk dd_X3_tryBehind 22 rfl) (tgt := 115) (by decide) (fun h39 => ?_) (fun h39 => ?_)
          rotate_left
          refine V_aload_n (pc := 42) hG (dk dd_X3_tryBehind 23 rfl) rfl ?_
          refine V_getR (pc := 43) hG (dk dd_X3_tryBehind 24 rfl) fl_X3_21 sh_58 rfl ?_
          refine V_iload (pc := 46) hG (dk dd_X3_tryBehind 25 rfl) rfl ?_
          refine V_iload_n (pc := 48) hG (dk dd_X3_tryBehind 26 rfl) rfl ?_
          refine V_callVi (pc := 49) hG (dk dd_X3_tryBehind 27 rfl) ml_X3_66 mo_X2_verdict sh_15 rfl (c_verdict co_now hA1 hv rfl hi7 rfl hDl) (by omega) (by decide) rfl rfl rfl ?_
          refine V_istore (pc := 52) hG (dk dd_X3_tryBehind 28 rfl) (by decide) (lv' := [(0, _), (1, _), (2, _), (3, _), (4, _), (5, _), (6, _), (7, _)]) rfl ?_
          refine V_aload_n (pc := 54) hG (dk dd_X3_tryBehind 29 rfl) rfl ?_
          refine V_getR (pc := 55) hG (dk dd_X3_tryBehind 30 rfl) fl_X3_9 sh_58 rfl ?_
          refine V_iload_n (pc := 58) hG (dk dd_X3_tryBehind 31 rfl) rfl ?_
          refine V_iload (pc := 59) hG (dk dd_X3_tryBehind 32 rfl) rfl ?_
          refine V_iast (pc := 61) hG (dk dd_X3_tryBehind 33 rfl) sh_59 hr ?_
          refine V_aload_n (pc := 62) hG (dk dd_X3_tryBehind 34 rfl) rfl ?_
          refine V_iload_n (pc := 63) hG (dk dd_X3_tryBehind 35 rfl) rfl ?_
          refine V_iconst (pc := 64) hG (dk dd_X3_tryBehind 36 rfl) (v := 1) (by decide) ?_
          refine V_iadd (pc := 65) hG (dk dd_X3_tryBehind 37 rfl) ?_
          refine V_iload_n (pc := 66) hG (dk dd_X3_tryBehind 38 rfl) rfl ?_
          refine V_iconst (pc := 67) hG (dk dd_X3_tryBehind 39 rfl) (v := 1) (by decide) ?_
          refine V_iload (pc := 68) hG (dk dd_X3_tryBehind 40 rfl) rfl ?_
          refine V_ishl (pc := 70) hG (dk dd_X3_tryBehind 41 rfl) ?_
          refine V_iconst (pc := 71) hG (dk dd_X3_tryBehind 42 rfl) (v := -1) (by decide) ?_
          refine V_ixor (pc := 72) hG (dk dd_X3_tryBehind 43 rfl) ?_
          refine V_iand (pc := 73) hG (dk dd_X3_tryBehind 44 rfl) ?_
          refine V_aload_n (pc := 74) hG (dk dd_X3_tryBehind 45 rfl) rfl ?_
          refine V_getR (pc := 75) hG (dk dd_X3_tryBehind 46 rfl) fl_X3_21 sh_58 rfl ?_
          refine V_iload (pc := 78) hG (dk dd_X3_tryBehind 47 rfl) rfl ?_
          refine V_iload_n (pc := 80) hG (dk dd_X3_tryBehind 48 rfl) rfl ?_
          refine V_callVi (pc := 81) hG (dk dd_X3_tryBehind 49 rfl) ml_X3_70 mo_X2_dreamHeard sh_15 rfl (c_dreamHeard co_now hA2 hv rfl hi7 rfl hDl) (by omega) (by decide) rfl rfl rfl ?_
          refine V_iload (pc := 84) hG (dk dd_X3_tryBehind 50 rfl) rfl ?_
          refine V_iload (pc := 86) hG (dk dd_X3_tryBehind 51 rfl) rfl ?_
          refine V_iconst (pc := 88) hG (dk dd_X3_tryBehind 52 rfl) (v := 1) (by decide) ?_
          refine V_icmp_ne (pc := 89) hG (dk dd_X3_tryBehind 53 rfl) (tgt := 96) (by decide) (fun h89 => ?_) (fun h89 => ?_)
          refine V_iconst (pc := 96) hG (dk dd_X3_tryBehind 56 rfl) (v := 0) (by decide) ?_
          refine V_iadd (pc := 97) hG (dk dd_X3_tryBehind 57 rfl) ?_
          refine V_iload (pc := 98) hG (dk dd_X3_tryBehind 58 rfl) rfl ?_
          refine V_iload (pc := 100) hG (dk dd_X3_tryBehind 59 rfl) rfl ?_
          refine V_iconst (pc := 102) hG (dk dd_X3_tryBehind 60 rfl) (v := 2) (by decide) ?_
          refine V_icmp_ne (pc := 103) hG (dk dd_X3_tryBehind 61 rfl) (tgt := 110) (by decide) (fun h103 => ?_) (fun h103 => ?_)
          refine V_iconst (pc := 110) hG (dk dd_X3_tryBehind 64 rfl) (v := 0) (by decide) ?_
          refine V_iadd (pc := 111) hG (dk dd_X3_tryBehind 65 rfl) ?_
          refine V_callVvp (pc := 112) hG (dk dd_X3_tryBehind 66 rfl) ml_X3_55 mo_X3_tryBehind sh_58 rfl (recu _ _ ?_ ?_) (by omega) (by decide) rfl rfl rfl (fun m112 p112 => ?_)
          rotate_left
          rotate_left
          refine V_keep [0, 1, 2, 3, 4, 5, 6] (lv' := [(0, _), (1, _), (2, _), (3, _), (4, _), (5, _), (6, _)]) rfl ?_
          rotate_left
          refine V_iconst (pc := 106) hG (dk dd_X3_tryBehind 62 rfl) (v := 1) (by decide) ?_
          refine V_goto (pc := 107) hG (dk dd_X3_tryBehind 63 rfl) (tgt := 111) (by decide) ?_
          refine V_iadd (pc := 111) hG (dk dd_X3_tryBehind 65 rfl) ?_
          refine V_callVvp (pc := 112) hG (dk dd_X3_tryBehind 66 rfl) ml_X3_55 mo_X3_tryBehind sh_58 rfl (recu _ _ ?_ ?_) (by omega) (by decide) rfl rfl rfl (fun m112 p112 => ?_)
          rotate_left
          rotate_left
          refine V_keep [0, 1, 2, 3, 4, 5, 6] (lv' := [(0, _), (1, _), (2, _), (3, _), (4, _), (5, _), (6, _)]) rfl ?_
          rotate_left
          refine V_iconst (pc := 92) hG (dk dd_X3_tryBehind 54 rfl) (v := 1) (by decide) ?_
          refine V_goto (pc := 93) hG (dk dd_X3_tryBehind 55 rfl) (tgt := 97) (by decide) ?_
          refine V_iadd (pc := 97) hG (dk dd_X3_tryBehind 57 rfl) ?_
          refine V_iload (pc := 98) hG (dk dd_X3_tryBehind 58 rfl) rfl ?_
          refine V_iload (pc := 100) hG (dk dd_X3_tryBehind 59 rfl) rfl ?_
          refine V_iconst (pc := 102) hG (dk dd_X3_tryBehind 60 rfl) (v := 2) (by decide) ?_
          refine V_icmp_ne (pc := 103) hG (dk dd_X3_tryBehind 61 rfl) (tgt := 110) (by decide) (fun h103 => ?_) (fun h103 => ?_)
          refine V_iconst (pc := 110) hG (dk dd_X3_tryBehind 64 rfl) (v := 0) (by decide) ?_
          refine V_iadd (pc := 111) hG (dk dd_X3_tryBehind 65 rfl) ?_
          refine V_callVvp (pc := 112) hG (dk dd_X3_tryBehind 66 rfl) ml_X3_55 mo_X3_tryBehind sh_58 rfl (recu _ _ ?_ ?_) (by omega) (by decide) rfl rfl rfl (fun m112 p112 => ?_)
          rotate_left
          rotate_left
          refine V_keep [0, 1, 2, 3, 4, 5, 6] (lv' := [(0, _), (1, _), (2, _), (3, _), (4, _), (5, _), (6, _)]) rfl ?_
          rotate_left
          refine V_iconst (pc := 106) hG (dk dd_X3_tryBehind 62 rfl) (v := 1) (by decide) ?_
          refine V_goto (pc := 107) hG (dk dd_X3_tryBehind 63 rfl) (tgt := 111) (by decide) ?_
          refine V_iadd (pc := 111) hG (dk dd_X3_tryBehind 65 rfl) ?_
          refine V_callVvp (pc := 112) hG (dk dd_X3_tryBehind 66 rfl) ml_X3_55 mo_X3_tryBehind sh_58 rfl (recu _ _ ?_ ?_) (by omega) (by decide) rfl rfl rfl (fun m112 p112 => ?_)
          rotate_left
          rotate_left
          refine V_keep [0, 1, 2, 3, 4, 5, 6] (lv' := [(0, _), (1, _), (2, _), (3, _), (4, _), (5, _), (6, _)]) rfl ?_
          rotate_left
          -- leaves: stop 121; stop 115; call tryBehind@112 0; call tryBehind@112 1; stop 115; call tryBehind@112 0; call tryBehind@112 1; stop 115; call tryBehind@112 0; call tryBehind@112 1; stop 115; call tryBehind@112 0; call tryBehind@112 1; stop 115
          · exfalso; rw [f3 15 (by omega), e7] at h30; have := le_i h30 (by omega) (by omega); omega
          · exact absurd ((q_t1 (by omega) (by omega)).mp h39) (by rw [hbit]; decide)
          · rw [frN_sn, if_neg (fun q => h89 (by rw [q]; rfl)), Nat.add_zero, Int32.add_zero]
          · rw [guN_sn, if_neg (fun q => h103 (by rw [q]; rfl)), Nat.add_zero, Int32.add_zero]
          · exact done m112 p112.1 p112.2.1 p112.2.2
          · rw [frN_sn, if_neg (fun q => h89 (by rw [q]; rfl)), Nat.add_zero, Int32.add_zero]
          · rw [guN_sn, if_pos ((nI_eq (b := 2) (by omega) (by decide)).mp h103), nI_succ]
          · exact done m112 p112.1 p112.2.1 p112.2.2
          · rw [frN_sn, if_pos ((nI_eq (b := 1) (by omega) (by decide)).mp h89), nI_succ]
          · rw [guN_sn, if_neg (fun q => h103 (by rw [q]; rfl)), Nat.add_zero, Int32.add_zero]
          · exact done m112 p112.1 p112.2.1 p112.2.2
          · rw [frN_sn, if_pos ((nI_eq (b := 1) (by omega) (by decide)).mp h89), nI_succ]
          · rw [guN_sn, if_pos ((nI_eq (b := 2) (by omega) (by decide)).mp h103), nI_succ]
          · exact done m112 p112.1 p112.2.1 p112.2.2
        · rw [if_neg hbit, List.map_nil, List.append_nil] at hI
          refine V_iload (pc := 21) hG (dk dd_X3_tryBehind 12 rfl) rfl ?_
          refine V_aload_n (pc := 23) hG (dk dd_X3_tryBehind 13 rfl) rfl ?_
          refine V_getR (pc := 24) hG (dk dd_X3_tryBehind 14 rfl) fl_X3_21 sh_58 rfl ?_
          refine V_getI (pc := 27) hG (dk dd_X3_tryBehind 15 rfl) fl_X3_63 sh_15 rfl ?_
          refine V_icmp_ge (pc := 30) hG (dk dd_X3_tryBehind 16 rfl) (tgt := 121) (by decide) (fun h30 => ?_) (fun h30 => ?_)
          rotate_left
          refine V_iload_n (pc := 33) hG (dk dd_X3_tryBehind 17 rfl) rfl ?_
          refine V_iload (pc := 34) hG (dk dd_X3_tryBehind 18 rfl) rfl ?_
          refine V_ishr (pc := 36) hG (dk dd_X3_tryBehind 19 rfl) ?_
          refine V_iconst (pc := 37) hG (dk dd_X3_tryBehind 20 rfl) (v := 1) (by decide) ?_
          refine V_iand (pc := 38) hG (dk dd_X3_tryBehind 21 rfl) ?_
          refine V_if_eq (pc := 39) hG (dk dd_X3_tryBehind 22 rfl) (tgt := 115) (by decide) (fun h39 => ?_) (fun h39 => ?_)
          rotate_left
          rotate_left
          -- leaves: stop 121; stop 115; stop 42
          · exfalso; rw [f3 15 (by omega), e7] at h30; have := le_i h30 (by omega) (by omega); omega
          · exact nx μ1 (hI μ1 f1 f2 f3)
          · exact absurd ((q_t1 (by omega) (by omega)).mpr (by simpa using hbit)) h39
    refine V_iload_n (pc := 0) hG (dk dd_X3_tryBehind 0 rfl) rfl ?_
    refine V_if_eq (pc := 1) hG (dk dd_X3_tryBehind 1 rfl) (tgt := 9) (by decide) (fun h1 => ?_) (fun h1 => ?_)
    rotate_left
    refine V_iload_n (pc := 4) hG (dk dd_X3_tryBehind 2 rfl) rfl ?_
    refine V_iconst (pc := 5) hG (dk dd_X3_tryBehind 3 rfl) (v := 5) (by decide) ?_
    refine V_icmp_lt (pc := 6) hG (dk dd_X3_tryBehind 4 rfl) (tgt := 18) (by decide) (fun h6 => ?_) (fun h6 => ?_)
    refine V_iconst (pc := 18) hG (dk dd_X3_tryBehind 10 rfl) (v := 0) (by decide) ?_
    refine V_istore (pc := 19) hG (dk dd_X3_tryBehind 11 rfl) (by decide) (lv' := [(0, _), (1, _), (2, _), (3, _), (4, _), (5, _), (6, _)]) rfl ?_
    rotate_left
    rotate_left
    -- leaves: stop 9; stop 21; stop 9
    · exact absurd h1 hne
    · refine loop (α 0 7) 0 μ (by omega) ?_ (fun _ _ => rfl) (fun _ _ => rfl)
      show OrdS μ α n (L ++ [])
      rw [List.append_nil]; exact hO
    · exfalso; exact h6 ((nI_ltI (b := 5) (by omega) (by decide)).mpr (by omega))
end
section
def opnN (α : Al) : Nat := thoN α 0 (α 0 7)
def ordA (α : Al) : List (List Nat) := ordM (α 0 7) (bitsN (opnN α)) (opnN α)
theorem opn_lt {α : Al} (hv : Val α) : opnN α < 32 := Nat.lt_of_lt_of_le (thoN_lt α 0 (α 0 7)) (Nat.pow_le_pow_right (n := 2) (by decide) (show α 0 7 ≤ 5 from hv.C))
theorem q_b5 : ∀ l, l < 32 → bitsN l ≤ 5 := by decide +kernel
theorem c_tryAll {μ : Mem} {α : Al} (hA : Abs (kac μ 15) α) (hv : Val α) :
    CtP yX3_tryAll cX3_tryAll 2 none 10 [vR 58] μ (Pv (fun μ' => OrdS μ' α (bitsN (opnN α)) (ordA α) ∧ ∀ q, (q < 58 ∨ 61 < q) → μ' q = μ q)) := by
  refine CtP.go RX3 rfl pn_X3 (Nat.le_of_ble_eq_true rfl) (fun C hG hR => ?_)
  have ho := opn_lt hv
  have hn := q_b5 _ ho
  have e3 : μ 15 3 = nI (α 0 3) := hA.1 3 (by decide)
  have hO0 : ∀ f : Nat → Int32, (∀ i, i < 5 → f i = -1) → OrdS (setc (setc (setc (setc μ 58 (upd (μ 58) 4 (nI (bitsN (opnN α))))) 58 (upd (setc μ 58 (upd (μ 58) 4 (nI (bitsN (opnN α)))) 58) 5 (-1))) 58 (upd (setc (setc μ 58 (upd (μ 58) 4 (nI (bitsN (opnN α))))) 58 (upd (setc μ 58 (upd (μ 58) 4 (nI (bitsN (opnN α)))) 58) 5 (-1)) 58) 6 0)) 61 f) α (bitsN (opnN α)) [] := by
    intro f hf
    refine ⟨?_, ?_, fun c hc => Or.inl ⟨by rw [setc_s]; exact hf c hc, fun x ⟨p, h, _⟩ => absurd h List.not_mem_nil⟩⟩
    · rw [setc_n (by decide), setc_s, pk_un (by decide), setc_s, pk_un (by decide), setc_s, pk_us]
    · show setc _ 61 f 58 5 = -1
      rw [setc_n (by decide), setc_s, pk_un (by decide), setc_s, pk_us]
  refine V_aload_n (pc := 0) hG (dk dd_X3_tryAll 0 rfl) rfl ?_
  refine V_getR (pc := 1) hG (dk dd_X3_tryAll 1 rfl) fl_X3_21 sh_58 rfl ?_
  refine V_iconst (pc := 4) hG (dk dd_X3_tryAll 2 rfl) (v := 0) (by decide) ?_
  refine V_callVi (pc := 5) hG (dk dd_X3_tryAll 3 rfl) ml_X3_25 mo_X2_casesThatAre sh_15 rfl (c_casesThatAre co_now hA hv.C (fun c hc => (hv.c hc).2.2.2) (w := 0) rfl (by decide)) (by decide) (by decide) rfl rfl rfl ?_
  refine V_istore_n (pc := 8) hG (dk dd_X3_tryAll 4 rfl) (by decide) (lv' := [(0, _), (1, _)]) rfl ?_
  refine V_aload_n (pc := 9) hG (dk dd_X3_tryAll 5 rfl) rfl ?_
  refine V_iload_n (pc := 10) hG (dk dd_X3_tryAll 6 rfl) rfl ?_
  refine V_callSi (pc := 11) hG (dk dd_X3_tryAll 7 rfl) ml_X3_31 mo_J6_bitCount_0f7a4 (c_bits (D := opnN α) rfl (by omega)) (by decide) (by decide) rfl rfl rfl ?_
  refine V_putI (pc := 14) hG (dk dd_X3_tryAll 8 rfl) fl_X3_36 sh_58 rfl rfl ?_
  refine V_aload_n (pc := 17) hG (dk dd_X3_tryAll 9 rfl) rfl ?_
  refine V_iconst (pc := 18) hG (dk dd_X3_tryAll 10 rfl) (v := -1) (by decide) ?_
  refine V_putI (pc := 19) hG (dk dd_X3_tryAll 11 rfl) fl_X3_40 sh_58 rfl rfl ?_
  refine V_aload_n (pc := 22) hG (dk dd_X3_tryAll 12 rfl) rfl ?_
  refine V_iconst (pc := 23) hG (dk dd_X3_tryAll 13 rfl) (v := 0) (by decide) ?_
  refine V_putI (pc := 24) hG (dk dd_X3_tryAll 14 rfl) fl_X3_43 sh_58 rfl rfl ?_
  refine V_aload_n (pc := 27) hG (dk dd_X3_tryAll 15 rfl) rfl ?_
  refine V_getR (pc := 28) hG (dk dd_X3_tryAll 16 rfl) fl_X3_18 sh_58 rfl ?_
  refine V_iconst (pc := 31) hG (dk dd_X3_tryAll 17 rfl) (v := -1) (by decide) ?_
  refine V_callSvp (pc := 32) hG (dk dd_X3_tryAll 18 rfl) ml_X3_46 mo_J7_fill_53178 (c_fill sh_61 (by decide)) (by decide) (by decide) rfl rfl rfl (fun m32 p32 => ?_)
  refine V_aload_n (pc := 35) hG (dk dd_X3_tryAll 19 rfl) rfl ?_
  refine V_iconst (pc := 36) hG (dk dd_X3_tryAll 20 rfl) (v := 0) (by decide) ?_
  refine V_iload_n (pc := 37) hG (dk dd_X3_tryAll 21 rfl) rfl ?_
  refine V_aload_n (pc := 38) hG (dk dd_X3_tryAll 22 rfl) rfl ?_
  refine V_getR (pc := 39) hG (dk dd_X3_tryAll 23 rfl) fl_X3_21 sh_58 rfl ?_
  refine V_getI (pc := 42) hG (dk dd_X3_tryAll 24 rfl) fl_X3_52 sh_15 rfl ?_
  refine V_iconst (pc := 45) hG (dk dd_X3_tryAll 25 rfl) (v := 0) (by decide) ?_
  refine V_iconst (pc := 46) hG (dk dd_X3_tryAll 26 rfl) (v := 0) (by decide) ?_
  refine V_callVvp (pc := 47) hG (dk dd_X3_tryAll 27 rfl) ml_X3_55 mo_X3_tryBehind sh_58 rfl ((c_tryBehind hv hn (bitsN (opnN α)) (pre := []) (L := []) (left := opnN α) ?_ ?_ (fun q hq => absurd hq List.not_mem_nil) (by simp) (fun c hc => absurd hc List.not_mem_nil) (fun j hj => absurd hj (Nat.not_lt_zero j)) ho rfl rfl rfl ?_ rfl rfl).deeper (show 4 + bitsN (opnN α) ≤ 9 by omega)) (by decide) (by decide) rfl rfl rfl (fun m47 p47 => ?_)
  rotate_left
  rotate_left
  rotate_left
  refine V_vretP (pc := 50) hG (dk dd_X3_tryAll 28 rfl) hR (Pv.mk ?_)
  rotate_left
  -- leaves: call tryBehind@47 0; call tryBehind@47 1; call tryBehind@47 2; return@50
  · obtain ⟨f, rfl, hf⟩ := p32
    exact hA.off (fun x hx => by simp (disch := omega) only [setc_n])
  · obtain ⟨f, rfl, hf⟩ := p32
    exact hO0 f hf
  · obtain ⟨f, rfl, hf⟩ := p32
    simp (disch := omega) only [setc_n]; exact e3
  · obtain ⟨f, rfl, hf⟩ := p32
    obtain ⟨q1, _, q3⟩ := p47
    refine ⟨?_, fun q hq => by rw [q3 q hq]; simp (disch := omega) only [setc_n]⟩
    rw [List.nil_append, show ((ordM (α 0 7) (bitsN (opnN α)) (opnN α)).map ([] ++ ·)) = ordA α by unfold ordA; simp] at q1
    exact q1
/-- the open case by which, heard first, most are free -/
def FirQ (α : Al) (L : List (List Nat)) (r : Int32) : Prop :=
  (∃ c x, c < α 0 7 ∧ ByF α (α 0 3) L c x ∧ r = nI c ∧ ∀ c' y, c' < α 0 7 → ByF α (α 0 3) L c' y → y ≤ x ∧ (c' < c → y < x)) ∨ ((∀ c x, c < α 0 7 → ¬ ByF α (α 0 3) L c x) ∧ r = -1000000)
theorem FirQ.uniq {α : Al} {L : List (List Nat)} {r r' : Int32} (h : FirQ α L r) (h' : FirQ α L r') : r = r' := by
  rcases h with ⟨c, x, h1, h2, h3, h4⟩ | ⟨h1, h2⟩ <;> rcases h' with ⟨d, y, g1, g2, g3, g4⟩ | ⟨g1, g2⟩
  · have a := h4 d y g1 g2
    have b := g4 c x h1 h2
    rw [h3, g3, show c = d by omega]
  · exact absurd h2 (g1 c x h1)
  · exact absurd g2 (h1 d y g1)
  · rw [h2, g2]
theorem c_bestToBegin {μ : Mem} {α : Al} (hA : Abs (kac μ 15) α) (hv : Val α) {n : Nat} {L : List (List Nat)} (hO : OrdS μ α n L) (hn : n ≤ 5) (hL : ∀ q, q ∈ L → q.length = n) :
    CtP yX3_bestToBegin cX3_bestToBegin 4 (some .int) 0 [vR 58] μ (Pi (fun r μ' => μ' = μ ∧ FirQ α L r)) := by
  refine CtP.go RX3 rfl pn_X3 (Nat.le_of_ble_eq_true rfl) (fun C hG hR => ?_)
  have e7 : μ 15 7 = nI (α 0 7) := hA.1 7 (by decide)
  have hC5 := hv.C
  have hM := hO.2.2
  have hb5 : ∀ c x, ByF α (α 0 3) L c x → x ≤ 5 := fun c x ⟨p, p1, _, p3⟩ => by have := frN_le α p (α 0 3); have := hL p p1; omega
  have loop : ∀ k i r m, i + k = α 0 7 → ((r = -1000000 ∧ m = -1 ∧ ∀ c x, c < i → ¬ ByF α (α 0 3) L c x) ∨ (∃ c x, c < i ∧ ByF α (α 0 3) L c x ∧ r = nI c ∧ m = nI x ∧ ∀ c' y, c' < i → ByF α (α 0 3) L c' y → y ≤ x ∧ (c' < c → y < x))) → V C 7 [(0, vR 58), (1, vI r), (2, vI m), (3, vI (nI i))] [] μ := by
    intro k
    induction k with
    | zero =>
      intro i r m hi hq
      refine V_iload_n (pc := 7) hG (dk dd_X3_bestToBegin 6 rfl) rfl ?_
      refine V_aload_n (pc := 8) hG (dk dd_X3_bestToBegin 7 rfl) rfl ?_
      refine V_getR (pc := 9) hG (dk dd_X3_bestToBegin 8 rfl) fl_X3_21 sh_58 rfl ?_
      refine V_getI (pc := 12) hG (dk dd_X3_bestToBegin 9 rfl) fl_X3_63 sh_15 rfl ?_
      refine V_icmp_ge (pc := 15) hG (dk dd_X3_bestToBegin 10 rfl) (tgt := 43) (by decide) (fun h15 => ?_) (fun h15 => ?_)
      refine V_iload_n (pc := 43) hG (dk dd_X3_bestToBegin 26 rfl) rfl ?_
      refine V_iretP (pc := 44) hG (dk dd_X3_bestToBegin 27 rfl) hR (Pi.mk ?_)
      rotate_left
      rotate_left
      -- leaves: return@44; stop 18
      · refine ⟨rfl, ?_⟩
        rw [show i = α 0 7 by omega] at hq
        rcases hq with ⟨q1, q2, q3⟩ | ⟨c, x, q1, q2, q3, q4, q5⟩
        · exact Or.inr ⟨fun c x hc => q3 c x hc, q1⟩
        · exact Or.inl ⟨c, x, q1, q2, q3, q5⟩
      · exfalso; rw [e7] at h15; have := nle_i h15 (by omega) (by omega); omega
    | succ k ih =>
      intro i r m hi hq
      have hr : vp_in (nI i) 5 := vp_in_nI (by omega) (by decide)
      have ci : (nI i).toNatClampNeg = i := nI_clamp (by omega)
      have hI := fun r m z => ih (i + 1) r m (by omega) z
      rw [nI_succ] at hI
      have hmi := hM i (by omega)
      have nle : m ≤ 5 ∧ -1 ≤ m := by
        rcases hq with ⟨_, q2, _⟩ | ⟨c, x, _, q2, _, q4, _⟩
        · rw [q2]; decide
        · have := hb5 c x q2
          rw [q4]; exact ⟨(nI_leI (b := 5) (by omega) (by decide)).mpr this, by have : (0 : Int32) ≤ nI x := nI_pos' (by omega); clear hG hR; grind⟩
      refine V_iload_n (pc := 7) hG (dk dd_X3_bestToBegin 6 rfl) rfl ?_
      refine V_aload_n (pc := 8) hG (dk dd_X3_bestToBegin 7 rfl) rfl ?_
      refine V_getR (pc := 9) hG (dk dd_X3_bestToBegin 8 rfl) fl_X3_21 sh_58 rfl ?_
      refine V_getI (pc := 12) hG (dk dd_X3_bestToBegin 9 rfl) fl_X3_63 sh_15 rfl ?_
      refine V_icmp_ge (pc := 15) hG (dk dd_X3_bestToBegin 10 rfl) (tgt := 43) (by decide) (fun h15 => ?_) (fun h15 => ?_)
      rotate_left
      refine V_aload_n (pc := 18) hG (dk dd_X3_bestToBegin 11 rfl) rfl ?_
      refine V_getR (pc := 19) hG (dk dd_X3_bestToBegin 12 rfl) fl_X3_18 sh_58 rfl ?_
      refine V_iload_n (pc := 22) hG (dk dd_X3_bestToBegin 13 rfl) rfl ?_
      refine V_iald (pc := 23) hG (dk dd_X3_bestToBegin 14 rfl) sh_61 hr ?_
      refine V_iload_n (pc := 24) hG (dk dd_X3_bestToBegin 15 rfl) rfl ?_
      refine V_icmp_le (pc := 25) hG (dk dd_X3_bestToBegin 16 rfl) (tgt := 37) (by decide) (fun h25 => ?_) (fun h25 => ?_)
      refine V_iinc (pc := 37) hG (dk dd_X3_bestToBegin 24 rfl) rfl (v := _ + 1) rfl (by decide) (lv' := [(0, _), (1, _), (2, _), (3, _)]) rfl ?_
      refine V_goto (pc := 40) hG (dk dd_X3_bestToBegin 25 rfl) (tgt := 7) (by decide) ?_
      rotate_left
      refine V_iload_n (pc := 28) hG (dk dd_X3_bestToBegin 17 rfl) rfl ?_
      refine V_istore_n (pc := 29) hG (dk dd_X3_bestToBegin 18 rfl) (by decide) (lv' := [(0, _), (1, _), (2, _), (3, _)]) rfl ?_
      refine V_aload_n (pc := 30) hG (dk dd_X3_bestToBegin 19 rfl) rfl ?_
      refine V_getR (pc := 31) hG (dk dd_X3_bestToBegin 20 rfl) fl_X3_18 sh_58 rfl ?_
      refine V_iload_n (pc := 34) hG (dk dd_X3_bestToBegin 21 rfl) rfl ?_
      refine V_iald (pc := 35) hG (dk dd_X3_bestToBegin 22 rfl) sh_61 hr ?_
      refine V_istore_n (pc := 36) hG (dk dd_X3_bestToBegin 23 rfl) (by decide) (lv' := [(0, _), (1, _), (2, _), (3, _)]) rfl ?_
      refine V_iinc (pc := 37) hG (dk dd_X3_bestToBegin 24 rfl) rfl (v := _ + 1) rfl (by decide) (lv' := [(0, _), (1, _), (2, _), (3, _)]) rfl ?_
      refine V_goto (pc := 40) hG (dk dd_X3_bestToBegin 25 rfl) (tgt := 7) (by decide) ?_
      rotate_left
      -- leaves: stop 43; stop 7; stop 7
      · exfalso; rw [e7] at h15; have := le_i h15 (by omega) (by omega); omega
      · rw [ci] at h25
        refine hI r m ?_
        rcases hmi with ⟨z1, z2⟩ | ⟨y, z1, z2, z3⟩
        · rcases hq with ⟨q1, q2, q3⟩ | ⟨c, x, q1, q2, q3, q4, q5⟩
          · exact Or.inl ⟨q1, q2, fun c x hc => by
              by_cases e : c = i
              · subst e; exact z2 x
              · exact q3 c x (by omega)⟩
          · exact Or.inr ⟨c, x, by omega, q2, q3, q4, fun c' y hc' hy => by
              by_cases e : c' = i
              · subst e; exact absurd hy (z2 y)
              · exact q5 c' y (by omega) hy⟩
        · have hy5 := hb5 i y z1
          rcases hq with ⟨q1, q2, q3⟩ | ⟨c, x, q1, q2, q3, q4, q5⟩
          · exfalso; rw [z2, q2] at h25; have : (0 : Int32) ≤ nI y := nI_pos' (by omega); clear hG hR; grind
          · have hx5 := hb5 c x q2
            rw [z2, q4] at h25
            have hyx := le_i h25 (by omega) (by omega)
            exact Or.inr ⟨c, x, by omega, q2, q3, q4, fun c' y' hc' hy' => by
              by_cases e : c' = i
              · subst e; have := z3 y' hy'; exact ⟨by omega, fun w => by omega⟩
              · exact q5 c' y' (by omega) hy'⟩
      · rw [ci] at h25 ⊢
        refine hI (nI i) _ ?_
        rcases hmi with ⟨z1, z2⟩ | ⟨y, z1, z2, z3⟩
        · rw [z1] at h25; exfalso; clear hG hR; grind
        · have hy5 := hb5 i y z1
          refine Or.inr ⟨i, y, by omega, z1, rfl, z2, fun c' y' hc' hy' => ?_⟩
          by_cases e : c' = i
          · subst e; exact ⟨z3 y' hy', fun w => by omega⟩
          · rcases hq with ⟨q1, q2, q3⟩ | ⟨c, x, q1, q2, q3, q4, q5⟩
            · exact absurd hy' (q3 c' y' (by omega))
            · have hx5 := hb5 c x q2
              rw [z2, q4] at h25
              have hyx := nle_i h25 (by omega) (by omega)
              have := (q5 c' y' (by omega) hy').1
              exact ⟨by omega, fun _ => by omega⟩
  refine V_ldc (pc := 0) hG (dk dd_X3_bestToBegin 0 rfl) kk_X3_84 ?_
  refine V_istore_n (pc := 2) hG (dk dd_X3_bestToBegin 1 rfl) (by decide) (lv' := [(0, _), (1, _)]) rfl ?_
  refine V_iconst (pc := 3) hG (dk dd_X3_bestToBegin 2 rfl) (v := -1) (by decide) ?_
  refine V_istore_n (pc := 4) hG (dk dd_X3_bestToBegin 3 rfl) (by decide) (lv' := [(0, _), (1, _), (2, _)]) rfl ?_
  refine V_iconst (pc := 5) hG (dk dd_X3_bestToBegin 4 rfl) (v := 0) (by decide) ?_
  refine V_istore_n (pc := 6) hG (dk dd_X3_bestToBegin 5 rfl) (by decide) (lv' := [(0, _), (1, _), (2, _), (3, _)]) rfl ?_
  rotate_left
  -- leaves: stop 7
  · exact loop (α 0 7) 0 (-1000000) (-1) (by omega) (Or.inl ⟨rfl, rfl, fun c x hc => absurd hc (Nat.not_lt_zero c)⟩)
end
section
/-! ===== the text ===== -/
def kdC (c : Nat) : Nat := if c = 116 then 1 else if c = 99 then 2 else if c = 115 then 3 else if c = 114 then 4 else if c = 102 then 5 else 0
abbrev fig (τ : Nat → Nat) (n p : Nat) : Prop := p < n ∧ 48 ≤ τ p ∧ τ p ≤ 57
def fgN (τ : Nat → Nat) (n p : Nat) : Nat := if ¬ fig τ n p then 0 else if ¬ fig τ n (p + 1) then 1 else if ¬ fig τ n (p + 2) then 2 else 3
/-- a place and a fault (0: none) -/
abbrev Pf : Type := Nat × Nat
abbrev nexS (τ : Nat → Nat) (n c : Nat) (s : Pf) : Prop := s.2 = 0 ∧ s.1 < n ∧ τ s.1 = c
def kdS (τ : Nat → Nat) (n : Nat) (s : Pf) : Nat := if s.2 = 0 ∧ s.1 < n then kdC (τ s.1) else 0
def markS (k : Nat) (s : Pf) : Pf := if s.2 = 0 then (s.1, k) else s
def pasS (τ : Nat → Nat) (n c : Nat) (s : Pf) : Pf := if s.2 = 0 ∧ s.1 < n ∧ τ s.1 = c then (s.1 + 1, 0) else markS 1 s
def valS (τ : Nat → Nat) (n p : Nat) : Nat := if fgN τ n p = 2 then 10 * (τ p - 48) + (τ (p + 1) - 48) else τ p - 48
def numS (τ : Nat → Nat) (n lo hi : Nat) (s : Pf) : Nat × Pf := if s.2 = 0 then (if fgN τ n s.1 = 0 ∨ fgN τ n s.1 = 3 then (0, (s.1, 1)) else if lo ≤ valS τ n s.1 ∧ valS τ n s.1 ≤ hi then (valS τ n s.1, (s.1 + fgN τ n s.1, 0)) else (0, (s.1, 2))) else (0, s)
def Tp (μ : Mem) (τ : Nat → Nat) (n : Nat) : Prop := μ 13 1 = nI n ∧ n ≤ 120 ∧ ∀ k, k < n → μ 14 k = nI (τ k) ∧ τ k < 256
def RdS (μ : Mem) (τ : Nat → Nat) (n : Nat) (s : Pf) : Prop := Tp μ τ n ∧ μ 31 2 = nI s.1 ∧ μ 31 3 = nI s.2 ∧ s.1 ≤ n ∧ s.2 ≤ 3
/-- only the reader's own numbers have changed -/
def Off31 (μ μ' : Mem) : Prop := ∀ a, a ≠ 31 → μ' a = μ a
theorem Tp.off {μ μ' : Mem} {τ : Nat → Nat} {n : Nat} (h : Tp μ τ n) (h1 : μ' 13 = μ 13) (h2 : μ' 14 = μ 14) : Tp μ' τ n := ⟨by rw [h1]; exact h.1, h.2.1, fun k hk => by rw [h2]; exact h.2.2 k hk⟩
theorem RdS.f0 {μ : Mem} {τ : Nat → Nat} {n : Nat} {s : Pf} (h : RdS μ τ n s) : μ 31 3 = 0 ↔ s.2 = 0 := by
  rw [h.2.2.1]; exact nI_eq (b := 0) (by have := h.2.2.2.2; omega) (by decide)
theorem c_isNext {μ : Mem} {τ : Nat → Nat} {n : Nat} {s : Pf} (hs : RdS μ τ n s) {x : Int32} {c : Nat} (hx : x = nI c) (hc : c < 256) : CtP yX4_isNext cX4_isNext 2 (some .boolean) 1 [vR 31, vI x] μ (Pi (fun r μ' => μ' = μ ∧ is1 r (nexS τ n c s))) := by
  refine CtP.go RX4 rfl pn_X4 (Nat.le_of_ble_eq_true rfl) (fun C hG hR => ?_)
  refine V_aload_n (pc := 0) hG (dk dd_X4_isNext 0 rfl) rfl ?_
  refine V_getI (pc := 1) hG (dk dd_X4_isNext 1 rfl) fl_X4_23 sh_31 rfl ?_
  refine V_if_ne (pc := 4) hG (dk dd_X4_isNext 2 rfl) (tgt := 26) (by decide) (fun h4 => ?_) (fun h4 => ?_)
  refine V_iconst (pc := 26) hG (dk dd_X4_isNext 12 rfl) (v := 0) (by decide) ?_
  refine V_zretP (pc := 27) hG (dk dd_X4_isNext 13 rfl) (by decide) hR (Pi.mk ?_)
  rotate_left
  refine V_aload_n (pc := 7) hG (dk dd_X4_isNext 3 rfl) rfl ?_
  refine V_getR (pc := 8) hG (dk dd_X4_isNext 4 rfl) fl_X4_9 sh_31 rfl ?_
  refine V_aload_n (pc := 11) hG (dk dd_X4_isNext 5 rfl) rfl ?_
  refine V_getI (pc := 12) hG (dk dd_X4_isNext 6 rfl) fl_X4_19 sh_31 rfl ?_
  refine V_callVip (pc := 15) hG (dk dd_X4_isNext 7 rfl) ml_X4_113 mo_X6_at sh_13 rfl (c_tat hs.1.1 hs.1.2.1 hs.2.1 (by have := hs.2.2.2.1; have := hs.1.2.1; omega)) (by decide) (by decide) rfl rfl rfl (fun x15 m15 p15 => ?_)
  refine V_iload_n (pc := 18) hG (dk dd_X4_isNext 8 rfl) rfl ?_
  refine V_icmp_ne (pc := 19) hG (dk dd_X4_isNext 9 rfl) (tgt := 26) (by decide) (fun h19 => ?_) (fun h19 => ?_)
  refine V_iconst (pc := 26) hG (dk dd_X4_isNext 12 rfl) (v := 0) (by decide) ?_
  refine V_zretP (pc := 27) hG (dk dd_X4_isNext 13 rfl) (by decide) hR (Pi.mk ?_)
  rotate_left
  refine V_iconst (pc := 22) hG (dk dd_X4_isNext 10 rfl) (v := 1) (by decide) ?_
  refine V_goto (pc := 23) hG (dk dd_X4_isNext 11 rfl) (tgt := 27) (by decide) ?_
  refine V_zretP (pc := 27) hG (dk dd_X4_isNext 13 rfl) (by decide) hR (Pi.mk ?_)
  rotate_left
  -- leaves: return@27; return@27; return@27
  · exact ⟨rfl, is1.f (fun q => h4 (hs.f0.mpr q.1))⟩
  · obtain ⟨rfl, rfl⟩ := p15; exact ⟨rfl, is1.f (fun q => h19 (by rw [if_pos q.2.1, (hs.1.2.2 _ q.2.1).1, q.2.2, hx]))⟩
  · obtain ⟨rfl, rfl⟩ := p15; refine ⟨rfl, is1.t ⟨hs.f0.mp h4, ?_⟩⟩; by_cases q : s.1 < n; (rw [if_pos q, (hs.1.2.2 _ q).1, hx] at h19; exact ⟨q, (nI_eq (by have := (hs.1.2.2 _ q).2; omega) (by omega)).mp h19⟩); (rw [if_neg q, hx] at h19; exact absurd (show nI c < 0 by rw [← h19]; decide) (nI_pos (by omega)))
theorem kd_key {μ : Mem} {τ : Nat → Nat} {n : Nat} {s : Pf} (hs : RdS μ τ n s) {y : Int32} {c k : Nat} (hy : y = (if s.1 < n then μ 14 s.1 else -1)) (hf : s.2 = 0) (e : y = nI c) (hc : c < 256) (hk : kdC c = k) : k = kdS τ n s := by
  unfold kdS
  by_cases q : s.1 < n
  · rw [if_pos q, (hs.1.2.2 _ q).1] at hy
    rw [if_pos ⟨hf, q⟩, ← hk, (nI_eq (by have := (hs.1.2.2 _ q).2; omega) (by omega)).mp (hy.symm.trans e)]
  · rw [if_neg q] at hy
    exact absurd (show nI c < 0 by rw [← e, hy]; decide) (nI_pos (by omega))
theorem c_kindNext {μ : Mem} {τ : Nat → Nat} {n : Nat} {s : Pf} (hs : RdS μ τ n s) : CtP yX4_kindNext cX4_kindNext 1 (some .int) 1 [vR 31] μ (Pi (fun r μ' => μ' = μ ∧ r = nI (kdS τ n s))) := by
  refine CtP.go RX4 rfl pn_X4 (Nat.le_of_ble_eq_true rfl) (fun C hG hR => ?_)
  refine V_aload_n (pc := 0) hG (dk dd_X4_kindNext 0 rfl) rfl ?_
  refine V_getI (pc := 1) hG (dk dd_X4_kindNext 1 rfl) fl_X4_23 sh_31 rfl ?_
  refine V_if_eq (pc := 4) hG (dk dd_X4_kindNext 2 rfl) (tgt := 9) (by decide) (fun h4 => ?_) (fun h4 => ?_)
  refine V_aload_n (pc := 9) hG (dk dd_X4_kindNext 5 rfl) rfl ?_
  refine V_getR (pc := 10) hG (dk dd_X4_kindNext 6 rfl) fl_X4_9 sh_31 rfl ?_
  refine V_aload_n (pc := 13) hG (dk dd_X4_kindNext 7 rfl) rfl ?_
  refine V_getI (pc := 14) hG (dk dd_X4_kindNext 8 rfl) fl_X4_19 sh_31 rfl ?_
  refine V_callVip (pc := 17) hG (dk dd_X4_kindNext 9 rfl) ml_X4_113 mo_X6_at sh_13 rfl (c_tat hs.1.1 hs.1.2.1 hs.2.1 (by have := hs.2.2.2.1; have := hs.1.2.1; omega)) (by decide) (by decide) rfl rfl rfl (fun x17 m17 p17 => ?_)
  refine V_lsw (pc := 20) hG (dk dd_X4_kindNext 10 rfl) (cs := [(99, 74), (102, 80), (114, 78), (115, 76), (116, 72)]) (td := 82) (by decide +kernel) ?_
  refine And.intro (fun h20_99 => ?_) (fun h20_99 => ?_)
  refine V_iconst (pc := 74) hG (dk dd_X4_kindNext 13 rfl) (v := 2) (by decide) ?_
  refine V_iretP (pc := 75) hG (dk dd_X4_kindNext 14 rfl) hR (Pi.mk ?_)
  rotate_left
  refine And.intro (fun h20_102 => ?_) (fun h20_102 => ?_)
  refine V_iconst (pc := 80) hG (dk dd_X4_kindNext 19 rfl) (v := 5) (by decide) ?_
  refine V_iretP (pc := 81) hG (dk dd_X4_kindNext 20 rfl) hR (Pi.mk ?_)
  rotate_left
  refine And.intro (fun h20_114 => ?_) (fun h20_114 => ?_)
  refine V_iconst (pc := 78) hG (dk dd_X4_kindNext 17 rfl) (v := 4) (by decide) ?_
  refine V_iretP (pc := 79) hG (dk dd_X4_kindNext 18 rfl) hR (Pi.mk ?_)
  rotate_left
  refine And.intro (fun h20_115 => ?_) (fun h20_115 => ?_)
  refine V_iconst (pc := 76) hG (dk dd_X4_kindNext 15 rfl) (v := 3) (by decide) ?_
  refine V_iretP (pc := 77) hG (dk dd_X4_kindNext 16 rfl) hR (Pi.mk ?_)
  rotate_left
  refine And.intro (fun h20_116 => ?_) (fun h20_116 => ?_)
  refine V_iconst (pc := 72) hG (dk dd_X4_kindNext 11 rfl) (v := 1) (by decide) ?_
  refine V_iretP (pc := 73) hG (dk dd_X4_kindNext 12 rfl) hR (Pi.mk ?_)
  rotate_left
  show V _ _ _ _ _
  refine V_iconst (pc := 82) hG (dk dd_X4_kindNext 21 rfl) (v := 0) (by decide) ?_
  refine V_iretP (pc := 83) hG (dk dd_X4_kindNext 22 rfl) hR (Pi.mk ?_)
  rotate_left
  refine V_iconst (pc := 7) hG (dk dd_X4_kindNext 3 rfl) (v := 0) (by decide) ?_
  refine V_iretP (pc := 8) hG (dk dd_X4_kindNext 4 rfl) hR (Pi.mk ?_)
  rotate_left
  -- leaves: return@75; return@81; return@79; return@77; return@73; return@83; return@8
  · exact ⟨p17.1, congrArg nI (kd_key hs p17.2 (hs.f0.mp h4) h20_99 (c := 99) (by decide) rfl)⟩
  · exact ⟨p17.1, congrArg nI (kd_key hs p17.2 (hs.f0.mp h4) h20_102 (c := 102) (by decide) rfl)⟩
  · exact ⟨p17.1, congrArg nI (kd_key hs p17.2 (hs.f0.mp h4) h20_114 (c := 114) (by decide) rfl)⟩
  · exact ⟨p17.1, congrArg nI (kd_key hs p17.2 (hs.f0.mp h4) h20_115 (c := 115) (by decide) rfl)⟩
  · exact ⟨p17.1, congrArg nI (kd_key hs p17.2 (hs.f0.mp h4) h20_116 (c := 116) (by decide) rfl)⟩
  · obtain ⟨rfl, rfl⟩ := p17; refine ⟨rfl, ?_⟩; unfold kdS; by_cases q : s.1 < n; (rw [if_pos q, (hs.1.2.2 _ q).1] at h20_99 h20_102 h20_114 h20_115 h20_116; rw [if_pos ⟨hs.f0.mp h4, q⟩]; unfold kdC; rw [if_neg (fun z => h20_116 (by rw [z]; rfl)), if_neg (fun z => h20_99 (by rw [z]; rfl)), if_neg (fun z => h20_115 (by rw [z]; rfl)), if_neg (fun z => h20_114 (by rw [z]; rfl)), if_neg (fun z => h20_102 (by rw [z]; rfl))]; rfl); (rw [if_neg (fun z => q z.2)]; rfl)
  · refine ⟨rfl, ?_⟩; unfold kdS; rw [if_neg (fun z => h4 (hs.f0.mpr z.1))]; rfl
theorem c_mark {μ : Mem} {τ : Nat → Nat} {n : Nat} {s : Pf} (hs : RdS μ τ n s) {x : Int32} {k : Nat} (hx : x = nI k) (hk : k ≤ 3) : CtP yX4_mark cX4_mark 2 none 0 [vR 31, vI x] μ (Pv (fun μ' => RdS μ' τ n (markS k s) ∧ Off31 μ μ')) := by
  refine CtP.go RX4 rfl pn_X4 (Nat.le_of_ble_eq_true rfl) (fun C hG hR => ?_)
  refine V_aload_n (pc := 0) hG (dk dd_X4_mark 0 rfl) rfl ?_
  refine V_getI (pc := 1) hG (dk dd_X4_mark 1 rfl) fl_X4_23 sh_31 rfl ?_
  refine V_if_ne (pc := 4) hG (dk dd_X4_mark 2 rfl) (tgt := 12) (by decide) (fun h4 => ?_) (fun h4 => ?_)
  refine V_vretP (pc := 12) hG (dk dd_X4_mark 6 rfl) hR (Pv.mk ?_)
  rotate_left
  refine V_aload_n (pc := 7) hG (dk dd_X4_mark 3 rfl) rfl ?_
  refine V_iload_n (pc := 8) hG (dk dd_X4_mark 4 rfl) rfl ?_
  refine V_putI (pc := 9) hG (dk dd_X4_mark 5 rfl) fl_X4_23 sh_31 rfl rfl ?_
  refine V_vretP (pc := 12) hG (dk dd_X4_mark 6 rfl) hR (Pv.mk ?_)
  rotate_left
  -- leaves: return@12; return@12
  · unfold markS; rw [if_neg (fun z => h4 (hs.f0.mpr z))]; exact ⟨hs, fun _ _ => rfl⟩
  · unfold markS; rw [if_pos (hs.f0.mp h4)]; exact ⟨⟨hs.1.off (setc_n (by decide)) (setc_n (by decide)), by rw [setc_s, pk_un (by decide)]; exact hs.2.1, by rw [setc_s, pk_us]; exact hx, hs.2.2.2.1, hk⟩, fun a ha => setc_n ha⟩
theorem c_pass {μ : Mem} {τ : Nat → Nat} {n : Nat} {s : Pf} (hs : RdS μ τ n s) {x : Int32} {c : Nat} (hx : x = nI c) (hc : c < 256) : CtP yX4_pass cX4_pass 2 none 2 [vR 31, vI x] μ (Pv (fun μ' => RdS μ' τ n (pasS τ n c s) ∧ Off31 μ μ')) := by
  refine CtP.go RX4 rfl pn_X4 (Nat.le_of_ble_eq_true rfl) (fun C hG hR => ?_)
  refine V_aload_n (pc := 0) hG (dk dd_X4_pass 0 rfl) rfl ?_
  refine V_iload_n (pc := 1) hG (dk dd_X4_pass 1 rfl) rfl ?_
  refine V_callVip (pc := 2) hG (dk dd_X4_pass 2 rfl) ml_X4_72 mo_X4_isNext sh_31 rfl (c_isNext hs hx hc) (by decide) (by decide) rfl rfl rfl (fun x2 m2 p2 => ?_)
  refine V_if_eq (pc := 5) hG (dk dd_X4_pass 3 rfl) (tgt := 21) (by decide) (fun h5 => ?_) (fun h5 => ?_)
  refine V_aload_n (pc := 21) hG (dk dd_X4_pass 11 rfl) rfl ?_
  refine V_iconst (pc := 22) hG (dk dd_X4_pass 12 rfl) (v := 1) (by decide) ?_
  refine V_callVvp (pc := 23) hG (dk dd_X4_pass 13 rfl) ml_X4_79 mo_X4_mark sh_31 rfl (c_mark (p2.1 ▸ hs) (k := 1) rfl (by decide)) (by decide) (by decide) rfl rfl rfl (fun m23 p23 => ?_)
  refine V_vretP (pc := 26) hG (dk dd_X4_pass 14 rfl) hR (Pv.mk ?_)
  rotate_left
  refine V_aload_n (pc := 8) hG (dk dd_X4_pass 4 rfl) rfl ?_
  refine V_dup (pc := 9) hG (dk dd_X4_pass 5 rfl) rfl ?_
  refine V_getI (pc := 10) hG (dk dd_X4_pass 6 rfl) fl_X4_19 sh_31 rfl ?_
  refine V_iconst (pc := 13) hG (dk dd_X4_pass 7 rfl) (v := 1) (by decide) ?_
  refine V_iadd (pc := 14) hG (dk dd_X4_pass 8 rfl) ?_
  refine V_putI (pc := 15) hG (dk dd_X4_pass 9 rfl) fl_X4_19 sh_31 rfl rfl ?_
  refine V_goto (pc := 18) hG (dk dd_X4_pass 10 rfl) (tgt := 26) (by decide) ?_
  refine V_vretP (pc := 26) hG (dk dd_X4_pass 14 rfl) hR (Pv.mk ?_)
  rotate_left
  -- leaves: return@26; return@26
  · obtain ⟨rfl, p2⟩ := p2; unfold pasS; rw [if_neg (p2.no h5)]; exact p23
  · obtain ⟨rfl, p2⟩ := p2; unfold pasS; have q := p2.yes h5; rw [if_pos q]; exact ⟨⟨hs.1.off (setc_n (by decide)) (setc_n (by decide)), by rw [setc_s, pk_us, hs.2.1, nI_1], by rw [setc_s, pk_un (by decide)]; exact hs.f0.mpr q.1, q.2.1, Nat.zero_le 3⟩, fun a ha => setc_n ha⟩
end
section
theorem fgN_eq {τ : Nat → Nat} {n p j : Nat} (h : ∀ i, i < j → fig τ n (p + i)) (hj : j = 3 ∨ ¬ fig τ n (p + j)) (h3 : j ≤ 3) : fgN τ n p = j := by
  unfold fgN
  rcases (show j = 0 ∨ j = 1 ∨ j = 2 ∨ j = 3 by omega) with rfl | rfl | rfl | rfl
  · exact if_pos (hj.resolve_left (by decide))
  · rw [if_neg (fun q => q (h 0 (by decide))), if_pos (hj.resolve_left (by decide))]
  · rw [if_neg (fun q => q (h 0 (by decide))), if_neg (fun q => q (h 1 (by decide))), if_pos (hj.resolve_left (by decide))]
  · rw [if_neg (fun q => q (h 0 (by decide))), if_neg (fun q => q (h 1 (by decide))), if_neg (fun q => q (h 2 (by decide)))]
theorem fgN_le {τ : Nat → Nat} {n p : Nat} (h : fgN τ n p = 1 ∨ fgN τ n p = 2) : p + fgN τ n p ≤ n ∧ fig τ n p ∧ (fgN τ n p = 2 → fig τ n (p + 1)) := by
  unfold fgN at h ⊢
  by_cases a : ¬ fig τ n p
  · rw [if_pos a] at h; omega
  · rw [if_neg a] at h ⊢
    have a' := Classical.not_not.mp a
    by_cases b : ¬ fig τ n (p + 1)
    · rw [if_pos b] at h ⊢; exact ⟨a'.1, a', fun q => by omega⟩
    · rw [if_neg b] at h ⊢
      have b' := Classical.not_not.mp b
      by_cases c : ¬ fig τ n (p + 2)
      · rw [if_pos c] at h ⊢; exact ⟨b'.1, a', fun _ => b'⟩
      · rw [if_neg c] at h; omega
theorem isFig_iff {μ : Mem} {τ : Nat → Nat} {n p : Nat} (hT : Tp μ τ n) : isFig μ n p ↔ fig τ n p := by
  unfold isFig
  constructor
  · rintro ⟨h1, h2, h3⟩
    obtain ⟨e, l⟩ := hT.2.2 p h1
    rw [e] at h2 h3
    exact ⟨h1, le_i (a := 48) h2 (by omega) (by omega), le_i (b := 57) h3 (by omega) (by omega)⟩
  · rintro ⟨h1, h2, h3⟩
    obtain ⟨e, l⟩ := hT.2.2 p h1
    rw [e]
    exact ⟨h1, (nI_leI (a := 48) (by omega) (by omega)).mpr h2, (nI_leI (b := 57) (by omega) (by omega)).mpr h3⟩
theorem c_number {μ : Mem} {τ : Nat → Nat} {n : Nat} {s : Pf} (hs : RdS μ τ n s) {x y : Int32} {lo hi : Nat} (hx : x = nI lo) (hlo : lo < 100) (hy : s.2 = 0 → y = nI hi) (hhi : hi < 100) :
    CtP yX4_number cX4_number 5 (some .int) 1 [vR 31, vI x, vI y] μ (Pi (fun r μ' => r = nI (numS τ n lo hi s).1 ∧ RdS μ' τ n (numS τ n lo hi s).2 ∧ Off31 μ μ')) := by
  refine CtP.go RX4 rfl pn_X4 (Nat.le_of_ble_eq_true rfl) (fun C hG hR => ?_)
  have hp := hs.2.2.2.1
  have hn := hs.1.2.1
  by_cases hf : s.2 = 0
  · have hy := hy hf
    have e38 : V C 38 [(0, vR 31), (1, vI x), (2, vI y), (3, vI (nI (fgN τ n s.1)))] [] μ := by
      by_cases hg : fgN τ n s.1 = 1 ∨ fgN τ n s.1 = 2
      · obtain ⟨l1, l2, l3⟩ := fgN_le hg
        have e1 : (if s.1 < n then μ 14 s.1 else -1) = nI (τ s.1) := by rw [if_pos l2.1]; exact (hs.1.2.2 _ l2.1).1
        have hge : ∀ v, v = valS τ n s.1 → V C 100 [(0, vR 31), (1, vI x), (2, vI y), (3, vI (nI (fgN τ n s.1))), (4, vI (nI v))] [] μ := by
          intro v hv
          have hv100 : v < 1000 := by
            rw [hv]; unfold valS; have := l2.2.2
            split
            · rename_i q; have := (l3 q).2.2; omega
            · omega
          have hnum : numS τ n lo hi s = if lo ≤ v ∧ v ≤ hi then (v, (s.1 + fgN τ n s.1, 0)) else (0, (s.1, 2)) := by
            unfold numS; rw [if_pos hf, if_neg (by omega), hv]
          rw [hnum] at hR
          refine V_iload (pc := 100) hG (dk dd_X4_number 56 rfl) rfl ?_
          refine V_iload_n (pc := 102) hG (dk dd_X4_number 57 rfl) rfl ?_
          refine V_icmp_lt (pc := 103) hG (dk dd_X4_number 58 rfl) (tgt := 112) (by decide) (fun h103 => ?_) (fun h103 => ?_)
          refine V_aload_n (pc := 112) hG (dk dd_X4_number 62 rfl) rfl ?_
          refine V_iconst (pc := 113) hG (dk dd_X4_number 63 rfl) (v := 2) (by decide) ?_
          refine V_callVvp (pc := 114) hG (dk dd_X4_number 64 rfl) ml_X4_79 mo_X4_mark sh_31 rfl (c_mark hs (k := 2) rfl (by decide)) (by decide) (by decide) rfl rfl rfl (fun m114 p114 => ?_)
          refine V_iconst (pc := 117) hG (dk dd_X4_number 65 rfl) (v := 0) (by decide) ?_
          refine V_iretP (pc := 118) hG (dk dd_X4_number 66 rfl) hR (Pi.mk ?_)
          rotate_left
          refine V_iload (pc := 106) hG (dk dd_X4_number 59 rfl) rfl ?_
          refine V_iload_n (pc := 108) hG (dk dd_X4_number 60 rfl) rfl ?_
          refine V_icmp_le (pc := 109) hG (dk dd_X4_number 61 rfl) (tgt := 119) (by decide) (fun h109 => ?_) (fun h109 => ?_)
          refine V_aload_n (pc := 119) hG (dk dd_X4_number 67 rfl) rfl ?_
          refine V_dup (pc := 120) hG (dk dd_X4_number 68 rfl) rfl ?_
          refine V_getI (pc := 121) hG (dk dd_X4_number 69 rfl) fl_X4_19 sh_31 rfl ?_
          refine V_iload_n (pc := 124) hG (dk dd_X4_number 70 rfl) rfl ?_
          refine V_iadd (pc := 125) hG (dk dd_X4_number 71 rfl) ?_
          refine V_putI (pc := 126) hG (dk dd_X4_number 72 rfl) fl_X4_19 sh_31 rfl rfl ?_
          refine V_iload (pc := 129) hG (dk dd_X4_number 73 rfl) rfl ?_
          refine V_iretP (pc := 131) hG (dk dd_X4_number 74 rfl) hR (Pi.mk ?_)
          rotate_left
          refine V_aload_n (pc := 112) hG (dk dd_X4_number 62 rfl) rfl ?_
          refine V_iconst (pc := 113) hG (dk dd_X4_number 63 rfl) (v := 2) (by decide) ?_
          refine V_callVvp (pc := 114) hG (dk dd_X4_number 64 rfl) ml_X4_79 mo_X4_mark sh_31 rfl (c_mark hs (k := 2) rfl (by decide)) (by decide) (by decide) rfl rfl rfl (fun m114 p114 => ?_)
          refine V_iconst (pc := 117) hG (dk dd_X4_number 65 rfl) (v := 0) (by decide) ?_
          refine V_iretP (pc := 118) hG (dk dd_X4_number 66 rfl) hR (Pi.mk ?_)
          rotate_left
          -- leaves: return@118; return@131; return@118
          · rw [hx] at h103
            rw [if_neg (fun q => by have := (nI_ltI (by omega) (by omega)).mp h103; omega)]
            unfold markS at p114; rw [if_pos hf] at p114; exact ⟨rfl, p114⟩
          · rw [hx] at h103; rw [hy] at h109
            have a1 := Nat.not_lt.mp (fun q => h103 ((nI_ltI (by omega) (by omega)).mpr q))
            rw [if_pos ⟨a1, le_i h109 (by omega) (by omega)⟩]
            exact ⟨rfl, ⟨hs.1.off (setc_n (by decide)) (setc_n (by decide)), by rw [setc_s, pk_us, hs.2.1, nI_add], by rw [setc_s, pk_un (by decide)]; exact hs.f0.mpr hf, l1, Nat.zero_le 3⟩, fun a ha => setc_n ha⟩
          · rw [hy] at h109
            rw [if_neg (fun q => h109 ((nI_leI (by omega) (by omega)).mpr q.2))]
            unfold markS at p114; rw [if_pos hf] at p114; exact ⟨rfl, p114⟩
        have hl48 := l2.2.1
        have hl57 := l2.2.2
        refine V_iload_n (pc := 38) hG (dk dd_X4_number 20 rfl) rfl ?_
        refine V_iconst (pc := 39) hG (dk dd_X4_number 21 rfl) (v := 1) (by decide) ?_
        refine V_icmp_lt (pc := 40) hG (dk dd_X4_number 22 rfl) (tgt := 48) (by decide) (fun h40 => ?_) (fun h40 => ?_)
        rotate_left
        refine V_iload_n (pc := 43) hG (dk dd_X4_number 23 rfl) rfl ?_
        refine V_iconst (pc := 44) hG (dk dd_X4_number 24 rfl) (v := 2) (by decide) ?_
        refine V_icmp_le (pc := 45) hG (dk dd_X4_number 25 rfl) (tgt := 55) (by decide) (fun h45 => ?_) (fun h45 => ?_)
        refine V_aload_n (pc := 55) hG (dk dd_X4_number 31 rfl) rfl ?_
        refine V_getR (pc := 56) hG (dk dd_X4_number 32 rfl) fl_X4_9 sh_31 rfl ?_
        refine V_aload_n (pc := 59) hG (dk dd_X4_number 33 rfl) rfl ?_
        refine V_getI (pc := 60) hG (dk dd_X4_number 34 rfl) fl_X4_19 sh_31 rfl ?_
        refine V_callVip (pc := 63) hG (dk dd_X4_number 35 rfl) ml_X4_113 mo_X6_at sh_13 rfl (c_tat hs.1.1 hn hs.2.1 (by omega)) (by decide) (by decide) rfl rfl rfl (fun x63 m63 p63 => ?_)
        refine V_bipush (pc := 66) hG (dk dd_X4_number 36 rfl) (v := 48) (by decide) ?_
        refine V_isub (pc := 68) hG (dk dd_X4_number 37 rfl) ?_
        refine V_istore (pc := 69) hG (dk dd_X4_number 38 rfl) (by decide) (lv' := [(0, _), (1, _), (2, _), (3, _), (4, _)]) rfl ?_
        refine V_iload_n (pc := 71) hG (dk dd_X4_number 39 rfl) rfl ?_
        refine V_iconst (pc := 72) hG (dk dd_X4_number 40 rfl) (v := 2) (by decide) ?_
        refine V_icmp_ne (pc := 73) hG (dk dd_X4_number 41 rfl) (tgt := 100) (by decide) (fun h73 => ?_) (fun h73 => ?_)
        rotate_left
        refine V_bipush (pc := 76) hG (dk dd_X4_number 42 rfl) (v := 10) (by decide) ?_
        refine V_iload (pc := 78) hG (dk dd_X4_number 43 rfl) rfl ?_
        refine V_imul (pc := 80) hG (dk dd_X4_number 44 rfl) ?_
        refine V_aload_n (pc := 81) hG (dk dd_X4_number 45 rfl) rfl ?_
        refine V_getR (pc := 82) hG (dk dd_X4_number 46 rfl) fl_X4_9 sh_31 rfl ?_
        refine V_aload_n (pc := 85) hG (dk dd_X4_number 47 rfl) rfl ?_
        refine V_getI (pc := 86) hG (dk dd_X4_number 48 rfl) fl_X4_19 sh_31 rfl ?_
        refine V_iconst (pc := 89) hG (dk dd_X4_number 49 rfl) (v := 1) (by decide) ?_
        refine V_iadd (pc := 90) hG (dk dd_X4_number 50 rfl) ?_
        refine V_callVip (pc := 91) hG (dk dd_X4_number 51 rfl) ml_X4_113 mo_X6_at sh_13 rfl (c_tat (p := s.1 + 1) (by rw [p63.1]; exact hs.1.1) hn (by rw [p63.1, hs.2.1, nI_1]) (by omega)) (by decide) (by decide) rfl rfl rfl (fun x91 m91 p91 => ?_)
        refine V_iadd (pc := 94) hG (dk dd_X4_number 52 rfl) ?_
        refine V_bipush (pc := 95) hG (dk dd_X4_number 53 rfl) (v := 48) (by decide) ?_
        refine V_isub (pc := 97) hG (dk dd_X4_number 54 rfl) ?_
        refine V_istore (pc := 98) hG (dk dd_X4_number 55 rfl) (by decide) (lv' := [(0, _), (1, _), (2, _), (3, _), (4, _)]) rfl ?_
        rotate_left
        rotate_left
        -- leaves: stop 48; stop 100; stop 100; stop 48
        · exfalso; have := (nI_ltI (b := 1) (by omega) (by decide)).mp h40; omega
        · obtain ⟨rfl, rfl⟩ := p63
          have hne : ¬ fgN τ n s.1 = 2 := fun q => h73 (by rw [q]; rfl)
          rw [e1, show (48 : Int32) = nI 48 from rfl, pk_sub hl48]
          exact hge _ (by unfold valS; rw [if_neg hne])
        · obtain ⟨rfl, rfl⟩ := p63
          obtain ⟨rfl, rfl⟩ := p91
          have he : fgN τ n s.1 = 2 := (nI_eq (b := 2) (by omega) (by decide)).mp h73
          obtain ⟨m1, m2, m3⟩ := l3 he
          rw [e1, if_pos m1, (hs.1.2.2 _ m1).1, show (48 : Int32) = nI 48 from rfl, pk_sub hl48, show (10 : Int32) = nI 10 from rfl, pk_mul, nI_add, pk_sub (by omega)]
          exact hge _ (by unfold valS; rw [if_pos he]; omega)
        · exfalso; exact h45 ((nI_leI (b := 2) (by omega) (by decide)).mpr (by omega))
      · have hg3 : fgN τ n s.1 ≤ 3 := by unfold fgN; split; decide; split; decide; split <;> decide
        have hnum : numS τ n lo hi s = (0, (s.1, 1)) := by unfold numS; rw [if_pos hf, if_pos (by omega)]
        rw [hnum] at hR
        refine V_iload_n (pc := 38) hG (dk dd_X4_number 20 rfl) rfl ?_
        refine V_iconst (pc := 39) hG (dk dd_X4_number 21 rfl) (v := 1) (by decide) ?_
        refine V_icmp_lt (pc := 40) hG (dk dd_X4_number 22 rfl) (tgt := 48) (by decide) (fun h40 => ?_) (fun h40 => ?_)
        refine V_aload_n (pc := 48) hG (dk dd_X4_number 26 rfl) rfl ?_
        refine V_iconst (pc := 49) hG (dk dd_X4_number 27 rfl) (v := 1) (by decide) ?_
        refine V_callVvp (pc := 50) hG (dk dd_X4_number 28 rfl) ml_X4_79 mo_X4_mark sh_31 rfl (c_mark hs (k := 1) rfl (by decide)) (by decide) (by decide) rfl rfl rfl (fun m50 p50 => ?_)
        refine V_iconst (pc := 53) hG (dk dd_X4_number 29 rfl) (v := 0) (by decide) ?_
        refine V_iretP (pc := 54) hG (dk dd_X4_number 30 rfl) hR (Pi.mk ?_)
        rotate_left
        refine V_iload_n (pc := 43) hG (dk dd_X4_number 23 rfl) rfl ?_
        refine V_iconst (pc := 44) hG (dk dd_X4_number 24 rfl) (v := 2) (by decide) ?_
        refine V_icmp_le (pc := 45) hG (dk dd_X4_number 25 rfl) (tgt := 55) (by decide) (fun h45 => ?_) (fun h45 => ?_)
        rotate_left
        refine V_aload_n (pc := 48) hG (dk dd_X4_number 26 rfl) rfl ?_
        refine V_iconst (pc := 49) hG (dk dd_X4_number 27 rfl) (v := 1) (by decide) ?_
        refine V_callVvp (pc := 50) hG (dk dd_X4_number 28 rfl) ml_X4_79 mo_X4_mark sh_31 rfl (c_mark hs (k := 1) rfl (by decide)) (by decide) (by decide) rfl rfl rfl (fun m50 p50 => ?_)
        refine V_iconst (pc := 53) hG (dk dd_X4_number 29 rfl) (v := 0) (by decide) ?_
        refine V_iretP (pc := 54) hG (dk dd_X4_number 30 rfl) hR (Pi.mk ?_)
        rotate_left
        -- leaves: return@54; stop 55; return@54
        · unfold markS at p50; rw [if_pos hf] at p50; exact ⟨rfl, p50⟩
        · exfalso
          have a1 := Nat.not_lt.mp (fun q => h40 ((nI_ltI (b := 1) (by omega) (by decide)).mpr q))
          have a2 := le_i (b := 2) h45 (by omega) (by decide)
          omega
        · unfold markS at p50; rw [if_pos hf] at p50; exact ⟨rfl, p50⟩
    have loop : ∀ k j, j + k = 3 → (∀ i, i < j → fig τ n (s.1 + i)) → V C 11 [(0, vR 31), (1, vI x), (2, vI y), (3, vI (nI j))] [] μ := by
      intro k
      induction k with
      | zero =>
        intro j hj hi
        have e := fgN_eq hi (Or.inl (by omega)) (by omega)
        rw [← e]
        have hg : fgN τ n s.1 = 3 := by omega
        refine V_iload_n (pc := 11) hG (dk dd_X4_number 7 rfl) rfl ?_
        refine V_iconst (pc := 12) hG (dk dd_X4_number 8 rfl) (v := 3) (by decide) ?_
        refine V_icmp_ge (pc := 13) hG (dk dd_X4_number 9 rfl) (tgt := 38) (by decide) (fun h13 => ?_) (fun h13 => ?_)
        rotate_left
        rotate_left
        -- leaves: stop 38; stop 16
        · exact e38
        · exfalso; exact h13 ((nI_leI (a := 3) (by decide) (by omega)).mpr (by omega))
      | succ k ih =>
        intro j hj hi
        have hI := fun z => ih (j + 1) (by omega) z
        rw [nI_succ] at hI
        refine V_iload_n (pc := 11) hG (dk dd_X4_number 7 rfl) rfl ?_
        refine V_iconst (pc := 12) hG (dk dd_X4_number 8 rfl) (v := 3) (by decide) ?_
        refine V_icmp_ge (pc := 13) hG (dk dd_X4_number 9 rfl) (tgt := 38) (by decide) (fun h13 => ?_) (fun h13 => ?_)
        rotate_left
        refine V_aload_n (pc := 16) hG (dk dd_X4_number 10 rfl) rfl ?_
        refine V_getR (pc := 17) hG (dk dd_X4_number 11 rfl) fl_X4_9 sh_31 rfl ?_
        refine V_aload_n (pc := 20) hG (dk dd_X4_number 12 rfl) rfl ?_
        refine V_getI (pc := 21) hG (dk dd_X4_number 13 rfl) fl_X4_19 sh_31 rfl ?_
        refine V_iload_n (pc := 24) hG (dk dd_X4_number 14 rfl) rfl ?_
        refine V_iadd (pc := 25) hG (dk dd_X4_number 15 rfl) ?_
        refine V_callVip (pc := 26) hG (dk dd_X4_number 16 rfl) ml_X4_117 mo_X6_isFigure sh_13 rfl (c_isFigure (p := s.1 + j) hs.1.1 hn (by rw [hs.2.1, nI_add]) (by omega)) (by decide) (by decide) rfl rfl rfl (fun x26 m26 p26 => ?_)
        refine V_if_eq (pc := 29) hG (dk dd_X4_number 17 rfl) (tgt := 38) (by decide) (fun h29 => ?_) (fun h29 => ?_)
        rotate_left
        refine V_iinc (pc := 32) hG (dk dd_X4_number 18 rfl) rfl (v := _ + 1) rfl (by decide) (lv' := [(0, _), (1, _), (2, _), (3, _)]) rfl ?_
        refine V_goto (pc := 35) hG (dk dd_X4_number 19 rfl) (tgt := 11) (by decide) ?_
        rotate_left
        -- leaves: stop 38; stop 38; stop 11
        · exfalso; have := (nI_leI (a := 3) (by decide) (by omega)).mp h13; omega
        · obtain ⟨rfl, p26⟩ := p26
          have e := fgN_eq hi (Or.inr (fun q => p26.no h29 ((isFig_iff hs.1).mpr q))) (by omega)
          rw [← e]; exact e38
        · obtain ⟨rfl, p26⟩ := p26
          refine hI (fun i hi' => ?_)
          by_cases e : i = j
          · subst e; exact (isFig_iff hs.1).mp (p26.yes h29)
          · exact hi i (by omega)
    refine V_aload_n (pc := 0) hG (dk dd_X4_number 0 rfl) rfl ?_
    refine V_getI (pc := 1) hG (dk dd_X4_number 1 rfl) fl_X4_23 sh_31 rfl ?_
    refine V_if_eq (pc := 4) hG (dk dd_X4_number 2 rfl) (tgt := 9) (by decide) (fun h4 => ?_) (fun h4 => ?_)
    refine V_iconst (pc := 9) hG (dk dd_X4_number 5 rfl) (v := 0) (by decide) ?_
    refine V_istore_n (pc := 10) hG (dk dd_X4_number 6 rfl) (by decide) (lv' := [(0, _), (1, _), (2, _), (3, _)]) rfl ?_
    rotate_left
    rotate_left
    -- leaves: stop 11; stop 7
    · exact loop 3 0 (by omega) (fun i hi => absurd hi (Nat.not_lt_zero i))
    · exact absurd (hs.f0.mpr hf) h4
  · have hnum : numS τ n lo hi s = (0, s) := by unfold numS; rw [if_neg hf]
    rw [hnum] at hR
    refine V_aload_n (pc := 0) hG (dk dd_X4_number 0 rfl) rfl ?_
    refine V_getI (pc := 1) hG (dk dd_X4_number 1 rfl) fl_X4_23 sh_31 rfl ?_
    refine V_if_eq (pc := 4) hG (dk dd_X4_number 2 rfl) (tgt := 9) (by decide) (fun h4 => ?_) (fun h4 => ?_)
    rotate_left
    refine V_iconst (pc := 7) hG (dk dd_X4_number 3 rfl) (v := 0) (by decide) ?_
    refine V_iretP (pc := 8) hG (dk dd_X4_number 4 rfl) hR (Pi.mk ?_)
    rotate_left
    -- leaves: stop 9; return@8
    · exact absurd (hs.f0.mp h4) hf
    · exact ⟨rfl, hs, fun _ _ => rfl⟩
end
section
/-! ===== reading: law, dream ===== -/
abbrev Rd : Type := Pf × Al
def lawS (τ : Nat → Nat) (n : Nat) (q : Rd) : Rd :=
  let a := numS τ n 3 8 (pasS τ n 106 q.1)
  let b := numS τ n 0 8 (pasS τ n 44 a.2)
  let c := numS τ n 1 9 (pasS τ n 44 b.2)
  (pasS τ n 59 c.2, updA (updA (updA q.2 0 0 a.1) 0 1 b.1) 0 2 c.1)
def thiS (τ : Nat → Nat) (n : Nat) (α : Al) (s : Pf) : Nat × Pf := numS τ n 0 (α 0 0 - 1) s
theorem numS_le (τ : Nat → Nat) (n lo hi : Nat) (s : Pf) : (numS τ n lo hi s).1 ≤ hi := by
  unfold numS
  split
  · split
    · exact Nat.zero_le _
    · split
      · rename_i h; exact h.2
      · exact Nat.zero_le _
  · exact Nat.zero_le _
theorem numS_ge {τ : Nat → Nat} {n lo hi : Nat} {s : Pf} (h : (numS τ n lo hi s).2.2 = 0) : lo ≤ (numS τ n lo hi s).1 ∧ s.2 = 0 := by
  unfold numS at h ⊢
  split at h
  · rename_i h0
    rw [if_pos h0]
    split at h
    · cases h
    · rename_i h1
      rw [if_neg h1]
      split at h
      · rename_i h2; rw [if_pos h2]; exact ⟨h2.1, h0⟩
      · cases h
  · rename_i h0; exact absurd h h0
theorem pasS_0 {τ : Nat → Nat} {n c : Nat} {s : Pf} (h : (pasS τ n c s).2 = 0) : s.2 = 0 := by
  unfold pasS markS at h
  split at h
  · rename_i q; exact q.1
  · split at h
    · cases h
    · exact h
theorem markS_0 {k : Nat} {s : Pf} (hk : k ≠ 0) (h : (markS k s).2 = 0) : False := by
  unfold markS at h
  split at h
  · exact hk h
  · rename_i q; exact q h
/-- a draft: its numbers; no way is told yet -/
def DrS (μ : Mem) (α : Al) : Prop := Abs (kac μ 23) α ∧ (∀ c, c < 5 → μ 30 c = 0)
/-- only the draft and the reader have changed -/
def OffD (μ μ' : Mem) : Prop := ∀ a, (a < 23 ∨ 31 < a) → μ' a = μ a
theorem OffD.tr {μ1 μ2 μ3 : Mem} (h : OffD μ1 μ2) (k : OffD μ2 μ3) : OffD μ1 μ3 := fun a ha => (k a ha).trans (h a ha)
theorem Off31.d {μ μ' : Mem} (h : Off31 μ μ') : OffD μ μ' := fun a ha => h a (by omega)
theorem DrS.off {μ μ' : Mem} {α : Al} (h : DrS μ α) (k : Off31 μ μ') : DrS μ' α := ⟨h.1.off (fun x hx => k _ (by omega)), fun c hc => by rw [k 30 (by decide)]; exact h.2 c hc⟩
/-- a scalar of the draft is another -/
theorem DrS.put {μ : Mem} {α : Al} {k v : Nat} {x : Int32} (h : DrS μ α) (hk : k < 6) (hx : x = nI v) : DrS (setc μ 23 (upd (μ 23) k x)) (updA α 0 k v) := by
  refine ⟨⟨fun i hi => ?_, fun y q h1 h2 h3 => ?_, fun y q h1 h2 h3 => ?_⟩, fun c hc => by rw [setc_n (by decide)]; exact h.2 c hc⟩
  · show setc μ 23 (upd (μ 23) k x) 23 i = _
    rw [setc_s]
    by_cases e : i = k
    · subst e; rw [pk_us, updA_s]; exact hx
    · rw [pk_un e, updA_n (by omega)]; exact h.1.1 i hi
  · rw [updA_n (by omega)] at h3 ⊢
    show setc μ 23 (upd (μ 23) k x) (23 + y) q = _
    rw [setc_n (by omega)]; exact h.1.2.1 y q h1 h2 h3
  · rw [updA_n (by omega)] at h3 ⊢
    show setc μ 23 (upd (μ 23) k x) (23 + y) q = _
    rw [setc_n (by omega)]; exact h.1.2.2 y q h1 h2 h3
theorem RdS.set {μ : Mem} {τ : Nat → Nat} {n : Nat} {s : Pf} {a : Nat} {f : Nat → Int32} (h : RdS μ τ n s) (ha : 23 ≤ a ∧ a ≤ 30) : RdS (setc μ a f) τ n s :=
  ⟨h.1.off (setc_n (by omega)) (setc_n (by omega)), by rw [setc_n (by omega)]; exact h.2.1, by rw [setc_n (by omega)]; exact h.2.2.1, h.2.2.2⟩
theorem offD_set {μ : Mem} {a : Nat} {f : Nat → Int32} (ha : 23 ≤ a ∧ a ≤ 31) : OffD μ (setc μ a f) := fun b hb => setc_n (by omega)
theorem c_readLaw {μ : Mem} {τ : Nat → Nat} {n : Nat} {q : Rd} (hs : RdS μ τ n q.1) (hD : DrS μ q.2) : CtP yX4_readLaw cX4_readLaw 1 none 3 [vR 31] μ (Pv (fun μ' => RdS μ' τ n (lawS τ n q).1 ∧ DrS μ' (lawS τ n q).2 ∧ OffD μ μ')) := by
  refine CtP.go RX4 rfl pn_X4 (Nat.le_of_ble_eq_true rfl) (fun C hG hR => ?_)
  refine V_aload_n (pc := 0) hG (dk dd_X4_readLaw 0 rfl) rfl ?_
  refine V_bipush (pc := 1) hG (dk dd_X4_readLaw 1 rfl) (v := 106) (by decide) ?_
  refine V_callVvp (pc := 3) hG (dk dd_X4_readLaw 2 rfl) ml_X4_48 mo_X4_pass sh_31 rfl (c_pass hs (c := 106) rfl (by decide)) (by decide) (by decide) rfl rfl rfl (fun m3 p3 => ?_)
  refine V_aload_n (pc := 6) hG (dk dd_X4_readLaw 3 rfl) rfl ?_
  refine V_getR (pc := 7) hG (dk dd_X4_readLaw 4 rfl) fl_X4_15 sh_31 rfl ?_
  refine V_aload_n (pc := 10) hG (dk dd_X4_readLaw 5 rfl) rfl ?_
  refine V_iconst (pc := 11) hG (dk dd_X4_readLaw 6 rfl) (v := 3) (by decide) ?_
  refine V_bipush (pc := 12) hG (dk dd_X4_readLaw 7 rfl) (v := 8) (by decide) ?_
  refine V_callVip (pc := 14) hG (dk dd_X4_readLaw 8 rfl) ml_X4_52 mo_X4_number sh_31 rfl (c_number p3.1 (lo := 3) (hi := 8) rfl (by decide) (fun _ => rfl) (by decide)) (by decide) (by decide) rfl rfl rfl (fun x14 m14 p14 => ?_)
  refine V_putI (pc := 17) hG (dk dd_X4_readLaw 9 rfl) fl_X4_56 sh_23 rfl rfl ?_
  refine V_aload_n (pc := 20) hG (dk dd_X4_readLaw 10 rfl) rfl ?_
  refine V_bipush (pc := 21) hG (dk dd_X4_readLaw 11 rfl) (v := 44) (by decide) ?_
  refine V_callVvp (pc := 23) hG (dk dd_X4_readLaw 12 rfl) ml_X4_48 mo_X4_pass sh_31 rfl (c_pass (p14.2.1.set (by decide)) (c := 44) rfl (by decide)) (by decide) (by decide) rfl rfl rfl (fun m23 p23 => ?_)
  refine V_aload_n (pc := 26) hG (dk dd_X4_readLaw 13 rfl) rfl ?_
  refine V_getR (pc := 27) hG (dk dd_X4_readLaw 14 rfl) fl_X4_15 sh_31 rfl ?_
  refine V_aload_n (pc := 30) hG (dk dd_X4_readLaw 15 rfl) rfl ?_
  refine V_iconst (pc := 31) hG (dk dd_X4_readLaw 16 rfl) (v := 0) (by decide) ?_
  refine V_bipush (pc := 32) hG (dk dd_X4_readLaw 17 rfl) (v := 8) (by decide) ?_
  refine V_callVip (pc := 34) hG (dk dd_X4_readLaw 18 rfl) ml_X4_52 mo_X4_number sh_31 rfl (c_number p23.1 (lo := 0) (hi := 8) rfl (by decide) (fun _ => rfl) (by decide)) (by decide) (by decide) rfl rfl rfl (fun x34 m34 p34 => ?_)
  refine V_putI (pc := 37) hG (dk dd_X4_readLaw 19 rfl) fl_X4_59 sh_23 rfl rfl ?_
  refine V_aload_n (pc := 40) hG (dk dd_X4_readLaw 20 rfl) rfl ?_
  refine V_bipush (pc := 41) hG (dk dd_X4_readLaw 21 rfl) (v := 44) (by decide) ?_
  refine V_callVvp (pc := 43) hG (dk dd_X4_readLaw 22 rfl) ml_X4_48 mo_X4_pass sh_31 rfl (c_pass (p34.2.1.set (by decide)) (c := 44) rfl (by decide)) (by decide) (by decide) rfl rfl rfl (fun m43 p43 => ?_)
  refine V_aload_n (pc := 46) hG (dk dd_X4_readLaw 23 rfl) rfl ?_
  refine V_getR (pc := 47) hG (dk dd_X4_readLaw 24 rfl) fl_X4_15 sh_31 rfl ?_
  refine V_aload_n (pc := 50) hG (dk dd_X4_readLaw 25 rfl) rfl ?_
  refine V_iconst (pc := 51) hG (dk dd_X4_readLaw 26 rfl) (v := 1) (by decide) ?_
  refine V_bipush (pc := 52) hG (dk dd_X4_readLaw 27 rfl) (v := 9) (by decide) ?_
  refine V_callVip (pc := 54) hG (dk dd_X4_readLaw 28 rfl) ml_X4_52 mo_X4_number sh_31 rfl (c_number p43.1 (lo := 1) (hi := 9) rfl (by decide) (fun _ => rfl) (by decide)) (by decide) (by decide) rfl rfl rfl (fun x54 m54 p54 => ?_)
  refine V_putI (pc := 57) hG (dk dd_X4_readLaw 29 rfl) fl_X4_62 sh_23 rfl rfl ?_
  refine V_aload_n (pc := 60) hG (dk dd_X4_readLaw 30 rfl) rfl ?_
  refine V_bipush (pc := 61) hG (dk dd_X4_readLaw 31 rfl) (v := 59) (by decide) ?_
  refine V_callVvp (pc := 63) hG (dk dd_X4_readLaw 32 rfl) ml_X4_48 mo_X4_pass sh_31 rfl (c_pass (p54.2.1.set (by decide)) (c := 59) rfl (by decide)) (by decide) (by decide) rfl rfl rfl (fun m63 p63 => ?_)
  refine V_vretP (pc := 66) hG (dk dd_X4_readLaw 33 rfl) hR (Pv.mk ?_)
  rotate_left
  -- leaves: return@66
  · exact ⟨p63.1, ((((((((hD.off p3.2).off p14.2.2).put (by decide) p14.1).off p23.2).off p34.2.2).put (by decide) p34.1).off p43.2).off p54.2.2).put (by decide) p54.1 |>.off p63.2, (((p3.2.d.tr p14.2.2.d).tr ((offD_set (by decide)).tr p23.2.d)).tr (p34.2.2.d.tr ((offD_set (by decide)).tr p43.2.d))).tr (p54.2.2.d.tr ((offD_set (by decide)).tr p63.2.d))⟩
theorem c_thing {μ : Mem} {τ : Nat → Nat} {n : Nat} {s : Pf} {α : Al} (hs : RdS μ τ n s) (hD : DrS μ α) (h0 : s.2 = 0 → 1 ≤ α 0 0) (h8 : α 0 0 ≤ 8) : CtP yX4_thing cX4_thing 1 (some .int) 2 [vR 31] μ (Pi (fun r μ' => r = nI (thiS τ n α s).1 ∧ RdS μ' τ n (thiS τ n α s).2 ∧ Off31 μ μ')) := by
  refine CtP.go RX4 rfl pn_X4 (Nat.le_of_ble_eq_true rfl) (fun C hG hR => ?_)
  refine V_aload_n (pc := 0) hG (dk dd_X4_thing 0 rfl) rfl ?_
  refine V_iconst (pc := 1) hG (dk dd_X4_thing 1 rfl) (v := 0) (by decide) ?_
  refine V_aload_n (pc := 2) hG (dk dd_X4_thing 2 rfl) rfl ?_
  refine V_getR (pc := 3) hG (dk dd_X4_thing 3 rfl) fl_X4_15 sh_31 rfl ?_
  refine V_getI (pc := 6) hG (dk dd_X4_thing 4 rfl) fl_X4_56 sh_23 rfl ?_
  refine V_iconst (pc := 9) hG (dk dd_X4_thing 5 rfl) (v := 1) (by decide) ?_
  refine V_isub (pc := 10) hG (dk dd_X4_thing 6 rfl) ?_
  refine V_callVip (pc := 11) hG (dk dd_X4_thing 7 rfl) ml_X4_52 mo_X4_number sh_31 rfl (c_number hs (lo := 0) (hi := α 0 0 - 1) rfl (by decide) (fun hf => by rw [show μ 23 0 = nI (α 0 0) from hD.1.1 0 (by decide), show (1 : Int32) = nI 1 from rfl, pk_sub (h0 hf)]) (by omega)) (by decide) (by decide) rfl rfl rfl (fun x11 m11 p11 => ?_)
  refine V_iretP (pc := 14) hG (dk dd_X4_thing 8 rfl) hR (Pi.mk ?_)
  rotate_left
  -- leaves: return@14
  · exact p11
def drlS (τ : Nat → Nat) (n : Nat) : Nat → Rd → Rd
  | 0, q => q
  | k + 1, q => if nexS τ n 44 q.1 then drlS τ n k ((thiS τ n q.2 (pasS τ n 44 q.1)).2, updA q.2 0 3 (q.2 0 3 ||| 2 ^ (thiS τ n q.2 (pasS τ n 44 q.1)).1)) else q
theorem drlS_s (τ : Nat → Nat) (n k : Nat) (q : Rd) : drlS τ n (k + 1) q = if nexS τ n 44 q.1 then drlS τ n k ((thiS τ n q.2 (pasS τ n 44 q.1)).2, updA q.2 0 3 (q.2 0 3 ||| 2 ^ (thiS τ n q.2 (pasS τ n 44 q.1)).1)) else q := rfl
def drmS (τ : Nat → Nat) (n : Nat) (q : Rd) : Rd :=
  let a := thiS τ n q.2 (pasS τ n 100 q.1)
  let b := drlS τ n 120 (a.2, updA q.2 0 3 (2 ^ a.1))
  (pasS τ n 59 b.1, b.2)
theorem thiS_lt {τ : Nat → Nat} {n : Nat} {α : Al} {s : Pf} (h8 : α 0 0 ≤ 8) : (thiS τ n α s).1 < 8 := by have := numS_le τ n 0 (α 0 0 - 1) s; unfold thiS; omega
theorem c_readDream {μ : Mem} {τ : Nat → Nat} {n : Nat} {q : Rd} (hs : RdS μ τ n q.1) (hD : DrS μ q.2) (h0 : q.1.2 = 0 → 1 ≤ q.2 0 0) (h8 : q.2 0 0 ≤ 8) :
    CtP yX4_readDream cX4_readDream 2 none 3 [vR 31] μ (Pv (fun μ' => RdS μ' τ n (drmS τ n q).1 ∧ DrS μ' (drmS τ n q).2 ∧ OffD μ μ')) := by
  refine CtP.go RX4 rfl pn_X4 (Nat.le_of_ble_eq_true rfl) (fun C hG hR => ?_)
  have loop : ∀ k i μ1 (u : Rd), i + k = 120 → RdS μ1 τ n u.1 → DrS μ1 u.2 → OffD μ μ1 → u.2 0 0 = q.2 0 0 → u.2 0 3 < 256 → drlS τ n k u = drlS τ n 120 ((thiS τ n q.2 (pasS τ n 100 q.1)).2, updA q.2 0 3 (2 ^ (thiS τ n q.2 (pasS τ n 100 q.1)).1)) → (u.1.2 = 0 → q.1.2 = 0) → V C 21 [(0, vR 31), (1, vI (nI i))] [] μ1 := by
    have fin : ∀ μ1 (u : Rd), RdS μ1 τ n u.1 → DrS μ1 u.2 → OffD μ μ1 → u = drlS τ n 120 ((thiS τ n q.2 (pasS τ n 100 q.1)).2, updA q.2 0 3 (2 ^ (thiS τ n q.2 (pasS τ n 100 q.1)).1)) → ∀ i, V C 66 [(0, vR 31), (1, vI (nI i))] [] μ1 := by
      intro μ1 u f1 f2 f3 f4 i
      refine V_aload_n (pc := 66) hG (dk dd_X4_readDream 34 rfl) rfl ?_
      refine V_bipush (pc := 67) hG (dk dd_X4_readDream 35 rfl) (v := 59) (by decide) ?_
      refine V_callVvp (pc := 69) hG (dk dd_X4_readDream 36 rfl) ml_X4_48 mo_X4_pass sh_31 rfl (c_pass f1 (c := 59) rfl (by decide)) (by decide) (by decide) rfl rfl rfl (fun m69 p69 => ?_)
      refine V_vretP (pc := 72) hG (dk dd_X4_readDream 37 rfl) hR (Pv.mk ?_)
      rotate_left
      -- leaves: return@72
      · rw [f4] at p69 f2
        exact ⟨p69.1, f2.off p69.2, f3.tr p69.2.d⟩
    intro k
    induction k with
    | zero =>
      intro i μ1 u hi f1 f2 f3 f4 f5 f6 f7
      refine V_iload_n (pc := 21) hG (dk dd_X4_readDream 12 rfl) rfl ?_
      refine V_bipush (pc := 22) hG (dk dd_X4_readDream 13 rfl) (v := 120) (by decide) ?_
      refine V_icmp_ge (pc := 24) hG (dk dd_X4_readDream 14 rfl) (tgt := 66) (by decide) (fun h24 => ?_) (fun h24 => ?_)
      rotate_left
      rotate_left
      -- leaves: stop 66; stop 27
      · exact fin μ1 u f1 f2 f3 f6 i
      · exfalso; have := nle_i (a := 120) h24 (by omega) (by omega); omega
    | succ k ih =>
      intro i μ1 u hi f1 f2 f3 f4 f5 f6 f7
      rw [drlS_s] at f6
      refine V_iload_n (pc := 21) hG (dk dd_X4_readDream 12 rfl) rfl ?_
      refine V_bipush (pc := 22) hG (dk dd_X4_readDream 13 rfl) (v := 120) (by decide) ?_
      refine V_icmp_ge (pc := 24) hG (dk dd_X4_readDream 14 rfl) (tgt := 66) (by decide) (fun h24 => ?_) (fun h24 => ?_)
      rotate_left
      refine V_aload_n (pc := 27) hG (dk dd_X4_readDream 15 rfl) rfl ?_
      refine V_bipush (pc := 28) hG (dk dd_X4_readDream 16 rfl) (v := 44) (by decide) ?_
      refine V_callVip (pc := 30) hG (dk dd_X4_readDream 17 rfl) ml_X4_72 mo_X4_isNext sh_31 rfl (c_isNext f1 (c := 44) rfl (by decide)) (by decide) (by decide) rfl rfl rfl (fun x30 m30 p30 => ?_)
      refine V_if_eq (pc := 33) hG (dk dd_X4_readDream 18 rfl) (tgt := 66) (by decide) (fun h33 => ?_) (fun h33 => ?_)
      rotate_left
      refine V_aload_n (pc := 36) hG (dk dd_X4_readDream 19 rfl) rfl ?_
      refine V_bipush (pc := 37) hG (dk dd_X4_readDream 20 rfl) (v := 44) (by decide) ?_
      refine V_callVvp (pc := 39) hG (dk dd_X4_readDream 21 rfl) ml_X4_48 mo_X4_pass sh_31 rfl (c_pass (p30.1 ▸ f1) (c := 44) rfl (by decide)) (by decide) (by decide) rfl rfl rfl (fun m39 p39 => ?_)
      refine V_aload_n (pc := 42) hG (dk dd_X4_readDream 22 rfl) rfl ?_
      refine V_getR (pc := 43) hG (dk dd_X4_readDream 23 rfl) fl_X4_15 sh_31 rfl ?_
      refine V_dup (pc := 46) hG (dk dd_X4_readDream 24 rfl) rfl ?_
      refine V_getI (pc := 47) hG (dk dd_X4_readDream 25 rfl) fl_X4_69 sh_23 rfl ?_
      refine V_iconst (pc := 50) hG (dk dd_X4_readDream 26 rfl) (v := 1) (by decide) ?_
      refine V_aload_n (pc := 51) hG (dk dd_X4_readDream 27 rfl) rfl ?_
      refine V_callVip (pc := 52) hG (dk dd_X4_readDream 28 rfl) ml_X4_65 mo_X4_thing sh_31 rfl (c_thing (α := u.2) p39.1 ((p30.1 ▸ f2 : DrS m30 u.2).off p39.2) (fun z => by rw [f4]; exact h0 (f7 (pasS_0 z))) (by rw [f4]; exact h8)) (by decide) (by decide) rfl rfl rfl (fun x52 m52 p52 => ?_)
      refine V_ishl (pc := 55) hG (dk dd_X4_readDream 29 rfl) ?_
      refine V_ior (pc := 56) hG (dk dd_X4_readDream 30 rfl) ?_
      refine V_putI (pc := 57) hG (dk dd_X4_readDream 31 rfl) fl_X4_69 sh_23 rfl rfl ?_
      refine V_iinc (pc := 60) hG (dk dd_X4_readDream 32 rfl) rfl (v := _ + 1) rfl (by decide) (lv' := [(0, _), (1, _)]) rfl ?_
      refine V_goto (pc := 63) hG (dk dd_X4_readDream 33 rfl) (tgt := 21) (by decide) ?_
      rotate_left
      -- leaves: stop 66; stop 66; stop 21
      · exfalso; have := le_i (a := 120) h24 (by omega) (by omega); omega
      · obtain ⟨rfl, p30⟩ := p30
        rw [if_neg (p30.no h33)] at f6
        exact fin m30 u f1 f2 f3 f6 i
      · obtain ⟨rfl, p30⟩ := p30
        rw [if_pos (p30.yes h33)] at f6
        obtain ⟨rfl, q1, q2⟩ := p52
        have ht := thiS_lt (τ := τ) (n := n) (α := u.2) (s := pasS τ n 44 u.1) (by rw [f4]; exact h8)
        have hd3 := (f2.off p39.2)
        have e3 : m39 23 3 = nI (u.2 0 3) := hd3.1.1 3 (by decide)
        rw [e3, bI_eq, q_or _ f5 _ ht]
        have hI := ih (i + 1) (setc m52 23 (upd (m52 23) 3 (nI (u.2 0 3 ||| 2 ^ (thiS τ n u.2 (pasS τ n 44 u.1)).1)))) ((thiS τ n u.2 (pasS τ n 44 u.1)).2, updA u.2 0 3 (u.2 0 3 ||| 2 ^ (thiS τ n u.2 (pasS τ n 44 u.1)).1)) (by omega) (q1.set (by decide)) ((hd3.off q2).put (by decide) rfl) ((f3.tr p39.2.d).tr (q2.d.tr (offD_set (by decide)))) (by dsimp only; rw [updA_n (by omega)]; exact f4) (by dsimp only; rw [updA_s]; exact or_lt (t := 8) f5 ht) f6 (fun z => f7 (pasS_0 (numS_ge z).2))
        rw [nI_succ] at hI
        exact hI
  refine V_aload_n (pc := 0) hG (dk dd_X4_readDream 0 rfl) rfl ?_
  refine V_bipush (pc := 1) hG (dk dd_X4_readDream 1 rfl) (v := 100) (by decide) ?_
  refine V_callVvp (pc := 3) hG (dk dd_X4_readDream 2 rfl) ml_X4_48 mo_X4_pass sh_31 rfl (c_pass hs (c := 100) rfl (by decide)) (by decide) (by decide) rfl rfl rfl (fun m3 p3 => ?_)
  refine V_aload_n (pc := 6) hG (dk dd_X4_readDream 3 rfl) rfl ?_
  refine V_getR (pc := 7) hG (dk dd_X4_readDream 4 rfl) fl_X4_15 sh_31 rfl ?_
  refine V_iconst (pc := 10) hG (dk dd_X4_readDream 5 rfl) (v := 1) (by decide) ?_
  refine V_aload_n (pc := 11) hG (dk dd_X4_readDream 6 rfl) rfl ?_
  refine V_callVip (pc := 12) hG (dk dd_X4_readDream 7 rfl) ml_X4_65 mo_X4_thing sh_31 rfl (c_thing (α := q.2) p3.1 (hD.off p3.2) (fun z => h0 (pasS_0 z)) h8) (by decide) (by decide) rfl rfl rfl (fun x12 m12 p12 => ?_)
  refine V_ishl (pc := 15) hG (dk dd_X4_readDream 8 rfl) ?_
  refine V_putI (pc := 16) hG (dk dd_X4_readDream 9 rfl) fl_X4_69 sh_23 rfl rfl ?_
  refine V_iconst (pc := 19) hG (dk dd_X4_readDream 10 rfl) (v := 0) (by decide) ?_
  refine V_istore_n (pc := 20) hG (dk dd_X4_readDream 11 rfl) (by decide) (lv' := [(0, _), (1, _)]) rfl ?_
  rotate_left
  -- leaves: stop 21
  · obtain ⟨rfl, q1, q2⟩ := p12
    have ht := thiS_lt (τ := τ) (n := n) (α := q.2) (s := pasS τ n 100 q.1) h8
    rw [bI_eq, q_pow _ (by omega)]
    exact loop 120 0 _ ((thiS τ n q.2 (pasS τ n 100 q.1)).2, updA q.2 0 3 (2 ^ (thiS τ n q.2 (pasS τ n 100 q.1)).1)) (by omega) (q1.set (by decide)) (((hD.off p3.2).off q2).put (by decide) rfl) ((p3.2.d.tr q2.d).tr (offD_set (by decide))) (by dsimp only; rw [updA_n (by omega)]) (by dsimp only; rw [updA_s]; exact Nat.pow_lt_pow_right (by decide) ht) rfl (fun z => pasS_0 (numS_ge z).2)
end
section
/-! ===== reading: hums, cases, all ===== -/
def humS (τ : Nat → Nat) (n : Nat) (q : Rd) : Rd :=
  let a := thiS τ n q.2 (q.1.1 + 1, q.1.2)
  let b := thiS τ n q.2 (pasS τ n 44 a.2)
  (pasS τ n 59 b.2, updA (updA (updA (updA q.2 1 (q.2 0 6) (kdS τ n q.1)) 2 (q.2 0 6) a.1) 3 (q.2 0 6) b.1) 0 6 (q.2 0 6 + 1))
theorem kdS_le (τ : Nat → Nat) (n : Nat) (s : Pf) : kdS τ n s ≤ 5 := by
  unfold kdS kdC
  split
  · split; decide; split; decide; split; decide; split; decide; split <;> decide
  · decide
theorem kdS_0 {τ : Nat → Nat} {n : Nat} {s : Pf} (h : kdS τ n s ≠ 0) : s.2 = 0 ∧ s.1 < n := by
  unfold kdS at h
  by_cases q : s.2 = 0 ∧ s.1 < n
  · exact q
  · rw [if_neg q] at h; exact absurd rfl h
set_option maxHeartbeats 1000000 in
theorem c_readHum {μ : Mem} {τ : Nat → Nat} {n : Nat} {q : Rd} (hs : RdS μ τ n q.1) (hD : DrS μ q.2) (h0 : q.1.2 = 0 → 1 ≤ q.2 0 0) (h8 : q.2 0 0 ≤ 8) (hk : kdS τ n q.1 ≠ 0) (h6 : q.2 0 6 < 6) (h5 : q.2 0 7 ≤ 5) :
    CtP yX4_readHum cX4_readHum 2 none 3 [vR 31] μ (Pv (fun μ' => RdS μ' τ n (humS τ n q).1 ∧ DrS μ' (humS τ n q).2 ∧ OffD μ μ')) := by
  refine CtP.go RX4 rfl pn_X4 (Nat.le_of_ble_eq_true rfl) (fun C hG hR => ?_)
  obtain ⟨hf, hpn⟩ := kdS_0 hk
  have e6 : μ 23 6 = nI (q.2 0 6) := hD.1.1 6 (by decide)
  have hr : vp_in (μ 23 6) 6 := in_nI e6 h6 (by decide)
  have cr : (μ 23 6).toNatClampNeg = q.2 0 6 := nI_cl e6 (by omega)
  have e0 : μ 23 0 = nI (q.2 0 0) := hD.1.1 0 (by decide)
  have hn := hs.1.2.1
  -- the draft's scalars alone matter for what is read
  have drs : ∀ μ1 : Mem, μ1 23 = μ 23 → ∀ s, RdS μ1 τ n s → (s.2 = 0 → q.1.2 = 0) → CtP yX4_thing cX4_thing 1 (some .int) 2 [vR 31] μ1 (Pi (fun r μ' => r = nI (thiS τ n q.2 s).1 ∧ RdS μ' τ n (thiS τ n q.2 s).2 ∧ Off31 μ1 μ')) := by
    intro μ1 hm s hs1 _
    refine CtP.go RX4 rfl pn_X4 (Nat.le_of_ble_eq_true rfl) (fun C hG hR => ?_)
    refine V_aload_n (pc := 0) hG (dk dd_X4_thing 0 rfl) rfl ?_
    refine V_iconst (pc := 1) hG (dk dd_X4_thing 1 rfl) (v := 0) (by decide) ?_
    refine V_aload_n (pc := 2) hG (dk dd_X4_thing 2 rfl) rfl ?_
    refine V_getR (pc := 3) hG (dk dd_X4_thing 3 rfl) fl_X4_15 sh_31 rfl ?_
    refine V_getI (pc := 6) hG (dk dd_X4_thing 4 rfl) fl_X4_56 sh_23 rfl ?_
    refine V_iconst (pc := 9) hG (dk dd_X4_thing 5 rfl) (v := 1) (by decide) ?_
    refine V_isub (pc := 10) hG (dk dd_X4_thing 6 rfl) ?_
    refine V_callVip (pc := 11) hG (dk dd_X4_thing 7 rfl) ml_X4_52 mo_X4_number sh_31 rfl (c_number hs1 (lo := 0) (hi := q.2 0 0 - 1) rfl (by decide) (fun _ => by rw [hm, e0, show (1 : Int32) = nI 1 from rfl, pk_sub (h0 hf)]) (by omega)) (by decide) (by decide) rfl rfl rfl (fun x11 m11 p11 => ?_)
    refine V_iretP (pc := 14) hG (dk dd_X4_thing 8 rfl) hR (Pi.mk ?_)
    rotate_left
    -- leaves: return@14
    · exact p11
  have s1 : ∀ μ1 : Mem, RdS μ1 τ n q.1 → RdS (setc μ1 31 (upd (μ1 31) 2 (μ1 31 2 + 1))) τ n (q.1.1 + 1, q.1.2) := fun μ1 h => ⟨h.1.off (setc_n (by decide)) (setc_n (by decide)), by rw [setc_s, pk_us, h.2.1, nI_1], by rw [setc_s, pk_un (by decide)]; exact h.2.2.1, hpn, h.2.2.2.2⟩
  refine V_aload_n (pc := 0) hG (dk dd_X4_readHum 0 rfl) rfl ?_
  refine V_getR (pc := 1) hG (dk dd_X4_readHum 1 rfl) fl_X4_15 sh_31 rfl ?_
  refine V_getI (pc := 4) hG (dk dd_X4_readHum 2 rfl) fl_X4_82 sh_23 rfl ?_
  refine V_istore_n (pc := 7) hG (dk dd_X4_readHum 3 rfl) (by decide) (lv' := [(0, _), (1, _)]) rfl ?_
  refine V_aload_n (pc := 8) hG (dk dd_X4_readHum 4 rfl) rfl ?_
  refine V_getR (pc := 9) hG (dk dd_X4_readHum 5 rfl) fl_X4_15 sh_31 rfl ?_
  refine V_getR (pc := 12) hG (dk dd_X4_readHum 6 rfl) fl_X4_88 sh_23 rfl ?_
  refine V_iload_n (pc := 15) hG (dk dd_X4_readHum 7 rfl) rfl ?_
  refine V_aload_n (pc := 16) hG (dk dd_X4_readHum 8 rfl) rfl ?_
  refine V_callVip (pc := 17) hG (dk dd_X4_readHum 9 rfl) ml_X4_76 mo_X4_kindNext sh_31 rfl (c_kindNext hs) (by decide) (by decide) rfl rfl rfl (fun x17 m17 p17 => ?_)
  refine V_iast (pc := 20) hG (dk dd_X4_readHum 10 rfl) sh_24 hr ?_
  refine V_aload_n (pc := 21) hG (dk dd_X4_readHum 11 rfl) rfl ?_
  refine V_dup (pc := 22) hG (dk dd_X4_readHum 12 rfl) rfl ?_
  refine V_getI (pc := 23) hG (dk dd_X4_readHum 13 rfl) fl_X4_19 sh_31 rfl ?_
  refine V_iconst (pc := 26) hG (dk dd_X4_readHum 14 rfl) (v := 1) (by decide) ?_
  refine V_iadd (pc := 27) hG (dk dd_X4_readHum 15 rfl) ?_
  refine V_putI (pc := 28) hG (dk dd_X4_readHum 16 rfl) fl_X4_19 sh_31 rfl rfl ?_
  refine V_aload_n (pc := 31) hG (dk dd_X4_readHum 17 rfl) rfl ?_
  refine V_getR (pc := 32) hG (dk dd_X4_readHum 18 rfl) fl_X4_15 sh_31 rfl ?_
  refine V_getR (pc := 35) hG (dk dd_X4_readHum 19 rfl) fl_X4_92 sh_23 rfl ?_
  refine V_iload_n (pc := 38) hG (dk dd_X4_readHum 20 rfl) rfl ?_
  refine V_aload_n (pc := 39) hG (dk dd_X4_readHum 21 rfl) rfl ?_
  refine V_callVip (pc := 40) hG (dk dd_X4_readHum 22 rfl) ml_X4_65 mo_X4_thing sh_31 rfl (drs _ (by rw [setc_n (by decide), setc_n (by decide), p17.1]) _ (s1 _ ((p17.1 ▸ hs : RdS m17 τ n q.1).set (by decide))) (fun z => z)) (by decide) (by decide) rfl rfl rfl (fun x40 m40 p40 => ?_)
  refine V_iast (pc := 43) hG (dk dd_X4_readHum 23 rfl) sh_25 hr ?_
  refine V_aload_n (pc := 44) hG (dk dd_X4_readHum 24 rfl) rfl ?_
  refine V_bipush (pc := 45) hG (dk dd_X4_readHum 25 rfl) (v := 44) (by decide) ?_
  refine V_callVvp (pc := 47) hG (dk dd_X4_readHum 26 rfl) ml_X4_48 mo_X4_pass sh_31 rfl (c_pass (p40.2.1.set (by decide)) (c := 44) rfl (by decide)) (by decide) (by decide) rfl rfl rfl (fun m47 p47 => ?_)
  refine V_aload_n (pc := 50) hG (dk dd_X4_readHum 27 rfl) rfl ?_
  refine V_getR (pc := 51) hG (dk dd_X4_readHum 28 rfl) fl_X4_15 sh_31 rfl ?_
  refine V_getR (pc := 54) hG (dk dd_X4_readHum 29 rfl) fl_X4_95 sh_23 rfl ?_
  refine V_iload_n (pc := 57) hG (dk dd_X4_readHum 30 rfl) rfl ?_
  refine V_aload_n (pc := 58) hG (dk dd_X4_readHum 31 rfl) rfl ?_
  refine V_callVip (pc := 59) hG (dk dd_X4_readHum 32 rfl) ml_X4_65 mo_X4_thing sh_31 rfl (drs _ (by rw [p47.2 23 (by decide), setc_n (by decide), p40.2.2 23 (by decide), setc_n (by decide), setc_n (by decide), p17.1]) _ p47.1 (fun z => (numS_ge (pasS_0 z)).2)) (by decide) (by decide) rfl rfl rfl (fun x59 m59 p59 => ?_)
  refine V_iast (pc := 62) hG (dk dd_X4_readHum 33 rfl) sh_26 hr ?_
  refine V_aload_n (pc := 63) hG (dk dd_X4_readHum 34 rfl) rfl ?_
  refine V_bipush (pc := 64) hG (dk dd_X4_readHum 35 rfl) (v := 59) (by decide) ?_
  refine V_callVvp (pc := 66) hG (dk dd_X4_readHum 36 rfl) ml_X4_48 mo_X4_pass sh_31 rfl (c_pass (p59.2.1.set (by decide)) (c := 59) rfl (by decide)) (by decide) (by decide) rfl rfl rfl (fun m66 p66 => ?_)
  refine V_aload_n (pc := 69) hG (dk dd_X4_readHum 37 rfl) rfl ?_
  refine V_getR (pc := 70) hG (dk dd_X4_readHum 38 rfl) fl_X4_15 sh_31 rfl ?_
  refine V_dup (pc := 73) hG (dk dd_X4_readHum 39 rfl) rfl ?_
  refine V_getI (pc := 74) hG (dk dd_X4_readHum 40 rfl) fl_X4_82 sh_23 rfl ?_
  refine V_iconst (pc := 77) hG (dk dd_X4_readHum 41 rfl) (v := 1) (by decide) ?_
  refine V_iadd (pc := 78) hG (dk dd_X4_readHum 42 rfl) ?_
  refine V_putI (pc := 79) hG (dk dd_X4_readHum 43 rfl) fl_X4_82 sh_23 rfl rfl ?_
  refine V_vretP (pc := 82) hG (dk dd_X4_readHum 44 rfl) hR (Pv.mk ?_)
  rotate_left
  -- leaves: return@82
  · obtain ⟨rfl, rfl⟩ := p17
    obtain ⟨rfl, a1, a2⟩ := p40
    obtain ⟨b1, b2⟩ := p47
    obtain ⟨rfl, c1, c2⟩ := p59
    obtain ⟨d1, d2⟩ := p66
    have ch : ∀ a, a ≠ 31 → a ≠ 24 → a ≠ 25 → a ≠ 26 → m66 a = m17 a := fun a n1 n2 n3 n4 => by rw [d2 a n1, setc_n n4, c2 a n1, b2 a n1, setc_n n3, a2 a n1, setc_n n1, setc_n n2]
    have e24 : m66 24 = upd (m17 24) (q.2 0 6) (nI (kdS τ n q.1)) := by rw [d2 24 (by decide), setc_n (by decide), c2 24 (by decide), b2 24 (by decide), setc_n (by decide), a2 24 (by decide), setc_n (by decide), setc_s, cr]
    have e25 : m66 25 = upd (m17 25) (q.2 0 6) (nI (thiS τ n q.2 (q.1.1 + 1, q.1.2)).1) := by rw [d2 25 (by decide), setc_n (by decide), c2 25 (by decide), b2 25 (by decide), setc_s, a2 25 (by decide), setc_n (by decide), setc_n (by decide), cr]
    have e26 : m66 26 = upd (m17 26) (q.2 0 6) (nI (thiS τ n q.2 (pasS τ n 44 (thiS τ n q.2 (q.1.1 + 1, q.1.2)).2)).1) := by rw [d2 26 (by decide), setc_s, c2 26 (by decide), b2 26 (by decide), setc_n (by decide), a2 26 (by decide), setc_n (by decide), setc_n (by decide), cr]
    have e23 : m66 23 = m17 23 := ch 23 (by decide) (by decide) (by decide) (by decide)
    rw [e23, e6, nI_1]
    refine ⟨d1.set (by decide), ⟨⟨fun i hi => ?_, fun y h h1 h2 h3 => ?_, fun y c h1 h2 h3 => ?_⟩, fun c hc => by rw [setc_n (by decide), ch 30 (by decide) (by decide) (by decide) (by decide)]; exact hD.2 c hc⟩, fun a ha => by rw [setc_n (by omega)]; exact ch a (by omega) (by omega) (by omega) (by omega)⟩
    · show setc m66 23 (upd (m17 23) 6 _) 23 i = nI ((humS τ n q).2 0 i)
      unfold humS; dsimp only
      rw [setc_s]
      by_cases e : i = 6
      · subst e; rw [pk_us, updA_s]
      · rw [pk_un e, updA_n (by omega), updA_n (by omega), updA_n (by omega), updA_n (by omega)]; exact hD.1.1 i hi
    · have h3 : h < q.2 0 6 + 1 := by unfold humS at h3; dsimp only at h3; rw [updA_s] at h3; exact h3
      show setc m66 23 (upd (m17 23) 6 _) (23 + y) h = nI ((humS τ n q).2 y h)
      unfold humS; dsimp only
      rw [setc_n (by omega)]
      rcases (show y = 1 ∨ y = 2 ∨ y = 3 by omega) with rfl | rfl | rfl
      · rw [show 23 + 1 = 24 from rfl, e24, updA_n (by omega), updA_n (by omega), updA_n (by omega)]
        by_cases e : h = q.2 0 6
        · subst e; rw [pk_us, updA_s]
        · rw [pk_un e, updA_n (by omega)]; exact hD.1.2.1 1 h (by decide) (by decide) (by omega)
      · rw [show 23 + 2 = 25 from rfl, e25, updA_n (by omega), updA_n (by omega)]
        by_cases e : h = q.2 0 6
        · subst e; rw [pk_us, updA_s]
        · rw [pk_un e, updA_n (by omega), updA_n (by omega)]; exact hD.1.2.1 2 h (by decide) (by decide) (by omega)
      · rw [show 23 + 3 = 26 from rfl, e26, updA_n (by omega)]
        by_cases e : h = q.2 0 6
        · subst e; rw [pk_us, updA_s]
        · rw [pk_un e, updA_n (by omega), updA_n (by omega), updA_n (by omega)]; exact hD.1.2.1 3 h (by decide) (by decide) (by omega)
    · have h3 : c < q.2 0 7 := by unfold humS at h3; dsimp only at h3; rw [updA_n (by omega), updA_n (by omega), updA_n (by omega), updA_n (by omega)] at h3; exact h3
      show setc m66 23 (upd (m17 23) 6 _) (23 + y) c = nI ((humS τ n q).2 y c)
      unfold humS; dsimp only
      rw [setc_n (by omega), ch _ (by omega) (by omega) (by omega) (by omega), updA_n (by omega), updA_n (by omega), updA_n (by omega), updA_n (by omega)]
      exact hD.1.2.2 y c h1 h2 h3
end
section
def hmlS (τ : Nat → Nat) (n : Nat) : Nat → Rd → Rd
  | 0, q => q
  | k + 1, q => if kdS τ n q.1 = 0 then q else if q.2 0 6 = 6 then hmlS τ n k (markS 3 q.1, q.2) else hmlS τ n k (humS τ n q)
theorem hmlS_s (τ : Nat → Nat) (n k : Nat) (q : Rd) : hmlS τ n (k + 1) q = if kdS τ n q.1 = 0 then q else if q.2 0 6 = 6 then hmlS τ n k (markS 3 q.1, q.2) else hmlS τ n k (humS τ n q) := rfl
def hmsS (τ : Nat → Nat) (n : Nat) (q : Rd) : Rd := hmlS τ n 120 (if kdS τ n q.1 = 0 then markS 1 q.1 else q.1, q.2)
theorem humS_6 (τ : Nat → Nat) (n : Nat) (q : Rd) : (humS τ n q).2 0 6 = q.2 0 6 + 1 := by unfold humS; dsimp only; rw [updA_s]
theorem humS_n (τ : Nat → Nat) (n : Nat) (q : Rd) {i : Nat} (hi : i ≠ 6) : (humS τ n q).2 0 i = q.2 0 i := by unfold humS; dsimp only; rw [updA_n (by omega), updA_n (by omega), updA_n (by omega), updA_n (by omega)]
theorem c_readHums {μ : Mem} {τ : Nat → Nat} {n : Nat} {q : Rd} (hs : RdS μ τ n q.1) (hD : DrS μ q.2) (h0 : q.1.2 = 0 → 1 ≤ q.2 0 0) (h8 : q.2 0 0 ≤ 8) (h6 : q.2 0 6 = 0) (h5 : q.2 0 7 ≤ 5) :
    CtP yX4_readHums cX4_readHums 2 none 4 [vR 31] μ (Pv (fun μ' => RdS μ' τ n (hmsS τ n q).1 ∧ DrS μ' (hmsS τ n q).2 ∧ OffD μ μ')) := by
  refine CtP.go RX4 rfl pn_X4 (Nat.le_of_ble_eq_true rfl) (fun C hG hR => ?_)
  have loop : ∀ k i μ1 (u : Rd), i + k = 120 → RdS μ1 τ n u.1 → DrS μ1 u.2 → OffD μ μ1 → u.2 0 0 = q.2 0 0 → u.2 0 7 = q.2 0 7 → u.2 0 6 ≤ 6 → hmlS τ n k u = hmsS τ n q → (u.1.2 = 0 → q.1.2 = 0) → V C 14 [(0, vR 31), (1, vI (nI i))] [] μ1 := by
    intro k
    induction k with
    | zero =>
      intro i μ1 u hi f1 f2 f3 f4 f5 f6 f7 f8
      refine V_iload_n (pc := 14) hG (dk dd_X4_readHums 8 rfl) rfl ?_
      refine V_bipush (pc := 15) hG (dk dd_X4_readHums 9 rfl) (v := 120) (by decide) ?_
      refine V_icmp_ge (pc := 17) hG (dk dd_X4_readHums 10 rfl) (tgt := 57) (by decide) (fun h17 => ?_) (fun h17 => ?_)
      refine V_vretP (pc := 57) hG (dk dd_X4_readHums 27 rfl) hR (Pv.mk ?_)
      rotate_left
      rotate_left
      -- leaves: return@57; stop 20
      · rw [← f7]; exact ⟨f1, f2, f3⟩
      · exfalso; have := nle_i (a := 120) h17 (by omega) (by omega); omega
    | succ k ih =>
      intro i μ1 u hi f1 f2 f3 f4 f5 f6 f7 f8
      rw [hmlS_s] at f7
      have e6 : μ1 23 6 = nI (u.2 0 6) := f2.1.1 6 (by decide)
      have hk5 := kdS_le τ n u.1
      refine V_iload_n (pc := 14) hG (dk dd_X4_readHums 8 rfl) rfl ?_
      refine V_bipush (pc := 15) hG (dk dd_X4_readHums 9 rfl) (v := 120) (by decide) ?_
      refine V_icmp_ge (pc := 17) hG (dk dd_X4_readHums 10 rfl) (tgt := 57) (by decide) (fun h17 => ?_) (fun h17 => ?_)
      refine V_vretP (pc := 57) hG (dk dd_X4_readHums 27 rfl) hR (Pv.mk ?_)
      rotate_left
      refine V_aload_n (pc := 20) hG (dk dd_X4_readHums 11 rfl) rfl ?_
      refine V_callVip (pc := 21) hG (dk dd_X4_readHums 12 rfl) ml_X4_76 mo_X4_kindNext sh_31 rfl (c_kindNext f1) (by decide) (by decide) rfl rfl rfl (fun x21 m21 p21 => ?_)
      refine V_if_eq (pc := 24) hG (dk dd_X4_readHums 13 rfl) (tgt := 57) (by decide) (fun h24 => ?_) (fun h24 => ?_)
      refine V_vretP (pc := 57) hG (dk dd_X4_readHums 27 rfl) hR (Pv.mk ?_)
      rotate_left
      refine V_aload_n (pc := 27) hG (dk dd_X4_readHums 14 rfl) rfl ?_
      refine V_getR (pc := 28) hG (dk dd_X4_readHums 15 rfl) fl_X4_15 sh_31 rfl ?_
      refine V_getI (pc := 31) hG (dk dd_X4_readHums 16 rfl) fl_X4_82 sh_23 rfl ?_
      refine V_bipush (pc := 34) hG (dk dd_X4_readHums 17 rfl) (v := 6) (by decide) ?_
      refine V_icmp_ne (pc := 36) hG (dk dd_X4_readHums 18 rfl) (tgt := 47) (by decide) (fun h36 => ?_) (fun h36 => ?_)
      refine V_aload_n (pc := 47) hG (dk dd_X4_readHums 23 rfl) rfl ?_
      refine V_callVvp (pc := 48) hG (dk dd_X4_readHums 24 rfl) ml_X4_85 mo_X4_readHum sh_31 rfl (c_readHum (p21.1 ▸ f1) (p21.1 ▸ f2) (fun z => by rw [f4]; exact h0 (f8 z)) (by rw [f4]; exact h8) ?_ ?_ (by rw [f5]; exact h5)) (by decide) (by decide) rfl rfl rfl (fun m48 p48 => ?_)
      rotate_left
      rotate_left
      refine V_iinc (pc := 51) hG (dk dd_X4_readHums 25 rfl) rfl (v := _ + 1) rfl (by decide) (lv' := [(0, _), (1, _)]) rfl ?_
      refine V_goto (pc := 54) hG (dk dd_X4_readHums 26 rfl) (tgt := 14) (by decide) ?_
      rotate_left
      refine V_aload_n (pc := 39) hG (dk dd_X4_readHums 19 rfl) rfl ?_
      refine V_iconst (pc := 40) hG (dk dd_X4_readHums 20 rfl) (v := 3) (by decide) ?_
      refine V_callVvp (pc := 41) hG (dk dd_X4_readHums 21 rfl) ml_X4_79 mo_X4_mark sh_31 rfl (c_mark (p21.1 ▸ f1) (k := 3) rfl (by decide)) (by decide) (by decide) rfl rfl rfl (fun m41 p41 => ?_)
      refine V_goto (pc := 44) hG (dk dd_X4_readHums 22 rfl) (tgt := 51) (by decide) ?_
      refine V_iinc (pc := 51) hG (dk dd_X4_readHums 25 rfl) rfl (v := _ + 1) rfl (by decide) (lv' := [(0, _), (1, _)]) rfl ?_
      refine V_goto (pc := 54) hG (dk dd_X4_readHums 26 rfl) (tgt := 14) (by decide) ?_
      rotate_left
      -- leaves: return@57; return@57; call readHum@48 0; call readHum@48 1; stop 14; stop 14
      · exfalso; have := le_i (a := 120) h17 (by omega) (by omega); omega
      · obtain ⟨rfl, rfl⟩ := p21
        rw [if_pos ((nI_eq (b := 0) (by omega) (by decide)).mp h24)] at f7
        rw [← f7]; exact ⟨f1, f2, f3⟩
      · obtain ⟨rfl, rfl⟩ := p21
        exact fun z => h24 (by rw [z]; rfl)
      · obtain ⟨rfl, rfl⟩ := p21
        rw [e6] at h36
        exact Nat.lt_of_le_of_ne f6 (fun z => h36 (by rw [z]; rfl))
      · obtain ⟨rfl, rfl⟩ := p21
        rw [e6] at h36
        have hne : ¬ u.2 0 6 = 6 := fun z => h36 (by rw [z]; rfl)
        rw [if_neg (fun z => h24 (by rw [z]; rfl)), if_neg hne] at f7
        have hI := ih (i + 1) m48 (humS τ n u) (by omega) p48.1 p48.2.1 (f3.tr p48.2.2) (by rw [humS_n τ n u (by decide)]; exact f4) (by rw [humS_n τ n u (by decide)]; exact f5) (by rw [humS_6]; omega) f7 (fun _ => f8 (kdS_0 (fun z => h24 (by rw [z]; rfl))).1)
        rw [nI_succ] at hI
        exact hI
      · obtain ⟨rfl, rfl⟩ := p21
        rw [e6] at h36
        rw [if_neg (fun z => h24 (by rw [z]; rfl)), if_pos ((nI_eq (b := 6) (by omega) (by decide)).mp h36)] at f7
        have hI := ih (i + 1) m41 (markS 3 u.1, u.2) (by omega) p41.1 (f2.off p41.2) (f3.tr p41.2.d) f4 f5 f6 f7 (fun z => absurd z (fun w => markS_0 (by decide) w))
        rw [nI_succ] at hI
        exact hI
  refine V_aload_n (pc := 0) hG (dk dd_X4_readHums 0 rfl) rfl ?_
  refine V_callVip (pc := 1) hG (dk dd_X4_readHums 1 rfl) ml_X4_76 mo_X4_kindNext sh_31 rfl (c_kindNext hs) (by decide) (by decide) rfl rfl rfl (fun x1 m1 p1 => ?_)
  refine V_if_ne (pc := 4) hG (dk dd_X4_readHums 2 rfl) (tgt := 12) (by decide) (fun h4 => ?_) (fun h4 => ?_)
  refine V_iconst (pc := 12) hG (dk dd_X4_readHums 6 rfl) (v := 0) (by decide) ?_
  refine V_istore_n (pc := 13) hG (dk dd_X4_readHums 7 rfl) (by decide) (lv' := [(0, _), (1, _)]) rfl ?_
  rotate_left
  refine V_aload_n (pc := 7) hG (dk dd_X4_readHums 3 rfl) rfl ?_
  refine V_iconst (pc := 8) hG (dk dd_X4_readHums 4 rfl) (v := 1) (by decide) ?_
  refine V_callVvp (pc := 9) hG (dk dd_X4_readHums 5 rfl) ml_X4_79 mo_X4_mark sh_31 rfl (c_mark (p1.1 ▸ hs) (k := 1) rfl (by decide)) (by decide) (by decide) rfl rfl rfl (fun m9 p9 => ?_)
  refine V_iconst (pc := 12) hG (dk dd_X4_readHums 6 rfl) (v := 0) (by decide) ?_
  refine V_istore_n (pc := 13) hG (dk dd_X4_readHums 7 rfl) (by decide) (lv' := [(0, _), (1, _)]) rfl ?_
  rotate_left
  -- leaves: stop 14; stop 14
  · obtain ⟨rfl, rfl⟩ := p1
    exact loop 120 0 m1 q (by omega) hs hD (fun _ _ => rfl) rfl rfl (by omega) (by unfold hmsS; rw [if_neg (fun z => h4 (by rw [z]; rfl))]) id
  · obtain ⟨rfl, rfl⟩ := p1
    have hk5 := kdS_le τ n q.1
    exact loop 120 0 m9 (markS 1 q.1, q.2) (by omega) p9.1 (hD.off p9.2) p9.2.d rfl rfl (by dsimp only; omega) (by unfold hmsS; rw [if_pos ((nI_eq (b := 0) (by omega) (by decide)).mp h4)]) (fun z => absurd z (fun w => markS_0 (by decide) w))
def casS (τ : Nat → Nat) (n : Nat) (q : Rd) : Rd :=
  let a := numS τ n 0 (q.2 0 6 - 1) (pasS τ n 118 q.1)
  let b := thiS τ n q.2 (pasS τ n 44 a.2)
  let d := thiS τ n q.2 (pasS τ n 44 b.2)
  (pasS τ n 59 (if d.2.2 = 0 ∧ d.1 = b.1 then ((pasS τ n 44 b.2).1, 2) else d.2), updA (updA (updA (updA q.2 4 (q.2 0 7) a.1) 5 (q.2 0 7) b.1) 6 (q.2 0 7) d.1) 0 7 (q.2 0 7 + 1))
set_option maxHeartbeats 2000000 in
theorem c_readCase {μ : Mem} {τ : Nat → Nat} {n : Nat} {q : Rd} (hs : RdS μ τ n q.1) (hD : DrS μ q.2) (h0 : 1 ≤ q.2 0 0) (h8 : q.2 0 0 ≤ 8) (h1 : 1 ≤ q.2 0 6) (h6 : q.2 0 6 ≤ 6) (h5 : q.2 0 7 < 5) (h7 : ∀ c, q.2 7 c = 0) :
    CtP yX4_readCase cX4_readCase 3 none 3 [vR 31] μ (Pv (fun μ' => RdS μ' τ n (casS τ n q).1 ∧ DrS μ' (casS τ n q).2 ∧ OffD μ μ')) := by
  refine CtP.go RX4 rfl pn_X4 (Nat.le_of_ble_eq_true rfl) (fun C hG hR => ?_)
  have e7 : μ 23 7 = nI (q.2 0 7) := hD.1.1 7 (by decide)
  have e6 : μ 23 6 = nI (q.2 0 6) := hD.1.1 6 (by decide)
  have e0 : μ 23 0 = nI (q.2 0 0) := hD.1.1 0 (by decide)
  have hr : vp_in (μ 23 7) 5 := in_nI e7 h5 (by decide)
  have cr : (μ 23 7).toNatClampNeg = q.2 0 7 := nI_cl e7 (by omega)
  have drs : ∀ μ1 : Mem, μ1 23 = μ 23 → ∀ s, RdS μ1 τ n s → CtP yX4_thing cX4_thing 1 (some .int) 2 [vR 31] μ1 (Pi (fun r μ' => r = nI (thiS τ n q.2 s).1 ∧ RdS μ' τ n (thiS τ n q.2 s).2 ∧ Off31 μ1 μ')) := by
    intro μ1 hm s hs1
    refine CtP.go RX4 rfl pn_X4 (Nat.le_of_ble_eq_true rfl) (fun C hG hR => ?_)
    refine V_aload_n (pc := 0) hG (dk dd_X4_thing 0 rfl) rfl ?_
    refine V_iconst (pc := 1) hG (dk dd_X4_thing 1 rfl) (v := 0) (by decide) ?_
    refine V_aload_n (pc := 2) hG (dk dd_X4_thing 2 rfl) rfl ?_
    refine V_getR (pc := 3) hG (dk dd_X4_thing 3 rfl) fl_X4_15 sh_31 rfl ?_
    refine V_getI (pc := 6) hG (dk dd_X4_thing 4 rfl) fl_X4_56 sh_23 rfl ?_
    refine V_iconst (pc := 9) hG (dk dd_X4_thing 5 rfl) (v := 1) (by decide) ?_
    refine V_isub (pc := 10) hG (dk dd_X4_thing 6 rfl) ?_
    refine V_callVip (pc := 11) hG (dk dd_X4_thing 7 rfl) ml_X4_52 mo_X4_number sh_31 rfl (c_number hs1 (lo := 0) (hi := q.2 0 0 - 1) rfl (by decide) (fun _ => by rw [hm, e0, show (1 : Int32) = nI 1 from rfl, pk_sub h0]) (by omega)) (by decide) (by decide) rfl rfl rfl (fun x11 m11 p11 => ?_)
    refine V_iretP (pc := 14) hG (dk dd_X4_thing 8 rfl) hR (Pi.mk ?_)
    rotate_left
    -- leaves: return@14
    · exact p11
  have fin : ∀ (μ1 : Mem) (s7 : Pf) (z : Int32), RdS μ1 τ n s7 → (∀ a, a ≠ 31 → a ≠ 27 → a ≠ 28 → a ≠ 29 → μ1 a = μ a) → μ1 27 = upd (μ 27) (q.2 0 7) (nI (numS τ n 0 (q.2 0 6 - 1) (pasS τ n 118 q.1)).1) →
      μ1 28 = upd (μ 28) (q.2 0 7) (nI (thiS τ n q.2 (pasS τ n 44 (numS τ n 0 (q.2 0 6 - 1) (pasS τ n 118 q.1)).2)).1) → μ1 29 = upd (μ 29) (q.2 0 7) (nI (thiS τ n q.2 (pasS τ n 44 (thiS τ n q.2 (pasS τ n 44 (numS τ n 0 (q.2 0 6 - 1) (pasS τ n 118 q.1)).2)).2)).1) → (casS τ n q).1 = pasS τ n 59 s7 →
      V C 118 [(0, vR 31), (1, vI (μ 23 7)), (2, vI z)] [] μ1 := by
    intro μ1 s7 z g1 g2 g3 g4 g5 g6
    refine V_aload_n (pc := 118) hG (dk dd_X4_readCase 63 rfl) rfl ?_
    refine V_bipush (pc := 119) hG (dk dd_X4_readCase 64 rfl) (v := 59) (by decide) ?_
    refine V_callVvp (pc := 121) hG (dk dd_X4_readCase 65 rfl) ml_X4_48 mo_X4_pass sh_31 rfl (c_pass g1 (c := 59) rfl (by decide)) (by decide) (by decide) rfl rfl rfl (fun m121 p121 => ?_)
    refine V_aload_n (pc := 124) hG (dk dd_X4_readCase 66 rfl) rfl ?_
    refine V_getR (pc := 125) hG (dk dd_X4_readCase 67 rfl) fl_X4_15 sh_31 rfl ?_
    refine V_dup (pc := 128) hG (dk dd_X4_readCase 68 rfl) rfl ?_
    refine V_getI (pc := 129) hG (dk dd_X4_readCase 69 rfl) fl_X4_98 sh_23 rfl ?_
    refine V_iconst (pc := 132) hG (dk dd_X4_readCase 70 rfl) (v := 1) (by decide) ?_
    refine V_iadd (pc := 133) hG (dk dd_X4_readCase 71 rfl) ?_
    refine V_putI (pc := 134) hG (dk dd_X4_readCase 72 rfl) fl_X4_98 sh_23 rfl rfl ?_
    refine V_vretP (pc := 137) hG (dk dd_X4_readCase 73 rfl) hR (Pv.mk ?_)
    rotate_left
    -- leaves: return@137
    · obtain ⟨d1, d2⟩ := p121
      have ch : ∀ a, a ≠ 31 → a ≠ 27 → a ≠ 28 → a ≠ 29 → m121 a = μ a := fun a n1 n2 n3 n4 => by rw [d2 a n1]; exact g2 a n1 n2 n3 n4
      have e23 : m121 23 = μ 23 := ch 23 (by decide) (by decide) (by decide) (by decide)
      rw [e23, e7, nI_1, g6]
      refine ⟨d1.set (by decide), ⟨⟨fun i hi => ?_, fun y h a1 a2 a3 => ?_, fun y c a1 a2 a3 => ?_⟩, fun c hc => by rw [setc_n (by decide), ch 30 (by decide) (by decide) (by decide) (by decide)]; exact hD.2 c hc⟩, fun a ha => by rw [setc_n (by omega)]; exact ch a (by omega) (by omega) (by omega) (by omega)⟩
      · show setc m121 23 (upd (μ 23) 7 _) 23 i = nI ((casS τ n q).2 0 i)
        unfold casS; dsimp only
        rw [setc_s]
        by_cases e : i = 7
        · subst e; rw [pk_us, updA_s]
        · rw [pk_un e, updA_n (by omega), updA_n (by omega), updA_n (by omega), updA_n (by omega)]; exact hD.1.1 i hi
      · have a3 : h < q.2 0 6 := by unfold casS at a3; dsimp only at a3; rw [updA_n (by omega), updA_n (by omega), updA_n (by omega), updA_n (by omega)] at a3; exact a3
        show setc m121 23 (upd (μ 23) 7 _) (23 + y) h = nI ((casS τ n q).2 y h)
        unfold casS; dsimp only
        rw [setc_n (by omega), ch _ (by omega) (by omega) (by omega) (by omega), updA_n (by omega), updA_n (by omega), updA_n (by omega), updA_n (by omega)]
        exact hD.1.2.1 y h a1 a2 a3
      · have a3 : c < q.2 0 7 + 1 := by unfold casS at a3; dsimp only at a3; rw [updA_s] at a3; exact a3
        show setc m121 23 (upd (μ 23) 7 _) (23 + y) c = nI ((casS τ n q).2 y c)
        unfold casS; dsimp only
        rw [setc_n (by omega)]
        rcases (show y = 4 ∨ y = 5 ∨ y = 6 ∨ y = 7 by omega) with rfl | rfl | rfl | rfl
        · rw [show 23 + 4 = 27 from rfl, d2 27 (by decide), g3, updA_n (by omega), updA_n (by omega), updA_n (by omega)]
          by_cases e : c = q.2 0 7
          · subst e; rw [pk_us, updA_s]
          · rw [pk_un e, updA_n (by omega)]; exact hD.1.2.2 4 c (by decide) (by decide) (by omega)
        · rw [show 23 + 5 = 28 from rfl, d2 28 (by decide), g4, updA_n (by omega), updA_n (by omega)]
          by_cases e : c = q.2 0 7
          · subst e; rw [pk_us, updA_s]
          · rw [pk_un e, updA_n (by omega), updA_n (by omega)]; exact hD.1.2.2 5 c (by decide) (by decide) (by omega)
        · rw [show 23 + 6 = 29 from rfl, d2 29 (by decide), g5, updA_n (by omega)]
          by_cases e : c = q.2 0 7
          · subst e; rw [pk_us, updA_s]
          · rw [pk_un e, updA_n (by omega), updA_n (by omega), updA_n (by omega)]; exact hD.1.2.2 6 c (by decide) (by decide) (by omega)
        · rw [show 23 + 7 = 30 from rfl, ch 30 (by decide) (by decide) (by decide) (by decide), hD.2 c (by omega), updA_n (by omega), updA_n (by omega), updA_n (by omega), updA_n (by omega)]
          rw [h7]; rfl
  have eqc : ∀ (m : Mem), (∀ a, a ≠ 31 → a ≠ 27 → a ≠ 28 → a ≠ 29 → m a = μ a) → m 23 = μ 23 := fun m h => h 23 (by decide) (by decide) (by decide) (by decide)
  refine V_aload_n (pc := 0) hG (dk dd_X4_readCase 0 rfl) rfl ?_
  refine V_getR (pc := 1) hG (dk dd_X4_readCase 1 rfl) fl_X4_15 sh_31 rfl ?_
  refine V_getI (pc := 4) hG (dk dd_X4_readCase 2 rfl) fl_X4_98 sh_23 rfl ?_
  refine V_istore_n (pc := 7) hG (dk dd_X4_readCase 3 rfl) (by decide) (lv' := [(0, _), (1, _)]) rfl ?_
  refine V_aload_n (pc := 8) hG (dk dd_X4_readCase 4 rfl) rfl ?_
  refine V_bipush (pc := 9) hG (dk dd_X4_readCase 5 rfl) (v := 118) (by decide) ?_
  refine V_callVvp (pc := 11) hG (dk dd_X4_readCase 6 rfl) ml_X4_48 mo_X4_pass sh_31 rfl (c_pass hs (c := 118) rfl (by decide)) (by decide) (by decide) rfl rfl rfl (fun m11 p11 => ?_)
  refine V_aload_n (pc := 14) hG (dk dd_X4_readCase 7 rfl) rfl ?_
  refine V_getR (pc := 15) hG (dk dd_X4_readCase 8 rfl) fl_X4_15 sh_31 rfl ?_
  refine V_getR (pc := 18) hG (dk dd_X4_readCase 9 rfl) fl_X4_104 sh_23 rfl ?_
  refine V_iload_n (pc := 21) hG (dk dd_X4_readCase 10 rfl) rfl ?_
  refine V_aload_n (pc := 22) hG (dk dd_X4_readCase 11 rfl) rfl ?_
  refine V_iconst (pc := 23) hG (dk dd_X4_readCase 12 rfl) (v := 0) (by decide) ?_
  refine V_aload_n (pc := 24) hG (dk dd_X4_readCase 13 rfl) rfl ?_
  refine V_getR (pc := 25) hG (dk dd_X4_readCase 14 rfl) fl_X4_15 sh_31 rfl ?_
  refine V_getI (pc := 28) hG (dk dd_X4_readCase 15 rfl) fl_X4_82 sh_23 rfl ?_
  refine V_iconst (pc := 31) hG (dk dd_X4_readCase 16 rfl) (v := 1) (by decide) ?_
  refine V_isub (pc := 32) hG (dk dd_X4_readCase 17 rfl) ?_
  refine V_callVip (pc := 33) hG (dk dd_X4_readCase 18 rfl) ml_X4_52 mo_X4_number sh_31 rfl (c_number p11.1 (lo := 0) (hi := q.2 0 6 - 1) rfl (by decide) (fun _ => by rw [p11.2 23 (by decide), e6, show (1 : Int32) = nI 1 from rfl, pk_sub h1]) (by omega)) (by decide) (by decide) rfl rfl rfl (fun x33 m33 p33 => ?_)
  refine V_iast (pc := 36) hG (dk dd_X4_readCase 19 rfl) sh_27 hr ?_
  refine V_aload_n (pc := 37) hG (dk dd_X4_readCase 20 rfl) rfl ?_
  refine V_bipush (pc := 38) hG (dk dd_X4_readCase 21 rfl) (v := 44) (by decide) ?_
  refine V_callVvp (pc := 40) hG (dk dd_X4_readCase 22 rfl) ml_X4_48 mo_X4_pass sh_31 rfl (c_pass (p33.2.1.set (by decide)) (c := 44) rfl (by decide)) (by decide) (by decide) rfl rfl rfl (fun m40 p40 => ?_)
  refine V_aload_n (pc := 43) hG (dk dd_X4_readCase 23 rfl) rfl ?_
  refine V_getR (pc := 44) hG (dk dd_X4_readCase 24 rfl) fl_X4_15 sh_31 rfl ?_
  refine V_getR (pc := 47) hG (dk dd_X4_readCase 25 rfl) fl_X4_107 sh_23 rfl ?_
  refine V_iload_n (pc := 50) hG (dk dd_X4_readCase 26 rfl) rfl ?_
  refine V_aload_n (pc := 51) hG (dk dd_X4_readCase 27 rfl) rfl ?_
  refine V_callVip (pc := 52) hG (dk dd_X4_readCase 28 rfl) ml_X4_65 mo_X4_thing sh_31 rfl (drs _ (by rw [p40.2 23 (by decide), setc_n (by decide), p33.2.2 23 (by decide), p11.2 23 (by decide)]) _ p40.1) (by decide) (by decide) rfl rfl rfl (fun x52 m52 p52 => ?_)
  refine V_iast (pc := 55) hG (dk dd_X4_readCase 29 rfl) sh_28 hr ?_
  refine V_aload_n (pc := 56) hG (dk dd_X4_readCase 30 rfl) rfl ?_
  refine V_bipush (pc := 57) hG (dk dd_X4_readCase 31 rfl) (v := 44) (by decide) ?_
  refine V_callVvp (pc := 59) hG (dk dd_X4_readCase 32 rfl) ml_X4_48 mo_X4_pass sh_31 rfl (c_pass (p52.2.1.set (by decide)) (c := 44) rfl (by decide)) (by decide) (by decide) rfl rfl rfl (fun m59 p59 => ?_)
  refine V_aload_n (pc := 62) hG (dk dd_X4_readCase 33 rfl) rfl ?_
  refine V_getI (pc := 63) hG (dk dd_X4_readCase 34 rfl) fl_X4_19 sh_31 rfl ?_
  refine V_istore_n (pc := 66) hG (dk dd_X4_readCase 35 rfl) (by decide) (lv' := [(0, _), (1, _), (2, _)]) rfl ?_
  refine V_aload_n (pc := 67) hG (dk dd_X4_readCase 36 rfl) rfl ?_
  refine V_getR (pc := 68) hG (dk dd_X4_readCase 37 rfl) fl_X4_15 sh_31 rfl ?_
  refine V_getR (pc := 71) hG (dk dd_X4_readCase 38 rfl) fl_X4_110 sh_23 rfl ?_
  refine V_iload_n (pc := 74) hG (dk dd_X4_readCase 39 rfl) rfl ?_
  refine V_aload_n (pc := 75) hG (dk dd_X4_readCase 40 rfl) rfl ?_
  refine V_callVip (pc := 76) hG (dk dd_X4_readCase 41 rfl) ml_X4_65 mo_X4_thing sh_31 rfl (drs _ (by rw [p59.2 23 (by decide), setc_n (by decide), p52.2.2 23 (by decide), p40.2 23 (by decide), setc_n (by decide), p33.2.2 23 (by decide), p11.2 23 (by decide)]) _ p59.1) (by decide) (by decide) rfl rfl rfl (fun x76 m76 p76 => ?_)
  refine V_iast (pc := 79) hG (dk dd_X4_readCase 42 rfl) sh_29 hr ?_
  refine V_aload_n (pc := 80) hG (dk dd_X4_readCase 43 rfl) rfl ?_
  refine V_getI (pc := 81) hG (dk dd_X4_readCase 44 rfl) fl_X4_23 sh_31 rfl ?_
  refine V_if_ne (pc := 84) hG (dk dd_X4_readCase 45 rfl) (tgt := 118) (by decide) (fun h84 => ?_) (fun h84 => ?_)
  rotate_left
  refine V_aload_n (pc := 87) hG (dk dd_X4_readCase 46 rfl) rfl ?_
  refine V_getR (pc := 88) hG (dk dd_X4_readCase 47 rfl) fl_X4_15 sh_31 rfl ?_
  refine V_getR (pc := 91) hG (dk dd_X4_readCase 48 rfl) fl_X4_110 sh_23 rfl ?_
  refine V_iload_n (pc := 94) hG (dk dd_X4_readCase 49 rfl) rfl ?_
  refine V_iald (pc := 95) hG (dk dd_X4_readCase 50 rfl) sh_29 hr ?_
  refine V_aload_n (pc := 96) hG (dk dd_X4_readCase 51 rfl) rfl ?_
  refine V_getR (pc := 97) hG (dk dd_X4_readCase 52 rfl) fl_X4_15 sh_31 rfl ?_
  refine V_getR (pc := 100) hG (dk dd_X4_readCase 53 rfl) fl_X4_107 sh_23 rfl ?_
  refine V_iload_n (pc := 103) hG (dk dd_X4_readCase 54 rfl) rfl ?_
  refine V_iald (pc := 104) hG (dk dd_X4_readCase 55 rfl) sh_28 hr ?_
  refine V_icmp_ne (pc := 105) hG (dk dd_X4_readCase 56 rfl) (tgt := 118) (by decide) (fun h105 => ?_) (fun h105 => ?_)
  rotate_left
  refine V_aload_n (pc := 108) hG (dk dd_X4_readCase 57 rfl) rfl ?_
  refine V_iload_n (pc := 109) hG (dk dd_X4_readCase 58 rfl) rfl ?_
  refine V_putI (pc := 110) hG (dk dd_X4_readCase 59 rfl) fl_X4_19 sh_31 rfl rfl ?_
  refine V_aload_n (pc := 113) hG (dk dd_X4_readCase 60 rfl) rfl ?_
  refine V_iconst (pc := 114) hG (dk dd_X4_readCase 61 rfl) (v := 2) (by decide) ?_
  refine V_callVvp (pc := 115) hG (dk dd_X4_readCase 62 rfl) ml_X4_79 mo_X4_mark sh_31 rfl (c_mark (τ := τ) (n := n) (s := ((pasS τ n 44 (thiS τ n q.2 (pasS τ n 44 (numS τ n 0 (q.2 0 6 - 1) (pasS τ n 118 q.1)).2)).2).1, 0)) ?_ (k := 2) rfl (by decide)) (by decide) (by decide) rfl rfl rfl (fun m115 p115 => ?_)
  rotate_left
  rotate_left
  -- leaves: stop 118; stop 118; call mark@115 0; stop 118
  all_goals (obtain ⟨a1, a2⟩ := p11; obtain ⟨rfl, b1, b2⟩ := p33; obtain ⟨c1, c2⟩ := p40; obtain ⟨rfl, d1, d2⟩ := p52; obtain ⟨g1, g2⟩ := p59; obtain ⟨rfl, k1, k2⟩ := p76)
  all_goals (have ch : ∀ a, a ≠ 31 → a ≠ 27 → a ≠ 28 → a ≠ 29 → (setc m76 29 (upd (m76 29) (μ 23 7).toNatClampNeg (nI (thiS τ n q.2 (pasS τ n 44 (thiS τ n q.2 (pasS τ n 44 (numS τ n 0 (q.2 0 6 - 1) (pasS τ n 118 q.1)).2)).2)).1))) a = μ a := (fun a n1 n2 n3 n4 => by rw [setc_n n4, k2 a n1, g2 a n1, setc_n n3, d2 a n1, c2 a n1, setc_n n2, b2 a n1, a2 a n1]))
  all_goals (have e27 : (setc m76 29 (upd (m76 29) (μ 23 7).toNatClampNeg (nI (thiS τ n q.2 (pasS τ n 44 (thiS τ n q.2 (pasS τ n 44 (numS τ n 0 (q.2 0 6 - 1) (pasS τ n 118 q.1)).2)).2)).1))) 27 = upd (μ 27) (q.2 0 7) (nI (numS τ n 0 (q.2 0 6 - 1) (pasS τ n 118 q.1)).1) := (by rw [setc_n (by decide), k2 27 (by decide), g2 27 (by decide), setc_n (by decide), d2 27 (by decide), c2 27 (by decide), setc_s, b2 27 (by decide), a2 27 (by decide), cr]))
  all_goals (have e28 : (setc m76 29 (upd (m76 29) (μ 23 7).toNatClampNeg (nI (thiS τ n q.2 (pasS τ n 44 (thiS τ n q.2 (pasS τ n 44 (numS τ n 0 (q.2 0 6 - 1) (pasS τ n 118 q.1)).2)).2)).1))) 28 = upd (μ 28) (q.2 0 7) (nI (thiS τ n q.2 (pasS τ n 44 (numS τ n 0 (q.2 0 6 - 1) (pasS τ n 118 q.1)).2)).1) := (by rw [setc_n (by decide), k2 28 (by decide), g2 28 (by decide), setc_s, d2 28 (by decide), c2 28 (by decide), setc_n (by decide), b2 28 (by decide), a2 28 (by decide), cr]))
  all_goals (have e29 : (setc m76 29 (upd (m76 29) (μ 23 7).toNatClampNeg (nI (thiS τ n q.2 (pasS τ n 44 (thiS τ n q.2 (pasS τ n 44 (numS τ n 0 (q.2 0 6 - 1) (pasS τ n 118 q.1)).2)).2)).1))) 29 = upd (μ 29) (q.2 0 7) (nI (thiS τ n q.2 (pasS τ n 44 (thiS τ n q.2 (pasS τ n 44 (numS τ n 0 (q.2 0 6 - 1) (pasS τ n 118 q.1)).2)).2)).1) := (by rw [setc_s, k2 29 (by decide), g2 29 (by decide), setc_n (by decide), d2 29 (by decide), c2 29 (by decide), setc_n (by decide), b2 29 (by decide), a2 29 (by decide), cr]))
  all_goals (have k3 := k1.set (a := 29) (f := upd (m76 29) (μ 23 7).toNatClampNeg (nI (thiS τ n q.2 (pasS τ n 44 (thiS τ n q.2 (pasS τ n 44 (numS τ n 0 (q.2 0 6 - 1) (pasS τ n 118 q.1)).2)).2)).1)) (by decide))
  all_goals (have l1 := thiS_lt (τ := τ) (n := n) (α := q.2) (s := pasS τ n 44 (thiS τ n q.2 (pasS τ n 44 (numS τ n 0 (q.2 0 6 - 1) (pasS τ n 118 q.1)).2)).2) h8; have l2 := thiS_lt (τ := τ) (n := n) (α := q.2) (s := pasS τ n 44 (numS τ n 0 (q.2 0 6 - 1) (pasS τ n 118 q.1)).2) h8)
  · exact fin _ _ _ k3 ch e27 e28 e29 (by unfold casS; dsimp only; rw [if_neg (fun z => h84 (k3.f0.mpr z.1))])
  · rw [e28, e29, cr, pk_us, pk_us] at h105
    exact fin _ _ _ k3 ch e27 e28 e29 (by unfold casS; dsimp only; rw [if_neg (fun z => h105 (by rw [z.2]))])
  · refine ⟨k3.1.off (setc_n (by decide)) (setc_n (by decide)), by rw [setc_s, pk_us, g1.2.1], by rw [setc_s, pk_un (by decide)]; exact h84, g1.2.2.2.1, Nat.zero_le 3⟩
  · rw [e28, e29, cr, pk_us, pk_us] at h105
    obtain ⟨w1, w2⟩ := p115
    refine fin _ _ _ w1 (fun a n1 n2 n3 n4 => by rw [w2 a n1, setc_n n1]; exact ch a n1 n2 n3 n4) (by rw [w2 27 (by decide), setc_n (by decide)]; exact e27) (by rw [w2 28 (by decide), setc_n (by decide)]; exact e28) (by rw [w2 29 (by decide), setc_n (by decide)]; exact e29) ?_
    unfold casS; dsimp only
    rw [if_pos ⟨k3.f0.mp h84, (nI_eq (by omega) (by omega)).mp h105⟩]; rfl
end
section
def cslS (τ : Nat → Nat) (n : Nat) : Nat → Rd → Rd
  | 0, q => q
  | k + 1, q => if nexS τ n 118 q.1 then (if q.2 0 7 = 5 then cslS τ n k (markS 3 q.1, q.2) else cslS τ n k (casS τ n q)) else q
theorem cslS_s (τ : Nat → Nat) (n k : Nat) (q : Rd) : cslS τ n (k + 1) q = if nexS τ n 118 q.1 then (if q.2 0 7 = 5 then cslS τ n k (markS 3 q.1, q.2) else cslS τ n k (casS τ n q)) else q := rfl
theorem casS_7 (τ : Nat → Nat) (n : Nat) (q : Rd) : (casS τ n q).2 0 7 = q.2 0 7 + 1 := by unfold casS; dsimp only; rw [updA_s]
theorem casS_n (τ : Nat → Nat) (n : Nat) (q : Rd) {x i : Nat} (hx : (x = 0 ∧ i ≠ 7) ∨ x = 1 ∨ x = 2 ∨ x = 3 ∨ x = 7) : (casS τ n q).2 x i = q.2 x i := by unfold casS; dsimp only; rw [updA_n (by omega), updA_n (by omega), updA_n (by omega), updA_n (by omega)]
theorem casS_0 {τ : Nat → Nat} {n : Nat} {q : Rd} (h : (casS τ n q).1.2 = 0) : q.1.2 = 0 := by
  unfold casS at h; dsimp only at h
  have h1 := pasS_0 h
  split at h1
  · cases h1
  · exact pasS_0 (numS_ge (pasS_0 (numS_ge (pasS_0 (numS_ge h1).2)).2)).2
theorem c_readCases {μ : Mem} {τ : Nat → Nat} {n : Nat} {q : Rd} (hs : RdS μ τ n q.1) (hD : DrS μ q.2) (h0 : q.1.2 = 0 → 1 ≤ q.2 0 0) (h8 : q.2 0 0 ≤ 8) (h1 : q.1.2 = 0 → 1 ≤ q.2 0 6) (h6 : q.2 0 6 ≤ 6) (h5 : q.2 0 7 ≤ 5) (h7 : ∀ c, q.2 7 c = 0) :
    CtP yX4_readCases cX4_readCases 2 none 4 [vR 31] μ (Pv (fun μ' => RdS μ' τ n (cslS τ n 120 q).1 ∧ DrS μ' (cslS τ n 120 q).2 ∧ OffD μ μ')) := by
  refine CtP.go RX4 rfl pn_X4 (Nat.le_of_ble_eq_true rfl) (fun C hG hR => ?_)
  have loop : ∀ k i μ1 (u : Rd), i + k = 120 → RdS μ1 τ n u.1 → DrS μ1 u.2 → OffD μ μ1 → u.2 0 0 = q.2 0 0 → u.2 0 6 = q.2 0 6 → u.2 0 7 ≤ 5 → (∀ c, u.2 7 c = 0) → cslS τ n k u = cslS τ n 120 q → (u.1.2 = 0 → q.1.2 = 0) → V C 2 [(0, vR 31), (1, vI (nI i))] [] μ1 := by
    intro k
    induction k with
    | zero =>
      intro i μ1 u hi f1 f2 f3 f4 f5 f6 fz f7 f8
      refine V_iload_n (pc := 2) hG (dk dd_X4_readCases 2 rfl) rfl ?_
      refine V_bipush (pc := 3) hG (dk dd_X4_readCases 3 rfl) (v := 120) (by decide) ?_
      refine V_icmp_ge (pc := 5) hG (dk dd_X4_readCases 4 rfl) (tgt := 46) (by decide) (fun hz5 => ?_) (fun hz5 => ?_)
      refine V_vretP (pc := 46) hG (dk dd_X4_readCases 22 rfl) hR (Pv.mk ?_)
      rotate_left
      rotate_left
      -- leaves: return@46; stop 8
      · rw [← f7]; exact ⟨f1, f2, f3⟩
      · exfalso; have := nle_i (a := 120) hz5 (by omega) (by omega); omega
    | succ k ih =>
      intro i μ1 u hi f1 f2 f3 f4 f5 f6 fz f7 f8
      rw [cslS_s] at f7
      have e7 : μ1 23 7 = nI (u.2 0 7) := f2.1.1 7 (by decide)
      refine V_iload_n (pc := 2) hG (dk dd_X4_readCases 2 rfl) rfl ?_
      refine V_bipush (pc := 3) hG (dk dd_X4_readCases 3 rfl) (v := 120) (by decide) ?_
      refine V_icmp_ge (pc := 5) hG (dk dd_X4_readCases 4 rfl) (tgt := 46) (by decide) (fun hz5 => ?_) (fun hz5 => ?_)
      refine V_vretP (pc := 46) hG (dk dd_X4_readCases 22 rfl) hR (Pv.mk ?_)
      rotate_left
      refine V_aload_n (pc := 8) hG (dk dd_X4_readCases 5 rfl) rfl ?_
      refine V_bipush (pc := 9) hG (dk dd_X4_readCases 6 rfl) (v := 118) (by decide) ?_
      refine V_callVip (pc := 11) hG (dk dd_X4_readCases 7 rfl) ml_X4_72 mo_X4_isNext sh_31 rfl (c_isNext f1 (c := 118) rfl (by decide)) (by decide) (by decide) rfl rfl rfl (fun x11 m11 p11 => ?_)
      refine V_if_eq (pc := 14) hG (dk dd_X4_readCases 8 rfl) (tgt := 46) (by decide) (fun hz14 => ?_) (fun hz14 => ?_)
      refine V_vretP (pc := 46) hG (dk dd_X4_readCases 22 rfl) hR (Pv.mk ?_)
      rotate_left
      refine V_aload_n (pc := 17) hG (dk dd_X4_readCases 9 rfl) rfl ?_
      refine V_getR (pc := 18) hG (dk dd_X4_readCases 10 rfl) fl_X4_15 sh_31 rfl ?_
      refine V_getI (pc := 21) hG (dk dd_X4_readCases 11 rfl) fl_X4_98 sh_23 rfl ?_
      refine V_iconst (pc := 24) hG (dk dd_X4_readCases 12 rfl) (v := 5) (by decide) ?_
      refine V_icmp_ne (pc := 25) hG (dk dd_X4_readCases 13 rfl) (tgt := 36) (by decide) (fun hz25 => ?_) (fun hz25 => ?_)
      refine V_aload_n (pc := 36) hG (dk dd_X4_readCases 18 rfl) rfl ?_
      refine V_callVvp (pc := 37) hG (dk dd_X4_readCases 19 rfl) ml_X4_101 mo_X4_readCase sh_31 rfl (c_readCase (p11.1 ▸ f1) (p11.1 ▸ f2) ?_ (by rw [f4]; exact h8) ?_ (by rw [f5]; exact h6) ?_ fz) (by decide) (by decide) rfl rfl rfl (fun m37 p37 => ?_)
      rotate_left
      rotate_left
      rotate_left
      refine V_iinc (pc := 40) hG (dk dd_X4_readCases 20 rfl) rfl (v := _ + 1) rfl (by decide) (lv' := [(0, _), (1, _)]) rfl ?_
      refine V_goto (pc := 43) hG (dk dd_X4_readCases 21 rfl) (tgt := 2) (by decide) ?_
      rotate_left
      refine V_aload_n (pc := 28) hG (dk dd_X4_readCases 14 rfl) rfl ?_
      refine V_iconst (pc := 29) hG (dk dd_X4_readCases 15 rfl) (v := 3) (by decide) ?_
      refine V_callVvp (pc := 30) hG (dk dd_X4_readCases 16 rfl) ml_X4_79 mo_X4_mark sh_31 rfl (c_mark (p11.1 ▸ f1) (k := 3) rfl (by decide)) (by decide) (by decide) rfl rfl rfl (fun m30 p30 => ?_)
      refine V_goto (pc := 33) hG (dk dd_X4_readCases 17 rfl) (tgt := 40) (by decide) ?_
      refine V_iinc (pc := 40) hG (dk dd_X4_readCases 20 rfl) rfl (v := _ + 1) rfl (by decide) (lv' := [(0, _), (1, _)]) rfl ?_
      refine V_goto (pc := 43) hG (dk dd_X4_readCases 21 rfl) (tgt := 2) (by decide) ?_
      rotate_left
      -- leaves: return@46; return@46; call readCase@37 0; call readCase@37 1; call readCase@37 2; stop 2; stop 2
      · exfalso; have := le_i (a := 120) hz5 (by omega) (by omega); omega
      · obtain ⟨rfl, p11⟩ := p11
        rw [if_neg (p11.no hz14)] at f7
        rw [← f7]; exact ⟨f1, f2, f3⟩
      · rw [f4]; exact h0 (f8 (p11.2.yes hz14).1)
      · rw [f5]; exact h1 (f8 (p11.2.yes hz14).1)
      · obtain ⟨rfl, p11⟩ := p11
        rw [e7] at hz25
        exact Nat.lt_of_le_of_ne f6 (fun z => hz25 (by rw [z]; rfl))
      · obtain ⟨rfl, p11⟩ := p11
        rw [e7] at hz25
        have hne : ¬ u.2 0 7 = 5 := fun z => hz25 (by rw [z]; rfl)
        rw [if_pos (p11.yes hz14), if_neg hne] at f7
        have hI := ih (i + 1) m37 (casS τ n u) (by omega) p37.1 p37.2.1 (f3.tr p37.2.2) (by rw [casS_n τ n u (by omega)]; exact f4) (by rw [casS_n τ n u (by omega)]; exact f5) (by rw [casS_7]; omega) (fun c => by rw [casS_n τ n u (by omega)]; exact fz c) f7 (fun z => f8 (casS_0 z))
        rw [nI_succ] at hI
        exact hI
      · obtain ⟨rfl, p11⟩ := p11
        rw [e7] at hz25
        rw [if_pos (p11.yes hz14), if_pos ((nI_eq (b := 5) (by omega) (by decide)).mp hz25)] at f7
        have hI := ih (i + 1) m30 (markS 3 u.1, u.2) (by omega) p30.1 (f2.off p30.2) (f3.tr p30.2.d) f4 f5 f6 fz f7 (fun z => absurd z (fun w => markS_0 (by decide) w))
        rw [nI_succ] at hI
        exact hI
  refine V_iconst (pc := 0) hG (dk dd_X4_readCases 0 rfl) (v := 0) (by decide) ?_
  refine V_istore_n (pc := 1) hG (dk dd_X4_readCases 1 rfl) (by decide) (lv' := [(0, _), (1, _)]) rfl ?_
  rotate_left
  -- leaves: stop 2
  · exact loop 120 0 μ q (by omega) hs hD (fun _ _ => rfl) rfl rfl h5 h7 rfl id
set_option maxHeartbeats 1000000 in
theorem c_cclear {μ : Mem} : CtP yX2_clear cX2_clear 1 none 1 [vR 23] μ (Pv (fun μ' => DrS μ' (fun _ _ => 0) ∧ ∀ a, (a < 23 ∨ 30 < a) → μ' a = μ a)) := by
  refine CtP.go RX2 rfl pn_X2 (Nat.le_of_ble_eq_true rfl) (fun C hG hR => ?_)
  refine V_aload_n (pc := 0) hG (dk dd_X2_clear 0 rfl) rfl ?_
  refine V_iconst (pc := 1) hG (dk dd_X2_clear 1 rfl) (v := 0) (by decide) ?_
  refine V_putI (pc := 2) hG (dk dd_X2_clear 2 rfl) fl_X2_33 sh_23 rfl rfl ?_
  refine V_aload_n (pc := 5) hG (dk dd_X2_clear 3 rfl) rfl ?_
  refine V_iconst (pc := 6) hG (dk dd_X2_clear 4 rfl) (v := 0) (by decide) ?_
  refine V_putI (pc := 7) hG (dk dd_X2_clear 5 rfl) fl_X2_37 sh_23 rfl rfl ?_
  refine V_aload_n (pc := 10) hG (dk dd_X2_clear 6 rfl) rfl ?_
  refine V_iconst (pc := 11) hG (dk dd_X2_clear 7 rfl) (v := 0) (by decide) ?_
  refine V_putI (pc := 12) hG (dk dd_X2_clear 8 rfl) fl_X2_40 sh_23 rfl rfl ?_
  refine V_aload_n (pc := 15) hG (dk dd_X2_clear 9 rfl) rfl ?_
  refine V_iconst (pc := 16) hG (dk dd_X2_clear 10 rfl) (v := 0) (by decide) ?_
  refine V_putI (pc := 17) hG (dk dd_X2_clear 11 rfl) fl_X2_43 sh_23 rfl rfl ?_
  refine V_aload_n (pc := 20) hG (dk dd_X2_clear 12 rfl) rfl ?_
  refine V_iconst (pc := 21) hG (dk dd_X2_clear 13 rfl) (v := 0) (by decide) ?_
  refine V_putI (pc := 22) hG (dk dd_X2_clear 14 rfl) fl_X2_46 sh_23 rfl rfl ?_
  refine V_aload_n (pc := 25) hG (dk dd_X2_clear 15 rfl) rfl ?_
  refine V_iconst (pc := 26) hG (dk dd_X2_clear 16 rfl) (v := 0) (by decide) ?_
  refine V_putI (pc := 27) hG (dk dd_X2_clear 17 rfl) fl_X2_49 sh_23 rfl rfl ?_
  refine V_aload_n (pc := 30) hG (dk dd_X2_clear 18 rfl) rfl ?_
  refine V_iconst (pc := 31) hG (dk dd_X2_clear 19 rfl) (v := 0) (by decide) ?_
  refine V_putI (pc := 32) hG (dk dd_X2_clear 20 rfl) fl_X2_52 sh_23 rfl rfl ?_
  refine V_aload_n (pc := 35) hG (dk dd_X2_clear 21 rfl) rfl ?_
  refine V_iconst (pc := 36) hG (dk dd_X2_clear 22 rfl) (v := 0) (by decide) ?_
  refine V_putI (pc := 37) hG (dk dd_X2_clear 23 rfl) fl_X2_55 sh_23 rfl rfl ?_
  refine V_aload_n (pc := 40) hG (dk dd_X2_clear 24 rfl) rfl ?_
  refine V_getR (pc := 41) hG (dk dd_X2_clear 25 rfl) fl_X2_30 sh_23 rfl ?_
  refine V_iconst (pc := 44) hG (dk dd_X2_clear 26 rfl) (v := 0) (by decide) ?_
  refine V_callSvp (pc := 45) hG (dk dd_X2_clear 27 rfl) ml_X2_58 mo_J7_fill_53178 (c_fill sh_30 (by decide)) (by decide) (by decide) rfl rfl rfl (fun m45 p45 => ?_)
  refine V_vretP (pc := 48) hG (dk dd_X2_clear 28 rfl) hR (Pv.mk ?_)
  rotate_left
  -- leaves: return@48
  · obtain ⟨f, rfl, hf⟩ := p45
    refine ⟨⟨⟨fun i hi => ?_, fun x h _ _ h3 => absurd h3 (Nat.not_lt_zero h), fun x h _ _ h3 => absurd h3 (Nat.not_lt_zero h)⟩, fun c hc => by rw [setc_s]; exact hf c hc⟩, fun a ha => by simp (disch := omega) only [setc_n]⟩
    show setc _ 30 f 23 i = nI 0
    simp (disch := omega) only [setc_s, setc_n]
    rcases (show i = 0 ∨ i = 1 ∨ i = 2 ∨ i = 3 ∨ i = 4 ∨ i = 5 ∨ i = 6 ∨ i = 7 by omega) with rfl | rfl | rfl | rfl | rfl | rfl | rfl | rfl <;> rfl
/-! what reading keeps -/
theorem drlS_n (τ : Nat → Nat) (n : Nat) : ∀ k (q : Rd) {x i : Nat}, ¬ (x = 0 ∧ i = 3) → (drlS τ n k q).2 x i = q.2 x i
  | 0, _, _, _, _ => rfl
  | k + 1, q, x, i, h => by
    rw [drlS_s]
    split
    · rw [drlS_n τ n k _ h]; exact updA_n h
    · rfl
theorem drlS_0 (τ : Nat → Nat) (n : Nat) : ∀ k (q : Rd), (drlS τ n k q).1.2 = 0 → q.1.2 = 0
  | 0, _, h => h
  | k + 1, q, h => by
    rw [drlS_s] at h
    split at h
    · exact pasS_0 (numS_ge (drlS_0 τ n k _ h)).2
    · exact h
theorem drmS_n (τ : Nat → Nat) (n : Nat) (q : Rd) {x i : Nat} (h : ¬ (x = 0 ∧ i = 3)) : (drmS τ n q).2 x i = q.2 x i := by
  unfold drmS; dsimp only; rw [drlS_n τ n 120 _ h]; exact updA_n h
theorem drmS_0 {τ : Nat → Nat} {n : Nat} {q : Rd} (h : (drmS τ n q).1.2 = 0) : q.1.2 = 0 := by
  unfold drmS at h; dsimp only at h
  exact pasS_0 (numS_ge (drlS_0 τ n 120 _ (pasS_0 h))).2
theorem humS_0 {τ : Nat → Nat} {n : Nat} {q : Rd} (h : (humS τ n q).1.2 = 0) : q.1.2 = 0 := by
  unfold humS at h; dsimp only at h
  exact (numS_ge (pasS_0 (numS_ge (pasS_0 h)).2)).2
theorem hmlS_n (τ : Nat → Nat) (n : Nat) : ∀ k (q : Rd) {x i : Nat}, ((x = 0 ∧ i ≠ 6) ∨ 4 ≤ x) → (hmlS τ n k q).2 x i = q.2 x i
  | 0, _, _, _, _ => rfl
  | k + 1, q, x, i, h => by
    rw [hmlS_s]
    split
    · rfl
    · split
      · rw [hmlS_n τ n k _ h]
      · rw [hmlS_n τ n k _ h]; unfold humS; dsimp only; rw [updA_n (by omega), updA_n (by omega), updA_n (by omega), updA_n (by omega)]
theorem hmlS_0 (τ : Nat → Nat) (n : Nat) : ∀ k (q : Rd), (hmlS τ n k q).1.2 = 0 → q.1.2 = 0
  | 0, _, h => h
  | k + 1, q, h => by
    rw [hmlS_s] at h
    split at h
    · exact h
    · split at h
      · exact (markS_0 (by decide) (hmlS_0 τ n k _ h)).elim
      · exact humS_0 (hmlS_0 τ n k _ h)
theorem hmlS_6 (τ : Nat → Nat) (n : Nat) : ∀ k (q : Rd), q.2 0 6 ≤ 6 → q.2 0 6 ≤ (hmlS τ n k q).2 0 6 ∧ (hmlS τ n k q).2 0 6 ≤ 6
  | 0, _, h => ⟨Nat.le_refl _, h⟩
  | k + 1, q, h => by
    rw [hmlS_s]
    split
    · exact ⟨Nat.le_refl _, h⟩
    · split
      · exact hmlS_6 τ n k (markS 3 q.1, q.2) h
      · rename_i h2
        have := hmlS_6 τ n k (humS τ n q) (by rw [humS_6]; omega)
        rw [humS_6] at this
        omega
theorem hmsS_1 {τ : Nat → Nat} {n : Nat} {q : Rd} (h6 : q.2 0 6 = 0) (h : (hmsS τ n q).1.2 = 0) : 1 ≤ (hmsS τ n q).2 0 6 ∧ q.1.2 = 0 := by
  unfold hmsS at h ⊢
  by_cases e : kdS τ n q.1 = 0
  · rw [if_pos e] at h; exact (markS_0 (by decide) (hmlS_0 τ n 120 _ h)).elim
  · rw [if_neg e] at h ⊢
    refine ⟨?_, hmlS_0 τ n 120 _ h⟩
    rw [show (120 : Nat) = 119 + 1 from rfl, hmlS_s, if_neg e, if_neg (by dsimp only; omega)]
    have := hmlS_6 τ n 119 (humS τ n (q.1, q.2)) (by rw [humS_6]; dsimp only; omega)
    rw [humS_6] at this
    omega
end
section
def cz : Al := fun _ _ => 0
def rd1 (τ : Nat → Nat) (n : Nat) : Rd := lawS τ n ((0, 0), cz)
def rd2 (τ : Nat → Nat) (n : Nat) : Rd := drmS τ n (rd1 τ n)
def rd3 (τ : Nat → Nat) (n : Nat) : Rd := hmsS τ n (rd2 τ n)
def rd4 (τ : Nat → Nat) (n : Nat) : Rd := cslS τ n 120 (rd3 τ n)
/-- a text, read -/
def allS (τ : Nat → Nat) (n : Nat) : Rd := if (rd4 τ n).1.2 = 0 ∧ (rd4 τ n).1.1 < n then (((rd4 τ n).1.1, 1), (rd4 τ n).2) else rd4 τ n
theorem rd1_e (τ : Nat → Nat) (n : Nat) : rd1 τ n = lawS τ n ((0, 0), cz) := rfl
theorem rd2_e (τ : Nat → Nat) (n : Nat) : rd2 τ n = drmS τ n (rd1 τ n) := rfl
theorem rd3_e (τ : Nat → Nat) (n : Nat) : rd3 τ n = hmsS τ n (rd2 τ n) := rfl
theorem rd4_e (τ : Nat → Nat) (n : Nat) : rd4 τ n = cslS τ n 120 (rd3 τ n) := rfl
theorem rd1_f (τ : Nat → Nat) (n : Nat) : (rd1 τ n).2 0 0 ≤ 8 ∧ ((rd1 τ n).1.2 = 0 → 3 ≤ (rd1 τ n).2 0 0) ∧ (rd1 τ n).2 0 6 = 0 ∧ (rd1 τ n).2 0 7 = 0 ∧ ∀ c, (rd1 τ n).2 7 c = 0 := by
  unfold rd1 lawS
  dsimp only
  refine ⟨?_, fun h => ?_, ?_, ?_, fun c => ?_⟩
  · rw [updA_n (by omega), updA_n (by omega), updA_s]; exact numS_le _ _ _ _ _
  · rw [updA_n (by omega), updA_n (by omega), updA_s]; exact (numS_ge (pasS_0 (numS_ge (pasS_0 (numS_ge (pasS_0 h)).2)).2)).1
  · rw [updA_n (by omega), updA_n (by omega), updA_n (by omega)]; rfl
  · rw [updA_n (by omega), updA_n (by omega), updA_n (by omega)]; rfl
  · rw [updA_n (by omega), updA_n (by omega), updA_n (by omega)]; rfl
theorem rd2_f (τ : Nat → Nat) (n : Nat) : (rd2 τ n).2 0 0 ≤ 8 ∧ ((rd2 τ n).1.2 = 0 → 3 ≤ (rd2 τ n).2 0 0) ∧ (rd2 τ n).2 0 6 = 0 ∧ (rd2 τ n).2 0 7 = 0 ∧ ∀ c, (rd2 τ n).2 7 c = 0 := by
  obtain ⟨a, b, c, d, e⟩ := rd1_f τ n
  rw [rd2_e]
  exact ⟨by rw [drmS_n τ n _ (by omega)]; exact a, fun h => by rw [drmS_n τ n _ (by omega)]; exact b (drmS_0 h), by rw [drmS_n τ n _ (by omega)]; exact c, by rw [drmS_n τ n _ (by omega)]; exact d, fun k => by rw [drmS_n τ n _ (by omega)]; exact e k⟩
theorem rd3_f (τ : Nat → Nat) (n : Nat) : (rd3 τ n).2 0 0 ≤ 8 ∧ ((rd3 τ n).1.2 = 0 → 3 ≤ (rd3 τ n).2 0 0 ∧ 1 ≤ (rd3 τ n).2 0 6) ∧ (rd3 τ n).2 0 6 ≤ 6 ∧ (rd3 τ n).2 0 7 = 0 ∧ ∀ c, (rd3 τ n).2 7 c = 0 := by
  obtain ⟨a, b, c, d, e⟩ := rd2_f τ n
  have hn : ∀ {x i : Nat}, ((x = 0 ∧ i ≠ 6) ∨ 4 ≤ x) → (rd3 τ n).2 x i = (rd2 τ n).2 x i := fun h => by rw [rd3_e]; unfold hmsS; rw [hmlS_n τ n 120 _ h]
  refine ⟨by rw [hn (by omega)]; exact a, fun h => ?_, ?_, by rw [hn (by omega)]; exact d, fun k => by rw [hn (by omega)]; exact e k⟩
  · rw [rd3_e] at h
    obtain ⟨h1, h2⟩ := hmsS_1 (τ := τ) (n := n) (q := rd2 τ n) c h
    rw [← rd3_e] at h1
    exact ⟨by rw [hn (by omega)]; exact b h2, h1⟩
  · rw [rd3_e]; unfold hmsS; exact (hmlS_6 τ n 120 _ (by dsimp only; omega)).2
theorem cu_law {μ : Mem} {τ : Nat → Nat} {n : Nat} {q u : Rd} (hu : u = lawS τ n q) (hs : RdS μ τ n q.1) (hD : DrS μ q.2) : CtP yX4_readLaw cX4_readLaw 1 none 3 [vR 31] μ (Pv (fun μ' => RdS μ' τ n u.1 ∧ DrS μ' u.2 ∧ OffD μ μ')) := by
  rw [hu]; exact c_readLaw hs hD
theorem cu_dream {μ : Mem} {τ : Nat → Nat} {n : Nat} {q u : Rd} (hu : u = drmS τ n q) (hs : RdS μ τ n q.1) (hD : DrS μ q.2) (h0 : q.1.2 = 0 → 1 ≤ q.2 0 0) (h8 : q.2 0 0 ≤ 8) : CtP yX4_readDream cX4_readDream 2 none 3 [vR 31] μ (Pv (fun μ' => RdS μ' τ n u.1 ∧ DrS μ' u.2 ∧ OffD μ μ')) := by
  rw [hu]; exact c_readDream hs hD h0 h8
theorem cu_hums {μ : Mem} {τ : Nat → Nat} {n : Nat} {q u : Rd} (hu : u = hmsS τ n q) (hs : RdS μ τ n q.1) (hD : DrS μ q.2) (h0 : q.1.2 = 0 → 1 ≤ q.2 0 0) (h8 : q.2 0 0 ≤ 8) (h6 : q.2 0 6 = 0) (h5 : q.2 0 7 ≤ 5) : CtP yX4_readHums cX4_readHums 2 none 4 [vR 31] μ (Pv (fun μ' => RdS μ' τ n u.1 ∧ DrS μ' u.2 ∧ OffD μ μ')) := by
  rw [hu]; exact c_readHums hs hD h0 h8 h6 h5
theorem cu_cases {μ : Mem} {τ : Nat → Nat} {n : Nat} {q u : Rd} (hu : u = cslS τ n 120 q) (hs : RdS μ τ n q.1) (hD : DrS μ q.2) (h0 : q.1.2 = 0 → 1 ≤ q.2 0 0) (h8 : q.2 0 0 ≤ 8) (h1 : q.1.2 = 0 → 1 ≤ q.2 0 6) (h6 : q.2 0 6 ≤ 6) (h5 : q.2 0 7 ≤ 5) (h7 : ∀ c, q.2 7 c = 0) : CtP yX4_readCases cX4_readCases 2 none 4 [vR 31] μ (Pv (fun μ' => RdS μ' τ n u.1 ∧ DrS μ' u.2 ∧ OffD μ μ')) := by
  rw [hu]; exact c_readCases hs hD h0 h8 h1 h6 h5 h7
theorem c_readAll {μ : Mem} {τ : Nat → Nat} {n : Nat} (hT : Tp μ τ n) : CtP yX4_readAll cX4_readAll 1 none 5 [vR 31] μ (Pv (fun μ' => RdS μ' τ n (allS τ n).1 ∧ DrS μ' (allS τ n).2 ∧ OffD μ μ')) := by
  refine CtP.go RX4 rfl pn_X4 (Nat.le_of_ble_eq_true rfl) (fun C hG hR => ?_)
  obtain ⟨a1, a2, a3, a4, a5⟩ := rd1_f τ n
  obtain ⟨b1, b2, b3, b4, b5⟩ := rd2_f τ n
  obtain ⟨c1, c2, c3, c4, c5⟩ := rd3_f τ n
  have st : ∀ m14 : Mem, (∀ a, (a < 23 ∨ 30 < a) → m14 a = (setc (setc μ 31 (upd (μ 31) 2 0)) 31 (upd (setc μ 31 (upd (μ 31) 2 0) 31) 3 0)) a) → RdS m14 τ n (0, 0) := fun m14 h => ⟨hT.off (by rw [h 13 (by omega)]; simp (disch := omega) only [setc_n]) (by rw [h 14 (by omega)]; simp (disch := omega) only [setc_n]), by rw [h 31 (by omega), setc_s, pk_un (by decide), setc_s, pk_us]; rfl, by rw [h 31 (by omega), setc_s, pk_us]; rfl, Nat.zero_le n, Nat.zero_le 3⟩
  refine V_aload_n (pc := 0) hG (dk dd_X4_readAll 0 rfl) rfl ?_
  refine V_iconst (pc := 1) hG (dk dd_X4_readAll 1 rfl) (v := 0) (by decide) ?_
  refine V_putI (pc := 2) hG (dk dd_X4_readAll 2 rfl) fl_X4_19 sh_31 rfl rfl ?_
  refine V_aload_n (pc := 5) hG (dk dd_X4_readAll 3 rfl) rfl ?_
  refine V_iconst (pc := 6) hG (dk dd_X4_readAll 4 rfl) (v := 0) (by decide) ?_
  refine V_putI (pc := 7) hG (dk dd_X4_readAll 5 rfl) fl_X4_23 sh_31 rfl rfl ?_
  refine V_aload_n (pc := 10) hG (dk dd_X4_readAll 6 rfl) rfl ?_
  refine V_getR (pc := 11) hG (dk dd_X4_readAll 7 rfl) fl_X4_15 sh_31 rfl ?_
  refine V_callVvp (pc := 14) hG (dk dd_X4_readAll 8 rfl) ml_X4_26 mo_X2_clear sh_23 rfl c_cclear (by decide) (by decide) rfl rfl rfl (fun m14 p14 => ?_)
  refine V_aload_n (pc := 17) hG (dk dd_X4_readAll 9 rfl) rfl ?_
  refine V_callVvp (pc := 18) hG (dk dd_X4_readAll 10 rfl) ml_X4_31 mo_X4_readLaw sh_31 rfl (cu_law (rd1_e τ n) (st m14 p14.2) p14.1) (by decide) (by decide) rfl rfl rfl (fun m18 p18 => ?_)
  refine V_aload_n (pc := 21) hG (dk dd_X4_readAll 11 rfl) rfl ?_
  refine V_callVvp (pc := 22) hG (dk dd_X4_readAll 12 rfl) ml_X4_34 mo_X4_readDream sh_31 rfl (cu_dream (rd2_e τ n) p18.1 p18.2.1 (fun z => by have := a2 z; omega) a1) (by decide) (by decide) rfl rfl rfl (fun m22 p22 => ?_)
  refine V_aload_n (pc := 25) hG (dk dd_X4_readAll 13 rfl) rfl ?_
  refine V_callVvp (pc := 26) hG (dk dd_X4_readAll 14 rfl) ml_X4_37 mo_X4_readHums sh_31 rfl (cu_hums (rd3_e τ n) p22.1 p22.2.1 (fun z => by have := b2 z; omega) b1 b3 (by omega)) (by decide) (by decide) rfl rfl rfl (fun m26 p26 => ?_)
  refine V_aload_n (pc := 29) hG (dk dd_X4_readAll 15 rfl) rfl ?_
  refine V_callVvp (pc := 30) hG (dk dd_X4_readAll 16 rfl) ml_X4_40 mo_X4_readCases sh_31 rfl (cu_cases (rd4_e τ n) p26.1 p26.2.1 (fun z => by have := (c2 z).1; omega) c1 (fun z => (c2 z).2) c3 (by omega) c5) (by decide) (by decide) rfl rfl rfl (fun m30 p30 => ?_)
  refine V_aload_n (pc := 33) hG (dk dd_X4_readAll 17 rfl) rfl ?_
  refine V_getI (pc := 34) hG (dk dd_X4_readAll 18 rfl) fl_X4_23 sh_31 rfl ?_
  refine V_if_ne (pc := 37) hG (dk dd_X4_readAll 19 rfl) (tgt := 59) (by decide) (fun h37 => ?_) (fun h37 => ?_)
  refine V_vretP (pc := 59) hG (dk dd_X4_readAll 29 rfl) hR (Pv.mk ?_)
  rotate_left
  refine V_aload_n (pc := 40) hG (dk dd_X4_readAll 20 rfl) rfl ?_
  refine V_getI (pc := 41) hG (dk dd_X4_readAll 21 rfl) fl_X4_19 sh_31 rfl ?_
  refine V_aload_n (pc := 44) hG (dk dd_X4_readAll 22 rfl) rfl ?_
  refine V_getR (pc := 45) hG (dk dd_X4_readAll 23 rfl) fl_X4_9 sh_31 rfl ?_
  refine V_getI (pc := 48) hG (dk dd_X4_readAll 24 rfl) fl_X4_43 sh_13 rfl ?_
  refine V_icmp_ge (pc := 51) hG (dk dd_X4_readAll 25 rfl) (tgt := 59) (by decide) (fun h51 => ?_) (fun h51 => ?_)
  refine V_vretP (pc := 59) hG (dk dd_X4_readAll 29 rfl) hR (Pv.mk ?_)
  rotate_left
  refine V_aload_n (pc := 54) hG (dk dd_X4_readAll 26 rfl) rfl ?_
  refine V_iconst (pc := 55) hG (dk dd_X4_readAll 27 rfl) (v := 1) (by decide) ?_
  refine V_putI (pc := 56) hG (dk dd_X4_readAll 28 rfl) fl_X4_23 sh_31 rfl rfl ?_
  refine V_vretP (pc := 59) hG (dk dd_X4_readAll 29 rfl) hR (Pv.mk ?_)
  rotate_left
  -- leaves: return@59; return@59; return@59
  all_goals (have off : OffD μ m30 := (fun a ha => by rw [p30.2.2 a ha, p26.2.2 a ha, p22.2.2 a ha, p18.2.2 a ha, p14.2 a (by omega)]; simp (disch := omega) only [setc_n]))
  all_goals (have hs : RdS m30 τ n (rd4 τ n).1 := p30.1; have hd : DrS m30 (rd4 τ n).2 := p30.2.1)
  · unfold allS; rw [if_neg (fun z => h37 (hs.f0.mpr z.1))]; exact ⟨hs, hd, off⟩
  · rw [hs.1.1, hs.2.1] at h51
    have hn := hs.1.2.1
    have hp := hs.2.2.2.1
    have := le_i h51 (by omega) (by omega)
    unfold allS; rw [if_neg (fun z => by omega)]; exact ⟨hs, hd, off⟩
  · rw [hs.1.1, hs.2.1] at h51
    have hn := hs.1.2.1
    have hp := hs.2.2.2.1
    have := nle_i h51 (by omega) (by omega)
    unfold allS; rw [if_pos ⟨hs.f0.mp h37, this⟩]
    clear p30 p26 p22 p18 c2 b2 a2 c1 b1 a1
    generalize rd4 τ n = r4 at hs hd hp this ⊢
    have h1 : setc m30 31 (upd (m30 31) 3 1) 31 2 = nI r4.1.1 := by rw [setc_s, pk_un (by decide)]; exact hs.2.1
    have h2 : setc m30 31 (upd (m30 31) 3 1) 31 3 = nI 1 := by rw [setc_s, pk_us]; rfl
    exact ⟨⟨hs.1.off (setc_n (by decide)) (setc_n (by decide)), h1, h2, hp, (by decide : 1 ≤ 3)⟩, hd.off (fun a ha => setc_n ha), fun a ha => by rw [setc_n (by omega)]; exact off a ha⟩
end
