section
-- ===== PART A: goes FIRST, ahead of the names: the tables' words, and 'selects' of the private methods out of them =====
/-- a private method of a class that the tables say can be made, by its rows of tables_1 -/
def lw_okq (q : MethodName × Nat) : Prop := (q.1.cls ≠ "java/lang/invoke/MethodHandle" ∧ q.1.cls ≠ "java/lang/invoke/VarHandle") ∧ Cond.instantiable q.1.cls q.2 ∈ tables_1 ∧ Cond.privateMethod q.1 ∈ tables_1 ∧ Cond.instanceMethod q.1 ∈ tables_1
theorem lw_p0 : lw_okq (⟨"GurdyTide$Reader", "moreComes", "()Z"⟩, 5) := ⟨⟨by decide +kernel, by decide +kernel⟩, List.mem_of_getElem? (i := 24) (by decide +kernel), List.mem_of_getElem? (i := 357) (by decide +kernel), List.mem_of_getElem? (i := 358) (by decide +kernel)⟩
theorem lw_p1 : lw_okq (⟨"GurdyTide$Reader", "readCells", "(LGurdyTide$Coast;)V"⟩, 5) := ⟨⟨by decide +kernel, by decide +kernel⟩, List.mem_of_getElem? (i := 24) (by decide +kernel), List.mem_of_getElem? (i := 361) (by decide +kernel), List.mem_of_getElem? (i := 362) (by decide +kernel)⟩
theorem lw_p2 : lw_okq (⟨"GurdyTide$Reader", "takeSign", "(I)V"⟩, 5) := ⟨⟨by decide +kernel, by decide +kernel⟩, List.mem_of_getElem? (i := 24) (by decide +kernel), List.mem_of_getElem? (i := 365) (by decide +kernel), List.mem_of_getElem? (i := 366) (by decide +kernel)⟩
theorem lw_p3 : lw_okq (⟨"GurdyTide$Reader", "nextIs", "(I)Z"⟩, 5) := ⟨⟨by decide +kernel, by decide +kernel⟩, List.mem_of_getElem? (i := 24) (by decide +kernel), List.mem_of_getElem? (i := 369) (by decide +kernel), List.mem_of_getElem? (i := 370) (by decide +kernel)⟩
theorem lw_p4 : lw_okq (⟨"GurdyTide$Reader", "fail", "(II)V"⟩, 5) := ⟨⟨by decide +kernel, by decide +kernel⟩, List.mem_of_getElem? (i := 24) (by decide +kernel), List.mem_of_getElem? (i := 373) (by decide +kernel), List.mem_of_getElem? (i := 374) (by decide +kernel)⟩
theorem lw_p5 : lw_okq (⟨"GurdyTide$Reader", "takeNumber", "(II)I"⟩, 5) := ⟨⟨by decide +kernel, by decide +kernel⟩, List.mem_of_getElem? (i := 24) (by decide +kernel), List.mem_of_getElem? (i := 377) (by decide +kernel), List.mem_of_getElem? (i := 378) (by decide +kernel)⟩
theorem lw_p6 : lw_okq (⟨"GurdyTide$Reader", "readClause", "(LGurdyTide$Coast;)V"⟩, 5) := ⟨⟨by decide +kernel, by decide +kernel⟩, List.mem_of_getElem? (i := 24) (by decide +kernel), List.mem_of_getElem? (i := 384) (by decide +kernel), List.mem_of_getElem? (i := 385) (by decide +kernel)⟩
theorem lw_p7 : lw_okq (⟨"GurdyTide$Reader", "readTower", "(LGurdyTide$Coast;)V"⟩, 5) := ⟨⟨by decide +kernel, by decide +kernel⟩, List.mem_of_getElem? (i := 24) (by decide +kernel), List.mem_of_getElem? (i := 388) (by decide +kernel), List.mem_of_getElem? (i := 389) (by decide +kernel)⟩
theorem lw_p8 : lw_okq (⟨"GurdyTide$Reader", "readPlayer", "(LGurdyTide$Coast;)V"⟩, 5) := ⟨⟨by decide +kernel, by decide +kernel⟩, List.mem_of_getElem? (i := 24) (by decide +kernel), List.mem_of_getElem? (i := 392) (by decide +kernel), List.mem_of_getElem? (i := 393) (by decide +kernel)⟩
theorem lw_p9 : lw_okq (⟨"GurdyTide$Reader", "readBoat", "(LGurdyTide$Coast;)V"⟩, 5) := ⟨⟨by decide +kernel, by decide +kernel⟩, List.mem_of_getElem? (i := 24) (by decide +kernel), List.mem_of_getElem? (i := 396) (by decide +kernel), List.mem_of_getElem? (i := 397) (by decide +kernel)⟩
theorem lw_p10 : lw_okq (⟨"GurdyTide$State", "unlikeness", "(LGurdyTide$Coast;I)I"⟩, 6) := ⟨⟨by decide +kernel, by decide +kernel⟩, List.mem_of_getElem? (i := 126) (by decide +kernel), List.mem_of_getElem? (i := 439) (by decide +kernel), List.mem_of_getElem? (i := 440) (by decide +kernel)⟩
theorem lw_p11 : lw_okq (⟨"GurdyTide$Sleepers", "fits", "(ILGurdyTide$Coast;LGurdyTide$State;LGurdyTide$Notes;LGurdyTide$State;)Z"⟩, 1) := ⟨⟨by decide +kernel, by decide +kernel⟩, List.mem_of_getElem? (i := 266) (by decide +kernel), List.mem_of_getElem? (i := 484) (by decide +kernel), List.mem_of_getElem? (i := 485) (by decide +kernel)⟩
theorem lw_p12 : lw_okq (⟨"GurdyTide$Sleepers", "beginAsleep", "(ILGurdyTide$State;LGurdyTide$State;)V"⟩, 1) := ⟨⟨by decide +kernel, by decide +kernel⟩, List.mem_of_getElem? (i := 266) (by decide +kernel), List.mem_of_getElem? (i := 488) (by decide +kernel), List.mem_of_getElem? (i := 489) (by decide +kernel)⟩
theorem lw_p13 : lw_okq (⟨"GurdyTide$Notes", "seenIsSo", "(I)Z"⟩, 11) := ⟨⟨by decide +kernel, by decide +kernel⟩, List.mem_of_getElem? (i := 195) (by decide +kernel), List.mem_of_getElem? (i := 531) (by decide +kernel), List.mem_of_getElem? (i := 532) (by decide +kernel)⟩
theorem lw_p14 : lw_okq (⟨"GurdyTide", "refusalOfHours", "(I)I"⟩, 12) := ⟨⟨by decide +kernel, by decide +kernel⟩, List.mem_of_getElem? (i := 16) (by decide +kernel), List.mem_of_getElem? (i := 580) (by decide +kernel), List.mem_of_getElem? (i := 581) (by decide +kernel)⟩
theorem lw_p15 : lw_okq (⟨"GurdyTide$Draws", "next", "(I)I"⟩, 1) := ⟨⟨by decide +kernel, by decide +kernel⟩, List.mem_of_getElem? (i := 184) (by decide +kernel), List.mem_of_getElem? (i := 633) (by decide +kernel), List.mem_of_getElem? (i := 634) (by decide +kernel)⟩
def lw_privs_1 : List (MethodName × Nat) := [(⟨"GurdyTide$Reader", "moreComes", "()Z"⟩, 5), (⟨"GurdyTide$Reader", "readCells", "(LGurdyTide$Coast;)V"⟩, 5), (⟨"GurdyTide$Reader", "takeSign", "(I)V"⟩, 5), (⟨"GurdyTide$Reader", "nextIs", "(I)Z"⟩, 5), (⟨"GurdyTide$Reader", "fail", "(II)V"⟩, 5), (⟨"GurdyTide$Reader", "takeNumber", "(II)I"⟩, 5), (⟨"GurdyTide$Reader", "readClause", "(LGurdyTide$Coast;)V"⟩, 5), (⟨"GurdyTide$Reader", "readTower", "(LGurdyTide$Coast;)V"⟩, 5), (⟨"GurdyTide$Reader", "readPlayer", "(LGurdyTide$Coast;)V"⟩, 5), (⟨"GurdyTide$Reader", "readBoat", "(LGurdyTide$Coast;)V"⟩, 5), (⟨"GurdyTide$State", "unlikeness", "(LGurdyTide$Coast;I)I"⟩, 6), (⟨"GurdyTide$Sleepers", "fits", "(ILGurdyTide$Coast;LGurdyTide$State;LGurdyTide$Notes;LGurdyTide$State;)Z"⟩, 1), (⟨"GurdyTide$Sleepers", "beginAsleep", "(ILGurdyTide$State;LGurdyTide$State;)V"⟩, 1), (⟨"GurdyTide$Notes", "seenIsSo", "(I)Z"⟩, 11), (⟨"GurdyTide", "refusalOfHours", "(I)I"⟩, 12), (⟨"GurdyTide$Draws", "next", "(I)I"⟩, 1)]
theorem lw_r1 : ∀ q ∈ lw_privs_1, lw_okq q := List.forall_mem_cons.mpr ⟨lw_p0, List.forall_mem_cons.mpr ⟨lw_p1, List.forall_mem_cons.mpr ⟨lw_p2, List.forall_mem_cons.mpr ⟨lw_p3, List.forall_mem_cons.mpr ⟨lw_p4, List.forall_mem_cons.mpr ⟨lw_p5, List.forall_mem_cons.mpr ⟨lw_p6, List.forall_mem_cons.mpr ⟨lw_p7, List.forall_mem_cons.mpr ⟨lw_p8, List.forall_mem_cons.mpr ⟨lw_p9, List.forall_mem_cons.mpr ⟨lw_p10, List.forall_mem_cons.mpr ⟨lw_p11, List.forall_mem_cons.mpr ⟨lw_p12, List.forall_mem_cons.mpr ⟨lw_p13, List.forall_mem_cons.mpr ⟨lw_p14, List.forall_mem_cons.mpr ⟨lw_p15, fun _ h => absurd h List.not_mem_nil⟩⟩⟩⟩⟩⟩⟩⟩⟩⟩⟩⟩⟩⟩⟩⟩
theorem lw_p16 : lw_okq (⟨"GurdyTide$Draws", "sitByDraw", "(LGurdyTide$Coast;LGurdyTide$State;I)V"⟩, 1) := ⟨⟨by decide +kernel, by decide +kernel⟩, List.mem_of_getElem? (i := 184) (by decide +kernel), List.mem_of_getElem? (i := 642) (by decide +kernel), List.mem_of_getElem? (i := 643) (by decide +kernel)⟩
theorem lw_p17 : lw_okq (⟨"GurdyTide$Plan", "seaIfAllRest", "(LGurdyTide$Coast;LGurdyTide$State;II)I"⟩, 6) := ⟨⟨by decide +kernel, by decide +kernel⟩, List.mem_of_getElem? (i := 238) (by decide +kernel), List.mem_of_getElem? (i := 678) (by decide +kernel), List.mem_of_getElem? (i := 679) (by decide +kernel)⟩
theorem lw_p18 : lw_okq (⟨"GurdyTide$Plan", "noteGains", "(LGurdyTide$Coast;LGurdyTide$State;II)V"⟩, 6) := ⟨⟨by decide +kernel, by decide +kernel⟩, List.mem_of_getElem? (i := 238) (by decide +kernel), List.mem_of_getElem? (i := 687) (by decide +kernel), List.mem_of_getElem? (i := 688) (by decide +kernel)⟩
theorem lw_p19 : lw_okq (⟨"GurdyTide$Plan", "noteMostGain", "(II)V"⟩, 6) := ⟨⟨by decide +kernel, by decide +kernel⟩, List.mem_of_getElem? (i := 238) (by decide +kernel), List.mem_of_getElem? (i := 698) (by decide +kernel), List.mem_of_getElem? (i := 699) (by decide +kernel)⟩
theorem lw_p20 : lw_okq (⟨"GurdyTide$Plan", "take", "(II)V"⟩, 6) := ⟨⟨by decide +kernel, by decide +kernel⟩, List.mem_of_getElem? (i := 238) (by decide +kernel), List.mem_of_getElem? (i := 706) (by decide +kernel), List.mem_of_getElem? (i := 707) (by decide +kernel)⟩
theorem lw_p21 : lw_okq (⟨"GurdyTide", "shareOf", "(III)I"⟩, 12) := ⟨⟨by decide +kernel, by decide +kernel⟩, List.mem_of_getElem? (i := 16) (by decide +kernel), List.mem_of_getElem? (i := 723) (by decide +kernel), List.mem_of_getElem? (i := 724) (by decide +kernel)⟩
theorem lw_p22 : lw_okq (⟨"GurdyTide$Sleepers", "noteSeas", "(ILGurdyTide$Coast;LGurdyTide$State;)V"⟩, 1) := ⟨⟨by decide +kernel, by decide +kernel⟩, List.mem_of_getElem? (i := 266) (by decide +kernel), List.mem_of_getElem? (i := 750) (by decide +kernel), List.mem_of_getElem? (i := 751) (by decide +kernel)⟩
theorem lw_p23 : lw_okq (⟨"GurdyTide$Sleepers", "mostAlike", "(II)I"⟩, 1) := ⟨⟨by decide +kernel, by decide +kernel⟩, List.mem_of_getElem? (i := 266) (by decide +kernel), List.mem_of_getElem? (i := 755) (by decide +kernel), List.mem_of_getElem? (i := 756) (by decide +kernel)⟩
theorem lw_p24 : lw_okq (⟨"GurdyTideModel", "begins", "()V"⟩, 29) := ⟨⟨by decide +kernel, by decide +kernel⟩, List.mem_of_getElem? (i := 800) (by decide +kernel), List.mem_of_getElem? (i := 806) (by decide +kernel), List.mem_of_getElem? (i := 807) (by decide +kernel)⟩
theorem lw_p25 : lw_okq (⟨"GurdyTideModel", "step", "()V"⟩, 29) := ⟨⟨by decide +kernel, by decide +kernel⟩, List.mem_of_getElem? (i := 800) (by decide +kernel), List.mem_of_getElem? (i := 918) (by decide +kernel), List.mem_of_getElem? (i := 919) (by decide +kernel)⟩
theorem lw_p26 : lw_okq (⟨"GurdyTideModel", "here", "()I"⟩, 29) := ⟨⟨by decide +kernel, by decide +kernel⟩, List.mem_of_getElem? (i := 800) (by decide +kernel), List.mem_of_getElem? (i := 922) (by decide +kernel), List.mem_of_getElem? (i := 923) (by decide +kernel)⟩
theorem lw_p27 : lw_okq (⟨"GurdyTideModel", "readsClause", "()Z"⟩, 29) := ⟨⟨by decide +kernel, by decide +kernel⟩, List.mem_of_getElem? (i := 800) (by decide +kernel), List.mem_of_getElem? (i := 928) (by decide +kernel), List.mem_of_getElem? (i := 929) (by decide +kernel)⟩
theorem lw_p28 : lw_okq (⟨"GurdyTideModel", "readsCells", "()Z"⟩, 29) := ⟨⟨by decide +kernel, by decide +kernel⟩, List.mem_of_getElem? (i := 800) (by decide +kernel), List.mem_of_getElem? (i := 932) (by decide +kernel), List.mem_of_getElem? (i := 933) (by decide +kernel)⟩
theorem lw_p29 : lw_okq (⟨"GurdyTideModel", "fails", "(I)Z"⟩, 29) := ⟨⟨by decide +kernel, by decide +kernel⟩, List.mem_of_getElem? (i := 800) (by decide +kernel), List.mem_of_getElem? (i := 936) (by decide +kernel), List.mem_of_getElem? (i := 937) (by decide +kernel)⟩
theorem lw_p30 : lw_okq (⟨"GurdyTideModel", "number", "(III)Z"⟩, 29) := ⟨⟨by decide +kernel, by decide +kernel⟩, List.mem_of_getElem? (i := 800) (by decide +kernel), List.mem_of_getElem? (i := 940) (by decide +kernel), List.mem_of_getElem? (i := 941) (by decide +kernel)⟩
theorem lw_p31 : lw_okq (⟨"GurdyTideModel", "readsTower", "()Z"⟩, 29) := ⟨⟨by decide +kernel, by decide +kernel⟩, List.mem_of_getElem? (i := 800) (by decide +kernel), List.mem_of_getElem? (i := 944) (by decide +kernel), List.mem_of_getElem? (i := 945) (by decide +kernel)⟩
def lw_privs_2 : List (MethodName × Nat) := [(⟨"GurdyTide$Draws", "sitByDraw", "(LGurdyTide$Coast;LGurdyTide$State;I)V"⟩, 1), (⟨"GurdyTide$Plan", "seaIfAllRest", "(LGurdyTide$Coast;LGurdyTide$State;II)I"⟩, 6), (⟨"GurdyTide$Plan", "noteGains", "(LGurdyTide$Coast;LGurdyTide$State;II)V"⟩, 6), (⟨"GurdyTide$Plan", "noteMostGain", "(II)V"⟩, 6), (⟨"GurdyTide$Plan", "take", "(II)V"⟩, 6), (⟨"GurdyTide", "shareOf", "(III)I"⟩, 12), (⟨"GurdyTide$Sleepers", "noteSeas", "(ILGurdyTide$Coast;LGurdyTide$State;)V"⟩, 1), (⟨"GurdyTide$Sleepers", "mostAlike", "(II)I"⟩, 1), (⟨"GurdyTideModel", "begins", "()V"⟩, 29), (⟨"GurdyTideModel", "step", "()V"⟩, 29), (⟨"GurdyTideModel", "here", "()I"⟩, 29), (⟨"GurdyTideModel", "readsClause", "()Z"⟩, 29), (⟨"GurdyTideModel", "readsCells", "()Z"⟩, 29), (⟨"GurdyTideModel", "fails", "(I)Z"⟩, 29), (⟨"GurdyTideModel", "number", "(III)Z"⟩, 29), (⟨"GurdyTideModel", "readsTower", "()Z"⟩, 29)]
theorem lw_r2 : ∀ q ∈ lw_privs_2, lw_okq q := List.forall_mem_cons.mpr ⟨lw_p16, List.forall_mem_cons.mpr ⟨lw_p17, List.forall_mem_cons.mpr ⟨lw_p18, List.forall_mem_cons.mpr ⟨lw_p19, List.forall_mem_cons.mpr ⟨lw_p20, List.forall_mem_cons.mpr ⟨lw_p21, List.forall_mem_cons.mpr ⟨lw_p22, List.forall_mem_cons.mpr ⟨lw_p23, List.forall_mem_cons.mpr ⟨lw_p24, List.forall_mem_cons.mpr ⟨lw_p25, List.forall_mem_cons.mpr ⟨lw_p26, List.forall_mem_cons.mpr ⟨lw_p27, List.forall_mem_cons.mpr ⟨lw_p28, List.forall_mem_cons.mpr ⟨lw_p29, List.forall_mem_cons.mpr ⟨lw_p30, List.forall_mem_cons.mpr ⟨lw_p31, fun _ h => absurd h List.not_mem_nil⟩⟩⟩⟩⟩⟩⟩⟩⟩⟩⟩⟩⟩⟩⟩⟩
theorem lw_p32 : lw_okq (⟨"GurdyTideModel", "ends", "()Z"⟩, 29) := ⟨⟨by decide +kernel, by decide +kernel⟩, List.mem_of_getElem? (i := 800) (by decide +kernel), List.mem_of_getElem? (i := 948) (by decide +kernel), List.mem_of_getElem? (i := 949) (by decide +kernel)⟩
theorem lw_p33 : lw_okq (⟨"GurdyTideModel", "readsPlayer", "()Z"⟩, 29) := ⟨⟨by decide +kernel, by decide +kernel⟩, List.mem_of_getElem? (i := 800) (by decide +kernel), List.mem_of_getElem? (i := 952) (by decide +kernel), List.mem_of_getElem? (i := 953) (by decide +kernel)⟩
theorem lw_p34 : lw_okq (⟨"GurdyTideModel", "readsBoat", "()Z"⟩, 29) := ⟨⟨by decide +kernel, by decide +kernel⟩, List.mem_of_getElem? (i := 800) (by decide +kernel), List.mem_of_getElem? (i := 956) (by decide +kernel), List.mem_of_getElem? (i := 957) (by decide +kernel)⟩
theorem lw_p35 : lw_okq (⟨"GurdyTideModel", "slopeOn", "([I)I"⟩, 29) := ⟨⟨by decide +kernel, by decide +kernel⟩, List.mem_of_getElem? (i := 800) (by decide +kernel), List.mem_of_getElem? (i := 968) (by decide +kernel), List.mem_of_getElem? (i := 969) (by decide +kernel)⟩
theorem lw_p36 : lw_okq (⟨"GurdyTideModel", "steepest", "([I)I"⟩, 29) := ⟨⟨by decide +kernel, by decide +kernel⟩, List.mem_of_getElem? (i := 800) (by decide +kernel), List.mem_of_getElem? (i := 972) (by decide +kernel), List.mem_of_getElem? (i := 973) (by decide +kernel)⟩
theorem lw_p37 : lw_okq (⟨"GurdyTideModel", "unlike", "([II)I"⟩, 29) := ⟨⟨by decide +kernel, by decide +kernel⟩, List.mem_of_getElem? (i := 800) (by decide +kernel), List.mem_of_getElem? (i := 976) (by decide +kernel), List.mem_of_getElem? (i := 977) (by decide +kernel)⟩
theorem lw_p38 : lw_okq (⟨"GurdyTideModel", "seaOn", "([II)I"⟩, 29) := ⟨⟨by decide +kernel, by decide +kernel⟩, List.mem_of_getElem? (i := 800) (by decide +kernel), List.mem_of_getElem? (i := 980) (by decide +kernel), List.mem_of_getElem? (i := 981) (by decide +kernel)⟩
theorem lw_p39 : lw_okq (⟨"GurdyTideModel", "bears", "([III)I"⟩, 29) := ⟨⟨by decide +kernel, by decide +kernel⟩, List.mem_of_getElem? (i := 800) (by decide +kernel), List.mem_of_getElem? (i := 984) (by decide +kernel), List.mem_of_getElem? (i := 985) (by decide +kernel)⟩
theorem lw_p40 : lw_okq (⟨"GurdyTideModel", "wet", "()I"⟩, 29) := ⟨⟨by decide +kernel, by decide +kernel⟩, List.mem_of_getElem? (i := 800) (by decide +kernel), List.mem_of_getElem? (i := 991) (by decide +kernel), List.mem_of_getElem? (i := 992) (by decide +kernel)⟩
theorem lw_p41 : lw_okq (⟨"GurdyTideModel", "depthOn", "([II)I"⟩, 29) := ⟨⟨by decide +kernel, by decide +kernel⟩, List.mem_of_getElem? (i := 800) (by decide +kernel), List.mem_of_getElem? (i := 995) (by decide +kernel), List.mem_of_getElem? (i := 996) (by decide +kernel)⟩
theorem lw_p42 : lw_okq (⟨"GurdyTideModel", "boats", "(Z)I"⟩, 29) := ⟨⟨by decide +kernel, by decide +kernel⟩, List.mem_of_getElem? (i := 800) (by decide +kernel), List.mem_of_getElem? (i := 999) (by decide +kernel), List.mem_of_getElem? (i := 1000) (by decide +kernel)⟩
theorem lw_p43 : lw_okq (⟨"GurdyTideModel", "whoSits", "()I"⟩, 29) := ⟨⟨by decide +kernel, by decide +kernel⟩, List.mem_of_getElem? (i := 800) (by decide +kernel), List.mem_of_getElem? (i := 1003) (by decide +kernel), List.mem_of_getElem? (i := 1004) (by decide +kernel)⟩
theorem lw_p44 : lw_okq (⟨"GurdyTideModel", "slept", "()I"⟩, 29) := ⟨⟨by decide +kernel, by decide +kernel⟩, List.mem_of_getElem? (i := 800) (by decide +kernel), List.mem_of_getElem? (i := 1007) (by decide +kernel), List.mem_of_getElem? (i := 1008) (by decide +kernel)⟩
theorem lw_p45 : lw_okq (⟨"GurdyTideModel", "layThen", "(I)V"⟩, 29) := ⟨⟨by decide +kernel, by decide +kernel⟩, List.mem_of_getElem? (i := 800) (by decide +kernel), List.mem_of_getElem? (i := 1011) (by decide +kernel), List.mem_of_getElem? (i := 1012) (by decide +kernel)⟩
theorem lw_p46 : lw_okq (⟨"GurdyTideModel", "layAside", "()V"⟩, 29) := ⟨⟨by decide +kernel, by decide +kernel⟩, List.mem_of_getElem? (i := 800) (by decide +kernel), List.mem_of_getElem? (i := 1015) (by decide +kernel), List.mem_of_getElem? (i := 1016) (by decide +kernel)⟩
theorem lw_p47 : lw_okq (⟨"GurdyTideModel", "winds", "([I)V"⟩, 29) := ⟨⟨by decide +kernel, by decide +kernel⟩, List.mem_of_getElem? (i := 800) (by decide +kernel), List.mem_of_getElem? (i := 1019) (by decide +kernel), List.mem_of_getElem? (i := 1020) (by decide +kernel)⟩
def lw_privs_3 : List (MethodName × Nat) := [(⟨"GurdyTideModel", "ends", "()Z"⟩, 29), (⟨"GurdyTideModel", "readsPlayer", "()Z"⟩, 29), (⟨"GurdyTideModel", "readsBoat", "()Z"⟩, 29), (⟨"GurdyTideModel", "slopeOn", "([I)I"⟩, 29), (⟨"GurdyTideModel", "steepest", "([I)I"⟩, 29), (⟨"GurdyTideModel", "unlike", "([II)I"⟩, 29), (⟨"GurdyTideModel", "seaOn", "([II)I"⟩, 29), (⟨"GurdyTideModel", "bears", "([III)I"⟩, 29), (⟨"GurdyTideModel", "wet", "()I"⟩, 29), (⟨"GurdyTideModel", "depthOn", "([II)I"⟩, 29), (⟨"GurdyTideModel", "boats", "(Z)I"⟩, 29), (⟨"GurdyTideModel", "whoSits", "()I"⟩, 29), (⟨"GurdyTideModel", "slept", "()I"⟩, 29), (⟨"GurdyTideModel", "layThen", "(I)V"⟩, 29), (⟨"GurdyTideModel", "layAside", "()V"⟩, 29), (⟨"GurdyTideModel", "winds", "([I)V"⟩, 29)]
theorem lw_r3 : ∀ q ∈ lw_privs_3, lw_okq q := List.forall_mem_cons.mpr ⟨lw_p32, List.forall_mem_cons.mpr ⟨lw_p33, List.forall_mem_cons.mpr ⟨lw_p34, List.forall_mem_cons.mpr ⟨lw_p35, List.forall_mem_cons.mpr ⟨lw_p36, List.forall_mem_cons.mpr ⟨lw_p37, List.forall_mem_cons.mpr ⟨lw_p38, List.forall_mem_cons.mpr ⟨lw_p39, List.forall_mem_cons.mpr ⟨lw_p40, List.forall_mem_cons.mpr ⟨lw_p41, List.forall_mem_cons.mpr ⟨lw_p42, List.forall_mem_cons.mpr ⟨lw_p43, List.forall_mem_cons.mpr ⟨lw_p44, List.forall_mem_cons.mpr ⟨lw_p45, List.forall_mem_cons.mpr ⟨lw_p46, List.forall_mem_cons.mpr ⟨lw_p47, fun _ h => absurd h List.not_mem_nil⟩⟩⟩⟩⟩⟩⟩⟩⟩⟩⟩⟩⟩⟩⟩⟩
theorem lw_p48 : lw_okq (⟨"GurdyTideModel", "guts", "()I"⟩, 29) := ⟨⟨by decide +kernel, by decide +kernel⟩, List.mem_of_getElem? (i := 800) (by decide +kernel), List.mem_of_getElem? (i := 1029) (by decide +kernel), List.mem_of_getElem? (i := 1030) (by decide +kernel)⟩
theorem lw_p49 : lw_okq (⟨"GurdyTideModel", "isCell", "(I)Z"⟩, 29) := ⟨⟨by decide +kernel, by decide +kernel⟩, List.mem_of_getElem? (i := 800) (by decide +kernel), List.mem_of_getElem? (i := 1037) (by decide +kernel), List.mem_of_getElem? (i := 1038) (by decide +kernel)⟩
theorem lw_p50 : lw_okq (⟨"GurdyTideModel", "strongest", "(I)I"⟩, 29) := ⟨⟨by decide +kernel, by decide +kernel⟩, List.mem_of_getElem? (i := 800) (by decide +kernel), List.mem_of_getElem? (i := 1042) (by decide +kernel), List.mem_of_getElem? (i := 1043) (by decide +kernel)⟩
theorem lw_p51 : lw_okq (⟨"GurdyTideModel", "isTower", "(I)Z"⟩, 29) := ⟨⟨by decide +kernel, by decide +kernel⟩, List.mem_of_getElem? (i := 800) (by decide +kernel), List.mem_of_getElem? (i := 1050) (by decide +kernel), List.mem_of_getElem? (i := 1051) (by decide +kernel)⟩
theorem lw_p52 : lw_okq (⟨"GurdyTideModel", "sitterOn", "([II)I"⟩, 29) := ⟨⟨by decide +kernel, by decide +kernel⟩, List.mem_of_getElem? (i := 800) (by decide +kernel), List.mem_of_getElem? (i := 1054) (by decide +kernel), List.mem_of_getElem? (i := 1055) (by decide +kernel)⟩
theorem lw_p53 : lw_okq (⟨"GurdyTideModel", "isPlayer", "(I)Z"⟩, 29) := ⟨⟨by decide +kernel, by decide +kernel⟩, List.mem_of_getElem? (i := 800) (by decide +kernel), List.mem_of_getElem? (i := 1062) (by decide +kernel), List.mem_of_getElem? (i := 1063) (by decide +kernel)⟩
theorem lw_p54 : lw_okq (⟨"GurdyTideModel", "isBoat", "(I)Z"⟩, 29) := ⟨⟨by decide +kernel, by decide +kernel⟩, List.mem_of_getElem? (i := 800) (by decide +kernel), List.mem_of_getElem? (i := 1070) (by decide +kernel), List.mem_of_getElem? (i := 1071) (by decide +kernel)⟩
theorem lw_p55 : lw_okq (⟨"GurdyTideModel", "refuses", "(I)I"⟩, 29) := ⟨⟨by decide +kernel, by decide +kernel⟩, List.mem_of_getElem? (i := 800) (by decide +kernel), List.mem_of_getElem? (i := 1078) (by decide +kernel), List.mem_of_getElem? (i := 1079) (by decide +kernel)⟩
theorem lw_p56 : lw_okq (⟨"GurdyTideModel", "remember", "()V"⟩, 29) := ⟨⟨by decide +kernel, by decide +kernel⟩, List.mem_of_getElem? (i := 800) (by decide +kernel), List.mem_of_getElem? (i := 1084) (by decide +kernel), List.mem_of_getElem? (i := 1085) (by decide +kernel)⟩
theorem lw_p57 : lw_okq (⟨"GurdyTideModel", "hourGoes", "([I)V"⟩, 29) := ⟨⟨by decide +kernel, by decide +kernel⟩, List.mem_of_getElem? (i := 800) (by decide +kernel), List.mem_of_getElem? (i := 1088) (by decide +kernel), List.mem_of_getElem? (i := 1089) (by decide +kernel)⟩
theorem lw_p58 : lw_okq (⟨"GurdyTideModel", "sleeps", "(IZ)V"⟩, 29) := ⟨⟨by decide +kernel, by decide +kernel⟩, List.mem_of_getElem? (i := 800) (by decide +kernel), List.mem_of_getElem? (i := 1104) (by decide +kernel), List.mem_of_getElem? (i := 1105) (by decide +kernel)⟩
theorem lw_p59 : lw_okq (⟨"GurdyTideModel", "draws", "()V"⟩, 29) := ⟨⟨by decide +kernel, by decide +kernel⟩, List.mem_of_getElem? (i := 800) (by decide +kernel), List.mem_of_getElem? (i := 1121) (by decide +kernel), List.mem_of_getElem? (i := 1122) (by decide +kernel)⟩
theorem lw_p60 : lw_okq (⟨"GurdyTideModel", "draw", "(I)I"⟩, 29) := ⟨⟨by decide +kernel, by decide +kernel⟩, List.mem_of_getElem? (i := 800) (by decide +kernel), List.mem_of_getElem? (i := 1125) (by decide +kernel), List.mem_of_getElem? (i := 1126) (by decide +kernel)⟩
theorem lw_p61 : lw_okq (⟨"GurdyTideModel", "plans", "(III)V"⟩, 29) := ⟨⟨by decide +kernel, by decide +kernel⟩, List.mem_of_getElem? (i := 800) (by decide +kernel), List.mem_of_getElem? (i := 1155) (by decide +kernel), List.mem_of_getElem? (i := 1156) (by decide +kernel)⟩
theorem lw_p62 : lw_okq (⟨"GurdyTideModel", "weighs", "(III)V"⟩, 29) := ⟨⟨by decide +kernel, by decide +kernel⟩, List.mem_of_getElem? (i := 800) (by decide +kernel), List.mem_of_getElem? (i := 1160) (by decide +kernel), List.mem_of_getElem? (i := 1161) (by decide +kernel)⟩
theorem lw_p63 : lw_okq (⟨"GurdyTideModel", "goesOn", "(I)I"⟩, 29) := ⟨⟨by decide +kernel, by decide +kernel⟩, List.mem_of_getElem? (i := 800) (by decide +kernel), List.mem_of_getElem? (i := 1164) (by decide +kernel), List.mem_of_getElem? (i := 1165) (by decide +kernel)⟩
def lw_privs_4 : List (MethodName × Nat) := [(⟨"GurdyTideModel", "guts", "()I"⟩, 29), (⟨"GurdyTideModel", "isCell", "(I)Z"⟩, 29), (⟨"GurdyTideModel", "strongest", "(I)I"⟩, 29), (⟨"GurdyTideModel", "isTower", "(I)Z"⟩, 29), (⟨"GurdyTideModel", "sitterOn", "([II)I"⟩, 29), (⟨"GurdyTideModel", "isPlayer", "(I)Z"⟩, 29), (⟨"GurdyTideModel", "isBoat", "(I)Z"⟩, 29), (⟨"GurdyTideModel", "refuses", "(I)I"⟩, 29), (⟨"GurdyTideModel", "remember", "()V"⟩, 29), (⟨"GurdyTideModel", "hourGoes", "([I)V"⟩, 29), (⟨"GurdyTideModel", "sleeps", "(IZ)V"⟩, 29), (⟨"GurdyTideModel", "draws", "()V"⟩, 29), (⟨"GurdyTideModel", "draw", "(I)I"⟩, 29), (⟨"GurdyTideModel", "plans", "(III)V"⟩, 29), (⟨"GurdyTideModel", "weighs", "(III)V"⟩, 29), (⟨"GurdyTideModel", "goesOn", "(I)I"⟩, 29)]
theorem lw_r4 : ∀ q ∈ lw_privs_4, lw_okq q := List.forall_mem_cons.mpr ⟨lw_p48, List.forall_mem_cons.mpr ⟨lw_p49, List.forall_mem_cons.mpr ⟨lw_p50, List.forall_mem_cons.mpr ⟨lw_p51, List.forall_mem_cons.mpr ⟨lw_p52, List.forall_mem_cons.mpr ⟨lw_p53, List.forall_mem_cons.mpr ⟨lw_p54, List.forall_mem_cons.mpr ⟨lw_p55, List.forall_mem_cons.mpr ⟨lw_p56, List.forall_mem_cons.mpr ⟨lw_p57, List.forall_mem_cons.mpr ⟨lw_p58, List.forall_mem_cons.mpr ⟨lw_p59, List.forall_mem_cons.mpr ⟨lw_p60, List.forall_mem_cons.mpr ⟨lw_p61, List.forall_mem_cons.mpr ⟨lw_p62, List.forall_mem_cons.mpr ⟨lw_p63, fun _ h => absurd h List.not_mem_nil⟩⟩⟩⟩⟩⟩⟩⟩⟩⟩⟩⟩⟩⟩⟩⟩
theorem lw_p64 : lw_okq (⟨"GurdyTideModel", "mayBe", "(I)Z"⟩, 29) := ⟨⟨by decide +kernel, by decide +kernel⟩, List.mem_of_getElem? (i := 800) (by decide +kernel), List.mem_of_getElem? (i := 1168) (by decide +kernel), List.mem_of_getElem? (i := 1169) (by decide +kernel)⟩
theorem lw_p65 : lw_okq (⟨"GurdyTideModel", "shareOf", "(II)I"⟩, 29) := ⟨⟨by decide +kernel, by decide +kernel⟩, List.mem_of_getElem? (i := 800) (by decide +kernel), List.mem_of_getElem? (i := 1181) (by decide +kernel), List.mem_of_getElem? (i := 1182) (by decide +kernel)⟩
theorem lw_p66 : lw_okq (⟨"GurdyTideModel", "greatestPart", "(II)I"⟩, 29) := ⟨⟨by decide +kernel, by decide +kernel⟩, List.mem_of_getElem? (i := 800) (by decide +kernel), List.mem_of_getElem? (i := 1201) (by decide +kernel), List.mem_of_getElem? (i := 1202) (by decide +kernel)⟩
def lw_privs_5 : List (MethodName × Nat) := [(⟨"GurdyTideModel", "mayBe", "(I)Z"⟩, 29), (⟨"GurdyTideModel", "shareOf", "(II)I"⟩, 29), (⟨"GurdyTideModel", "greatestPart", "(II)I"⟩, 29)]
theorem lw_r5 : ∀ q ∈ lw_privs_5, lw_okq q := List.forall_mem_cons.mpr ⟨lw_p64, List.forall_mem_cons.mpr ⟨lw_p65, List.forall_mem_cons.mpr ⟨lw_p66, fun _ h => absurd h List.not_mem_nil⟩⟩⟩
def lw_privs : List (MethodName × Nat) := lw_privs_1 ++ (lw_privs_2 ++ (lw_privs_3 ++ (lw_privs_4 ++ (lw_privs_5))))
def lw_tbl : List Cond := k2_sels lw_privs ++ tables_1
theorem lw_privs_ok : ∀ q ∈ lw_privs, lw_okq q := by
  show ∀ q ∈ lw_privs_1 ++ (lw_privs_2 ++ (lw_privs_3 ++ (lw_privs_4 ++ (lw_privs_5)))), lw_okq q
  exact List.forall_mem_append.mpr ⟨lw_r1, List.forall_mem_append.mpr ⟨lw_r2, List.forall_mem_append.mpr ⟨lw_r3, List.forall_mem_append.mpr ⟨lw_r4, lw_r5⟩⟩⟩⟩
end
section
def RX0 : String := "GurdyTide$Coast"
def TX0 : u_T := fun k => match k with
  | 0 => ("GurdyTide$Coast", "cells", "I", false)
  | 1 => ("GurdyTide$Coast", "towers", "I", false)
  | 2 => ("GurdyTide$Coast", "players", "I", false)
  | 3 => ("GurdyTide$Coast", "boats", "I", false)
  | 4 => ("GurdyTide$Coast", "ground", "[I", true)
  | 5 => ("GurdyTide$Coast", "towerCell", "[I", true)
  | 6 => ("GurdyTide$Coast", "fall", "[I", true)
  | 7 => ("GurdyTide$Coast", "arm", "[I", true)
  | 8 => ("GurdyTide$Coast", "draught", "[I", true)
  | 9 => ("GurdyTide$Coast", "from", "[I", true)
  | _ => ("GurdyTide$Coast", "to", "[I", true)
def tyX0 : Nat → FieldType := fun k => match k with
  | 0 => .int
  | 1 => .int
  | 2 => .int
  | 3 => .int
  | 4 => .array .int
  | 5 => .array .int
  | 6 => .array .int
  | 7 => .array .int
  | 8 => .array .int
  | 9 => .array .int
  | _ => .array .int
abbrev wsX00 : List Cond := u_ws RX0 TX0 11
theorem nmX0 : ∀ a, a < 11 → ∀ b, b < 11 → a ≠ b → (TX0 a).2.1 ≠ (TX0 b).2.1 := by decide +kernel
theorem tyX0_ok : ∀ k, k < 11 → parseFieldDescriptor (TX0 k).2.2.1 = some (tyX0 k) := by decide +kernel
abbrev cX0_init : ByteArray := prog_2_method_1_code
def yX0_init : MethodName := ⟨RX0, "<init>", "()V"⟩
abbrev cX0_clear : ByteArray := prog_2_method_2_code
def yX0_clear : MethodName := ⟨RX0, "clear", "()V"⟩
abbrev cX0_hasCell : ByteArray := prog_2_method_3_code
def yX0_hasCell : MethodName := ⟨RX0, "hasCell", "(I)Z"⟩
abbrev cX0_hasTower : ByteArray := prog_2_method_4_code
def yX0_hasTower : MethodName := ⟨RX0, "hasTower", "(I)Z"⟩
abbrev cX0_hasPlayer : ByteArray := prog_2_method_5_code
def yX0_hasPlayer : MethodName := ⟨RX0, "hasPlayer", "(I)Z"⟩
abbrev cX0_hasBoat : ByteArray := prog_2_method_6_code
def yX0_hasBoat : MethodName := ⟨RX0, "hasBoat", "(I)Z"⟩
abbrev cX0_bears : ByteArray := prog_2_method_7_code
def yX0_bears : MethodName := ⟨RX0, "bears", "(III)I"⟩
def RX1 : String := "GurdyTide$Draws"
def TX1 : u_T := fun k => match k with
  | _ => ("GurdyTide$Draws", "seed", "I", false)
def tyX1 : Nat → FieldType := fun k => match k with
  | _ => .int
abbrev wsX10 : List Cond := u_ws RX1 TX1 1
theorem nmX1 : ∀ a, a < 1 → ∀ b, b < 1 → a ≠ b → (TX1 a).2.1 ≠ (TX1 b).2.1 := by decide +kernel
theorem tyX1_ok : ∀ k, k < 1 → parseFieldDescriptor (TX1 k).2.2.1 = some (tyX1 k) := by decide +kernel
abbrev cX1_init : ByteArray := prog_3_method_1_code
def yX1_init : MethodName := ⟨RX1, "<init>", "()V"⟩
abbrev cX1_next : ByteArray := prog_3_method_2_code
def yX1_next : MethodName := ⟨RX1, "next", "(I)I"⟩
abbrev cX1_stir : ByteArray := prog_3_method_3_code
def yX1_stir : MethodName := ⟨RX1, "stir", "(LGurdyTide$Coast;LGurdyTide$State;)V"⟩
abbrev cX1_sitByDraw : ByteArray := prog_3_method_4_code
def yX1_sitByDraw : MethodName := ⟨RX1, "sitByDraw", "(LGurdyTide$Coast;LGurdyTide$State;I)V"⟩
def RX2 : String := "GurdyTide$Image"
def TX2 : u_T := fun k => match k with
  | 0 => ("GurdyTide$Image", "state", "LGurdyTide$State;", true)
  | 1 => ("GurdyTide$Image", "seed", "I", false)
  | _ => ("GurdyTide$Image", "kept", "Z", false)
def tyX2 : Nat → FieldType := fun k => match k with
  | 0 => .object "GurdyTide$State"
  | 1 => .int
  | _ => .boolean
abbrev wsX20 : List Cond := u_ws RX2 TX2 3
theorem nmX2 : ∀ a, a < 3 → ∀ b, b < 3 → a ≠ b → (TX2 a).2.1 ≠ (TX2 b).2.1 := by decide +kernel
theorem tyX2_ok : ∀ k, k < 3 → parseFieldDescriptor (TX2 k).2.2.1 = some (tyX2 k) := by decide +kernel
abbrev cX2_init : ByteArray := prog_4_method_1_code
def yX2_init : MethodName := ⟨RX2, "<init>", "()V"⟩
def RX3 : String := "GurdyTide$Notes"
def TX3 : u_T := fun k => match k with
  | 0 => ("GurdyTide$Notes", "marks", "I", false)
  | 1 => ("GurdyTide$Notes", "seen", "I", false)
  | 2 => ("GurdyTide$Notes", "entries", "I", false)
  | 3 => ("GurdyTide$Notes", "markCell", "[I", true)
  | 4 => ("GurdyTide$Notes", "markHours", "[I", true)
  | 5 => ("GurdyTide$Notes", "markSea", "[I", true)
  | 6 => ("GurdyTide$Notes", "seenWound", "[I", true)
  | 7 => ("GurdyTide$Notes", "seenFar", "[I", true)
  | 8 => ("GurdyTide$Notes", "seenBorne", "[I", true)
  | 9 => ("GurdyTide$Notes", "entryCell", "[I", true)
  | _ => ("GurdyTide$Notes", "entrySea", "[I", true)
def tyX3 : Nat → FieldType := fun k => match k with
  | 0 => .int
  | 1 => .int
  | 2 => .int
  | 3 => .array .int
  | 4 => .array .int
  | 5 => .array .int
  | 6 => .array .int
  | 7 => .array .int
  | 8 => .array .int
  | 9 => .array .int
  | _ => .array .int
abbrev wsX30 : List Cond := u_ws RX3 TX3 11
theorem nmX3 : ∀ a, a < 11 → ∀ b, b < 11 → a ≠ b → (TX3 a).2.1 ≠ (TX3 b).2.1 := by decide +kernel
theorem tyX3_ok : ∀ k, k < 11 → parseFieldDescriptor (TX3 k).2.2.1 = some (tyX3 k) := by decide +kernel
abbrev cX3_init : ByteArray := prog_5_method_1_code
def yX3_init : MethodName := ⟨RX3, "<init>", "()V"⟩
abbrev cX3_clear : ByteArray := prog_5_method_2_code
def yX3_clear : MethodName := ⟨RX3, "clear", "()V"⟩
abbrev cX3_addMark : ByteArray := prog_5_method_3_code
def yX3_addMark : MethodName := ⟨RX3, "addMark", "(III)I"⟩
abbrev cX3_addSeen : ByteArray := prog_5_method_4_code
def yX3_addSeen : MethodName := ⟨RX3, "addSeen", "(III)I"⟩
abbrev cX3_addEntry : ByteArray := prog_5_method_5_code
def yX3_addEntry : MethodName := ⟨RX3, "addEntry", "(II)I"⟩
abbrev cX3_lastMark : ByteArray := prog_5_method_6_code
def yX3_lastMark : MethodName := ⟨RX3, "lastMark", "()I"⟩
abbrev cX3_marksAreSo : ByteArray := prog_5_method_7_code
def yX3_marksAreSo : MethodName := ⟨RX3, "marksAreSo", "(ILGurdyTide$Coast;LGurdyTide$State;)Z"⟩
abbrev cX3_guts : ByteArray := prog_5_method_8_code
def yX3_guts : MethodName := ⟨RX3, "guts", "()I"⟩
abbrev cX3_seenIsSo : ByteArray := prog_5_method_9_code
def yX3_seenIsSo : MethodName := ⟨RX3, "seenIsSo", "(I)Z"⟩
abbrev cX3_firstWrong : ByteArray := prog_5_method_10_code
def yX3_firstWrong : MethodName := ⟨RX3, "firstWrong", "(LGurdyTide$Coast;LGurdyTide$State;)I"⟩
def RX4 : String := "GurdyTide$Past"
def TX4 : u_T := fun k => match k with
  | 0 => ("GurdyTide$Past", "ring", "[LGurdyTide$State;", true)
  | 1 => ("GurdyTide$Past", "next", "I", false)
  | _ => ("GurdyTide$Past", "count", "I", false)
def tyX4 : Nat → FieldType := fun k => match k with
  | 0 => .array (.object "GurdyTide$State")
  | 1 => .int
  | _ => .int
abbrev wsX40 : List Cond := u_ws RX4 TX4 3
theorem nmX4 : ∀ a, a < 3 → ∀ b, b < 3 → a ≠ b → (TX4 a).2.1 ≠ (TX4 b).2.1 := by decide +kernel
theorem tyX4_ok : ∀ k, k < 3 → parseFieldDescriptor (TX4 k).2.2.1 = some (tyX4 k) := by decide +kernel
abbrev cX4_init : ByteArray := prog_6_method_1_code
def yX4_init : MethodName := ⟨RX4, "<init>", "()V"⟩
abbrev cX4_remember : ByteArray := prog_6_method_2_code
def yX4_remember : MethodName := ⟨RX4, "remember", "(LGurdyTide$State;)V"⟩
abbrev cX4_recall : ByteArray := prog_6_method_3_code
def yX4_recall : MethodName := ⟨RX4, "recall", "(LGurdyTide$State;)V"⟩
abbrev cX4_forget : ByteArray := prog_6_method_4_code
def yX4_forget : MethodName := ⟨RX4, "forget", "()V"⟩
def RX5 : String := "GurdyTide$Plan"
def TX5 : u_T := fun k => match k with
  | 0 => ("GurdyTide$Plan", "best", "[I", true)
  | 1 => ("GurdyTide$Plan", "tried", "[I", true)
  | 2 => ("GurdyTide$Plan", "gain", "[[I", true)
  | 3 => ("GurdyTide$Plan", "mostGain", "[[I", true)
  | 4 => ("GurdyTide$Plan", "leastArms", "I", false)
  | _ => ("GurdyTide$Plan", "need", "I", false)
def tyX5 : Nat → FieldType := fun k => match k with
  | 0 => .array .int
  | 1 => .array .int
  | 2 => .array (.array .int)
  | 3 => .array (.array .int)
  | 4 => .int
  | _ => .int
abbrev wsX50 : List Cond := u_ws RX5 TX5 6
theorem nmX5 : ∀ a, a < 6 → ∀ b, b < 6 → a ≠ b → (TX5 a).2.1 ≠ (TX5 b).2.1 := by decide +kernel
theorem tyX5_ok : ∀ k, k < 6 → parseFieldDescriptor (TX5 k).2.2.1 = some (tyX5 k) := by decide +kernel
abbrev cX5_init : ByteArray := prog_7_method_1_code
def yX5_init : MethodName := ⟨RX5, "<init>", "()V"⟩
abbrev cX5_search : ByteArray := prog_7_method_2_code
def yX5_search : MethodName := ⟨RX5, "search", "(LGurdyTide$Coast;LGurdyTide$State;III)I"⟩
abbrev cX5_seaIfAllRest : ByteArray := prog_7_method_3_code
def yX5_seaIfAllRest : MethodName := ⟨RX5, "seaIfAllRest", "(LGurdyTide$Coast;LGurdyTide$State;II)I"⟩
abbrev cX5_letDown : ByteArray := prog_7_method_4_code
def yX5_letDown : MethodName := ⟨RX5, "letDown", "(II)I"⟩
abbrev cX5_noteGains : ByteArray := prog_7_method_5_code
def yX5_noteGains : MethodName := ⟨RX5, "noteGains", "(LGurdyTide$Coast;LGurdyTide$State;II)V"⟩
abbrev cX5_noteMostGain : ByteArray := prog_7_method_6_code
def yX5_noteMostGain : MethodName := ⟨RX5, "noteMostGain", "(II)V"⟩
abbrev cX5_woundBy : ByteArray := prog_7_method_7_code
def yX5_woundBy : MethodName := ⟨RX5, "woundBy", "(LGurdyTide$Coast;LGurdyTide$State;III)I"⟩
abbrev cX5_seatFrom : ByteArray := prog_7_method_8_code
def yX5_seatFrom : MethodName := ⟨RX5, "seatFrom", "(LGurdyTide$Plan;LGurdyTide$Coast;IIIII)V"⟩
abbrev cX5_take : ByteArray := prog_7_method_9_code
def yX5_take : MethodName := ⟨RX5, "take", "(II)V"⟩
def RX6 : String := "GurdyTide$Reader"
def TX6 : u_T := fun k => match k with
  | 0 => ("GurdyTide$Reader", "text", "[I", true)
  | 1 => ("GurdyTide$Reader", "length", "I", false)
  | 2 => ("GurdyTide$Reader", "at", "I", false)
  | 3 => ("GurdyTide$Reader", "kind", "I", false)
  | _ => ("GurdyTide$Reader", "place", "I", false)
def tyX6 : Nat → FieldType := fun k => match k with
  | 0 => .array .int
  | 1 => .int
  | 2 => .int
  | 3 => .int
  | _ => .int
abbrev wsX60 : List Cond := u_ws RX6 TX6 5
theorem nmX6 : ∀ a, a < 5 → ∀ b, b < 5 → a ≠ b → (TX6 a).2.1 ≠ (TX6 b).2.1 := by decide +kernel
theorem tyX6_ok : ∀ k, k < 5 → parseFieldDescriptor (TX6 k).2.2.1 = some (tyX6 k) := by decide +kernel
abbrev cX6_init : ByteArray := prog_8_method_1_code
def yX6_init : MethodName := ⟨RX6, "<init>", "()V"⟩
abbrev cX6_letters : ByteArray := prog_8_method_2_code
def yX6_letters : MethodName := ⟨RX6, "letters", "()I"⟩
abbrev cX6_faultPlace : ByteArray := prog_8_method_3_code
def yX6_faultPlace : MethodName := ⟨RX6, "faultPlace", "()I"⟩
abbrev cX6_add : ByteArray := prog_8_method_4_code
def yX6_add : MethodName := ⟨RX6, "add", "(I)I"⟩
abbrev cX6_readInto : ByteArray := prog_8_method_5_code
def yX6_readInto : MethodName := ⟨RX6, "readInto", "(LGurdyTide$Coast;)I"⟩
abbrev cX6_readCells : ByteArray := prog_8_method_6_code
def yX6_readCells : MethodName := ⟨RX6, "readCells", "(LGurdyTide$Coast;)V"⟩
abbrev cX6_readClause : ByteArray := prog_8_method_7_code
def yX6_readClause : MethodName := ⟨RX6, "readClause", "(LGurdyTide$Coast;)V"⟩
abbrev cX6_readTower : ByteArray := prog_8_method_8_code
def yX6_readTower : MethodName := ⟨RX6, "readTower", "(LGurdyTide$Coast;)V"⟩
abbrev cX6_readPlayer : ByteArray := prog_8_method_9_code
def yX6_readPlayer : MethodName := ⟨RX6, "readPlayer", "(LGurdyTide$Coast;)V"⟩
abbrev cX6_readBoat : ByteArray := prog_8_method_10_code
def yX6_readBoat : MethodName := ⟨RX6, "readBoat", "(LGurdyTide$Coast;)V"⟩
abbrev cX6_moreComes : ByteArray := prog_8_method_11_code
def yX6_moreComes : MethodName := ⟨RX6, "moreComes", "()Z"⟩
abbrev cX6_nextIs : ByteArray := prog_8_method_12_code
def yX6_nextIs : MethodName := ⟨RX6, "nextIs", "(I)Z"⟩
abbrev cX6_takeSign : ByteArray := prog_8_method_13_code
def yX6_takeSign : MethodName := ⟨RX6, "takeSign", "(I)V"⟩
abbrev cX6_isFigure : ByteArray := prog_8_method_14_code
def yX6_isFigure : MethodName := ⟨RX6, "isFigure", "(I)Z"⟩
abbrev cX6_takeNumber : ByteArray := prog_8_method_15_code
def yX6_takeNumber : MethodName := ⟨RX6, "takeNumber", "(II)I"⟩
abbrev cX6_fail : ByteArray := prog_8_method_16_code
def yX6_fail : MethodName := ⟨RX6, "fail", "(II)V"⟩
def RX7 : String := "GurdyTide$Sleepers"
def TX7 : u_T := fun k => match k with
  | _ => ("GurdyTide$Sleepers", "seas", "[[I", true)
def tyX7 : Nat → FieldType := fun k => match k with
  | _ => .array (.array .int)
abbrev wsX70 : List Cond := u_ws RX7 TX7 1
theorem nmX7 : ∀ a, a < 1 → ∀ b, b < 1 → a ≠ b → (TX7 a).2.1 ≠ (TX7 b).2.1 := by decide +kernel
theorem tyX7_ok : ∀ k, k < 1 → parseFieldDescriptor (TX7 k).2.2.1 = some (tyX7 k) := by decide +kernel
abbrev cX7_init : ByteArray := prog_9_method_1_code
def yX7_init : MethodName := ⟨RX7, "<init>", "()V"⟩
abbrev cX7_fitting : ByteArray := prog_9_method_2_code
def yX7_fitting : MethodName := ⟨RX7, "fitting", "(LGurdyTide$Coast;LGurdyTide$State;LGurdyTide$Notes;LGurdyTide$State;)I"⟩
abbrev cX7_fits : ByteArray := prog_9_method_3_code
def yX7_fits : MethodName := ⟨RX7, "fits", "(ILGurdyTide$Coast;LGurdyTide$State;LGurdyTide$Notes;LGurdyTide$State;)Z"⟩
abbrev cX7_beginAsleep : ByteArray := prog_9_method_4_code
def yX7_beginAsleep : MethodName := ⟨RX7, "beginAsleep", "(ILGurdyTide$State;LGurdyTide$State;)V"⟩
abbrev cX7_bestMark : ByteArray := prog_9_method_5_code
def yX7_bestMark : MethodName := ⟨RX7, "bestMark", "(ILGurdyTide$Coast;LGurdyTide$State;LGurdyTide$State;)I"⟩
abbrev cX7_noteSeas : ByteArray := prog_9_method_6_code
def yX7_noteSeas : MethodName := ⟨RX7, "noteSeas", "(ILGurdyTide$Coast;LGurdyTide$State;)V"⟩
abbrev cX7_mostAlike : ByteArray := prog_9_method_7_code
def yX7_mostAlike : MethodName := ⟨RX7, "mostAlike", "(II)I"⟩
def RX8 : String := "GurdyTide$State"
def TX8 : u_T := fun k => match k with
  | 0 => ("GurdyTide$State", "hours", "I", false)
  | 1 => ("GurdyTide$State", "asleep", "I", false)
  | 2 => ("GurdyTide$State", "wound", "[I", true)
  | 3 => ("GurdyTide$State", "seat", "[I", true)
  | 4 => ("GurdyTide$State", "tired", "[I", true)
  | _ => ("GurdyTide$State", "place", "[I", true)
def tyX8 : Nat → FieldType := fun k => match k with
  | 0 => .int
  | 1 => .int
  | 2 => .array .int
  | 3 => .array .int
  | 4 => .array .int
  | _ => .array .int
abbrev wsX80 : List Cond := u_ws RX8 TX8 6
theorem nmX8 : ∀ a, a < 6 → ∀ b, b < 6 → a ≠ b → (TX8 a).2.1 ≠ (TX8 b).2.1 := by decide +kernel
theorem tyX8_ok : ∀ k, k < 6 → parseFieldDescriptor (TX8 k).2.2.1 = some (tyX8 k) := by decide +kernel
abbrev cX8_init : ByteArray := prog_10_method_1_code
def yX8_init : MethodName := ⟨RX8, "<init>", "()V"⟩
abbrev cX8_begin : ByteArray := prog_10_method_2_code
def yX8_begin : MethodName := ⟨RX8, "begin", "(LGurdyTide$Coast;)V"⟩
abbrev cX8_copy : ByteArray := prog_10_method_3_code
def yX8_copy : MethodName := ⟨RX8, "copy", "(LGurdyTide$State;)V"⟩
abbrev cX8_sleeps : ByteArray := prog_10_method_4_code
def yX8_sleeps : MethodName := ⟨RX8, "sleeps", "(I)Z"⟩
abbrev cX8_setAsleep : ByteArray := prog_10_method_5_code
def yX8_setAsleep : MethodName := ⟨RX8, "setAsleep", "(IZ)V"⟩
abbrev cX8_sitterAt : ByteArray := prog_10_method_6_code
def yX8_sitterAt : MethodName := ⟨RX8, "sitterAt", "(LGurdyTide$Coast;I)I"⟩
abbrev cX8_sitting : ByteArray := prog_10_method_7_code
def yX8_sitting : MethodName := ⟨RX8, "sitting", "(LGurdyTide$Coast;)I"⟩
abbrev cX8_passHour : ByteArray := prog_10_method_8_code
def yX8_passHour : MethodName := ⟨RX8, "passHour", "(LGurdyTide$Coast;)V"⟩
abbrev cX8_wind : ByteArray := prog_10_method_9_code
def yX8_wind : MethodName := ⟨RX8, "wind", "(LGurdyTide$Coast;)V"⟩
abbrev cX8_woundMore : ByteArray := prog_10_method_10_code
def yX8_woundMore : MethodName := ⟨RX8, "woundMore", "(III)I"⟩
abbrev cX8_sail : ByteArray := prog_10_method_11_code
def yX8_sail : MethodName := ⟨RX8, "sail", "(LGurdyTide$Coast;I)V"⟩
abbrev cX8_aground : ByteArray := prog_10_method_12_code
def yX8_aground : MethodName := ⟨RX8, "aground", "(LGurdyTide$Coast;)I"⟩
abbrev cX8_arrived : ByteArray := prog_10_method_13_code
def yX8_arrived : MethodName := ⟨RX8, "arrived", "(LGurdyTide$Coast;)I"⟩
abbrev cX8_seaAt : ByteArray := prog_10_method_14_code
def yX8_seaAt : MethodName := ⟨RX8, "seaAt", "(LGurdyTide$Coast;I)I"⟩
abbrev cX8_depthAt : ByteArray := prog_10_method_15_code
def yX8_depthAt : MethodName := ⟨RX8, "depthAt", "(LGurdyTide$Coast;I)I"⟩
abbrev cX8_wet : ByteArray := prog_10_method_16_code
def yX8_wet : MethodName := ⟨RX8, "wet", "(LGurdyTide$Coast;)I"⟩
abbrev cX8_dryGround : ByteArray := prog_10_method_17_code
def yX8_dryGround : MethodName := ⟨RX8, "dryGround", "(LGurdyTide$Coast;)I"⟩
abbrev cX8_strongest : ByteArray := prog_10_method_18_code
def yX8_strongest : MethodName := ⟨RX8, "strongest", "(LGurdyTide$Coast;I)I"⟩
abbrev cX8_steepest : ByteArray := prog_10_method_19_code
def yX8_steepest : MethodName := ⟨RX8, "steepest", "(LGurdyTide$Coast;)I"⟩
abbrev cX8_slope : ByteArray := prog_10_method_20_code
def yX8_slope : MethodName := ⟨RX8, "slope", "(LGurdyTide$Coast;)I"⟩
abbrev cX8_unlikeness : ByteArray := prog_10_method_21_code
def yX8_unlikeness : MethodName := ⟨RX8, "unlikeness", "(LGurdyTide$Coast;I)I"⟩
def RX9 : String := "GurdyTide"
def TX9 : u_T := fun k => match k with
  | 0 => ("GurdyTide", "reader", "LGurdyTide$Reader;", true)
  | 1 => ("GurdyTide", "coast", "LGurdyTide$Coast;", false)
  | 2 => ("GurdyTide", "spare", "LGurdyTide$Coast;", false)
  | 3 => ("GurdyTide", "now", "LGurdyTide$State;", true)
  | 4 => ("GurdyTide", "trial", "LGurdyTide$State;", true)
  | 5 => ("GurdyTide", "past", "LGurdyTide$Past;", true)
  | 6 => ("GurdyTide", "images", "[LGurdyTide$Image;", true)
  | 7 => ("GurdyTide", "draws", "LGurdyTide$Draws;", true)
  | 8 => ("GurdyTide", "notes", "LGurdyTide$Notes;", true)
  | 9 => ("GurdyTide", "plan", "LGurdyTide$Plan;", true)
  | 10 => ("GurdyTide", "sleepers", "LGurdyTide$Sleepers;", true)
  | _ => ("GurdyTide", "faultAt", "I", false)
def tyX9 : Nat → FieldType := fun k => match k with
  | 0 => .object "GurdyTide$Reader"
  | 1 => .object "GurdyTide$Coast"
  | 2 => .object "GurdyTide$Coast"
  | 3 => .object "GurdyTide$State"
  | 4 => .object "GurdyTide$State"
  | 5 => .object "GurdyTide$Past"
  | 6 => .array (.object "GurdyTide$Image")
  | 7 => .object "GurdyTide$Draws"
  | 8 => .object "GurdyTide$Notes"
  | 9 => .object "GurdyTide$Plan"
  | 10 => .object "GurdyTide$Sleepers"
  | _ => .int
abbrev wsX90 : List Cond := u_ws RX9 TX9 12
theorem nmX9 : ∀ a, a < 12 → ∀ b, b < 12 → a ≠ b → (TX9 a).2.1 ≠ (TX9 b).2.1 := by decide +kernel
theorem tyX9_ok : ∀ k, k < 12 → parseFieldDescriptor (TX9 k).2.2.1 = some (tyX9 k) := by decide +kernel
abbrev cX9_init : ByteArray := prog_1_method_1_code
def yX9_init : MethodName := ⟨RX9, "<init>", "()V"⟩
abbrev cX9_feed : ByteArray := prog_1_method_2_code
def yX9_feed : MethodName := ⟨RX9, "feed", "(I)I"⟩
abbrev cX9_coast : ByteArray := prog_1_method_3_code
def yX9_coast : MethodName := ⟨RX9, "coast", "()I"⟩
abbrev cX9_fault : ByteArray := prog_1_method_4_code
def yX9_fault : MethodName := ⟨RX9, "fault", "()I"⟩
abbrev cX9_told : ByteArray := prog_1_method_5_code
def yX9_told : MethodName := ⟨RX9, "told", "(I)I"⟩
abbrev cX9_cell : ByteArray := prog_1_method_6_code
def yX9_cell : MethodName := ⟨RX9, "cell", "(II)I"⟩
abbrev cX9_tower : ByteArray := prog_1_method_7_code
def yX9_tower : MethodName := ⟨RX9, "tower", "(II)I"⟩
abbrev cX9_player : ByteArray := prog_1_method_8_code
def yX9_player : MethodName := ⟨RX9, "player", "(II)I"⟩
abbrev cX9_boat : ByteArray := prog_1_method_9_code
def yX9_boat : MethodName := ⟨RX9, "boat", "(II)I"⟩
abbrev cX9_hour : ByteArray := prog_1_method_10_code
def yX9_hour : MethodName := ⟨RX9, "hour", "(I)I"⟩
abbrev cX9_sit : ByteArray := prog_1_method_11_code
def yX9_sit : MethodName := ⟨RX9, "sit", "(II)I"⟩
abbrev cX9_rest : ByteArray := prog_1_method_12_code
def yX9_rest : MethodName := ⟨RX9, "rest", "(I)I"⟩
abbrev cX9_sleep : ByteArray := prog_1_method_13_code
def yX9_sleep : MethodName := ⟨RX9, "sleep", "(IZ)I"⟩
abbrev cX9_turn : ByteArray := prog_1_method_14_code
def yX9_turn : MethodName := ⟨RX9, "turn", "(II)I"⟩
abbrev cX9_send : ByteArray := prog_1_method_15_code
def yX9_send : MethodName := ⟨RX9, "send", "(I)I"⟩
abbrev cX9_drift : ByteArray := prog_1_method_16_code
def yX9_drift : MethodName := ⟨RX9, "drift", "(I)I"⟩
abbrev cX9_undo : ByteArray := prog_1_method_17_code
def yX9_undo : MethodName := ⟨RX9, "undo", "()I"⟩
abbrev cX9_sea : ByteArray := prog_1_method_18_code
def yX9_sea : MethodName := ⟨RX9, "sea", "(III)I"⟩
abbrev cX9_deepest : ByteArray := prog_1_method_19_code
def yX9_deepest : MethodName := ⟨RX9, "deepest", "(III)I"⟩
abbrev cX9_comes : ByteArray := prog_1_method_20_code
def yX9_comes : MethodName := ⟨RX9, "comes", "(I)I"⟩
abbrev cX9_seats : ByteArray := prog_1_method_21_code
def yX9_seats : MethodName := ⟨RX9, "seats", "(IIII)I"⟩
abbrev cX9_leave : ByteArray := prog_1_method_22_code
def yX9_leave : MethodName := ⟨RX9, "leave", "(I)I"⟩
abbrev cX9_share : ByteArray := prog_1_method_23_code
def yX9_share : MethodName := ⟨RX9, "share", "(II)I"⟩
abbrev cX9_calm : ByteArray := prog_1_method_24_code
def yX9_calm : MethodName := ⟨RX9, "calm", "(II)I"⟩
abbrev cX9_mark : ByteArray := prog_1_method_25_code
def yX9_mark : MethodName := ⟨RX9, "mark", "(III)I"⟩
abbrev cX9_look : ByteArray := prog_1_method_26_code
def yX9_look : MethodName := ⟨RX9, "look", "()I"⟩
abbrev cX9_see : ByteArray := prog_1_method_27_code
def yX9_see : MethodName := ⟨RX9, "see", "(III)I"⟩
abbrev cX9_write : ByteArray := prog_1_method_28_code
def yX9_write : MethodName := ⟨RX9, "write", "(II)I"⟩
abbrev cX9_tear : ByteArray := prog_1_method_29_code
def yX9_tear : MethodName := ⟨RX9, "tear", "()I"⟩
abbrev cX9_judge : ByteArray := prog_1_method_30_code
def yX9_judge : MethodName := ⟨RX9, "judge", "()I"⟩
abbrev cX9_seed : ByteArray := prog_1_method_31_code
def yX9_seed : MethodName := ⟨RX9, "seed", "(I)I"⟩
abbrev cX9_keep : ByteArray := prog_1_method_32_code
def yX9_keep : MethodName := ⟨RX9, "keep", "(I)I"⟩
abbrev cX9_goBack : ByteArray := prog_1_method_33_code
def yX9_goBack : MethodName := ⟨RX9, "goBack", "(I)I"⟩
abbrev cX9_within : ByteArray := prog_1_method_34_code
def yX9_within : MethodName := ⟨RX9, "within", "(III)Z"⟩
abbrev cX9_refusalOfHours : ByteArray := prog_1_method_35_code
def yX9_refusalOfHours : MethodName := ⟨RX9, "refusalOfHours", "(I)I"⟩
abbrev cX9_shareOf : ByteArray := prog_1_method_36_code
def yX9_shareOf : MethodName := ⟨RX9, "shareOf", "(III)I"⟩
def RX10 : String := "GurdyTideModel"
def TX10 : u_T := fun k => match k with
  | 0 => ("GurdyTideModel", "coast", "[I", true)
  | 1 => ("GurdyTideModel", "read", "[I", true)
  | 2 => ("GurdyTideModel", "now", "[I", true)
  | 3 => ("GurdyTideModel", "aside", "[I", true)
  | 4 => ("GurdyTideModel", "past", "[I", true)
  | 5 => ("GurdyTideModel", "undos", "I", false)
  | 6 => ("GurdyTideModel", "images", "[I", true)
  | 7 => ("GurdyTideModel", "kept", "[Z", true)
  | 8 => ("GurdyTideModel", "seed", "J", false)
  | 9 => ("GurdyTideModel", "text", "[I", true)
  | 10 => ("GurdyTideModel", "size", "I", false)
  | 11 => ("GurdyTideModel", "fault", "I", false)
  | 12 => ("GurdyTideModel", "marks", "[I", true)
  | 13 => ("GurdyTideModel", "markMany", "I", false)
  | 14 => ("GurdyTideModel", "sights", "[I", true)
  | 15 => ("GurdyTideModel", "sightMany", "I", false)
  | 16 => ("GurdyTideModel", "book", "[I", true)
  | 17 => ("GurdyTideModel", "bookMany", "I", false)
  | 18 => ("GurdyTideModel", "at", "I", false)
  | 19 => ("GurdyTideModel", "begin", "I", false)
  | 20 => ("GurdyTideModel", "sign", "I", false)
  | 21 => ("GurdyTideModel", "figures", "I", false)
  | 22 => ("GurdyTideModel", "value", "I", false)
  | 23 => ("GurdyTideModel", "wrong", "I", false)
  | 24 => ("GurdyTideModel", "row", "[I", true)
  | 25 => ("GurdyTideModel", "best", "[I", true)
  | 26 => ("GurdyTideModel", "bestMany", "I", false)
  | 27 => ("GurdyTideModel", "bestArms", "I", false)
  | _ => ("GurdyTideModel", "then", "[I", true)
def tyX10 : Nat → FieldType := fun k => match k with
  | 0 => .array .int
  | 1 => .array .int
  | 2 => .array .int
  | 3 => .array .int
  | 4 => .array .int
  | 5 => .int
  | 6 => .array .int
  | 7 => .array .boolean
  | 8 => .long
  | 9 => .array .int
  | 10 => .int
  | 11 => .int
  | 12 => .array .int
  | 13 => .int
  | 14 => .array .int
  | 15 => .int
  | 16 => .array .int
  | 17 => .int
  | 18 => .int
  | 19 => .int
  | 20 => .int
  | 21 => .int
  | 22 => .int
  | 23 => .int
  | 24 => .array .int
  | 25 => .array .int
  | 26 => .int
  | 27 => .int
  | _ => .array .int
abbrev wsX100 : List Cond := u_ws RX10 TX10 29
theorem nmX10 : ∀ a, a < 29 → ∀ b, b < 29 → a ≠ b → (TX10 a).2.1 ≠ (TX10 b).2.1 := by decide +kernel
theorem tyX10_ok : ∀ k, k < 29 → parseFieldDescriptor (TX10 k).2.2.1 = some (tyX10 k) := by decide +kernel
abbrev cX10_init : ByteArray := prog_12_method_1_code
def yX10_init : MethodName := ⟨RX10, "<init>", "()V"⟩
abbrev cX10_in : ByteArray := prog_12_method_3_code
def yX10_in : MethodName := ⟨RX10, "in", "(JJJ)Z"⟩
abbrev cX10_has : ByteArray := prog_12_method_4_code
def yX10_has : MethodName := ⟨RX10, "has", "(II)Z"⟩
abbrev cX10_bits : ByteArray := prog_12_method_5_code
def yX10_bits : MethodName := ⟨RX10, "bits", "(I)I"⟩
abbrev cX10_lesser : ByteArray := prog_12_method_6_code
def yX10_lesser : MethodName := ⟨RX10, "lesser", "(II)I"⟩
abbrev cX10_greater : ByteArray := prog_12_method_7_code
def yX10_greater : MethodName := ⟨RX10, "greater", "(II)I"⟩
abbrev cX10_copies : ByteArray := prog_12_method_8_code
def yX10_copies : MethodName := ⟨RX10, "copies", "([II[III)V"⟩
abbrev cX10_begins : ByteArray := prog_12_method_9_code
def yX10_begins : MethodName := ⟨RX10, "begins", "()V"⟩
abbrev cX10_feed : ByteArray := prog_12_method_10_code
def yX10_feed : MethodName := ⟨RX10, "feed", "(I)I"⟩
abbrev cX10_here : ByteArray := prog_12_method_11_code
def yX10_here : MethodName := ⟨RX10, "here", "()I"⟩
abbrev cX10_step : ByteArray := prog_12_method_12_code
def yX10_step : MethodName := ⟨RX10, "step", "()V"⟩
abbrev cX10_fails : ByteArray := prog_12_method_13_code
def yX10_fails : MethodName := ⟨RX10, "fails", "(I)Z"⟩
abbrev cX10_number : ByteArray := prog_12_method_14_code
def yX10_number : MethodName := ⟨RX10, "number", "(III)Z"⟩
abbrev cX10_ends : ByteArray := prog_12_method_15_code
def yX10_ends : MethodName := ⟨RX10, "ends", "()Z"⟩
abbrev cX10_readsCells : ByteArray := prog_12_method_16_code
def yX10_readsCells : MethodName := ⟨RX10, "readsCells", "()Z"⟩
abbrev cX10_readsTower : ByteArray := prog_12_method_17_code
def yX10_readsTower : MethodName := ⟨RX10, "readsTower", "()Z"⟩
abbrev cX10_readsPlayer : ByteArray := prog_12_method_18_code
def yX10_readsPlayer : MethodName := ⟨RX10, "readsPlayer", "()Z"⟩
abbrev cX10_readsBoat : ByteArray := prog_12_method_19_code
def yX10_readsBoat : MethodName := ⟨RX10, "readsBoat", "()Z"⟩
abbrev cX10_readsClause : ByteArray := prog_12_method_20_code
def yX10_readsClause : MethodName := ⟨RX10, "readsClause", "()Z"⟩
abbrev cX10_coast : ByteArray := prog_12_method_21_code
def yX10_coast : MethodName := ⟨RX10, "coast", "()I"⟩
abbrev cX10_fault : ByteArray := prog_12_method_22_code
def yX10_fault : MethodName := ⟨RX10, "fault", "()I"⟩
abbrev cX10_isCell : ByteArray := prog_12_method_23_code
def yX10_isCell : MethodName := ⟨RX10, "isCell", "(I)Z"⟩
abbrev cX10_isTower : ByteArray := prog_12_method_24_code
def yX10_isTower : MethodName := ⟨RX10, "isTower", "(I)Z"⟩
abbrev cX10_isPlayer : ByteArray := prog_12_method_25_code
def yX10_isPlayer : MethodName := ⟨RX10, "isPlayer", "(I)Z"⟩
abbrev cX10_isBoat : ByteArray := prog_12_method_26_code
def yX10_isBoat : MethodName := ⟨RX10, "isBoat", "(I)Z"⟩
abbrev cX10_bears : ByteArray := prog_12_method_27_code
def yX10_bears : MethodName := ⟨RX10, "bears", "([III)I"⟩
abbrev cX10_seaOn : ByteArray := prog_12_method_28_code
def yX10_seaOn : MethodName := ⟨RX10, "seaOn", "([II)I"⟩
abbrev cX10_depthOn : ByteArray := prog_12_method_29_code
def yX10_depthOn : MethodName := ⟨RX10, "depthOn", "([II)I"⟩
abbrev cX10_unlike : ByteArray := prog_12_method_30_code
def yX10_unlike : MethodName := ⟨RX10, "unlike", "([II)I"⟩
abbrev cX10_steepest : ByteArray := prog_12_method_31_code
def yX10_steepest : MethodName := ⟨RX10, "steepest", "([I)I"⟩
abbrev cX10_slopeOn : ByteArray := prog_12_method_32_code
def yX10_slopeOn : MethodName := ⟨RX10, "slopeOn", "([I)I"⟩
abbrev cX10_wet : ByteArray := prog_12_method_33_code
def yX10_wet : MethodName := ⟨RX10, "wet", "()I"⟩
abbrev cX10_strongest : ByteArray := prog_12_method_34_code
def yX10_strongest : MethodName := ⟨RX10, "strongest", "(I)I"⟩
abbrev cX10_sitterOn : ByteArray := prog_12_method_35_code
def yX10_sitterOn : MethodName := ⟨RX10, "sitterOn", "([II)I"⟩
abbrev cX10_boats : ByteArray := prog_12_method_36_code
def yX10_boats : MethodName := ⟨RX10, "boats", "(Z)I"⟩
abbrev cX10_whoSits : ByteArray := prog_12_method_37_code
def yX10_whoSits : MethodName := ⟨RX10, "whoSits", "()I"⟩
abbrev cX10_guts : ByteArray := prog_12_method_38_code
def yX10_guts : MethodName := ⟨RX10, "guts", "()I"⟩
abbrev cX10_told : ByteArray := prog_12_method_39_code
def yX10_told : MethodName := ⟨RX10, "told", "(I)I"⟩
abbrev cX10_cell : ByteArray := prog_12_method_40_code
def yX10_cell : MethodName := ⟨RX10, "cell", "(II)I"⟩
abbrev cX10_tower : ByteArray := prog_12_method_41_code
def yX10_tower : MethodName := ⟨RX10, "tower", "(II)I"⟩
abbrev cX10_player : ByteArray := prog_12_method_42_code
def yX10_player : MethodName := ⟨RX10, "player", "(II)I"⟩
abbrev cX10_boat : ByteArray := prog_12_method_43_code
def yX10_boat : MethodName := ⟨RX10, "boat", "(II)I"⟩
abbrev cX10_winds : ByteArray := prog_12_method_44_code
def yX10_winds : MethodName := ⟨RX10, "winds", "([I)V"⟩
abbrev cX10_hourGoes : ByteArray := prog_12_method_45_code
def yX10_hourGoes : MethodName := ⟨RX10, "hourGoes", "([I)V"⟩
abbrev cX10_remember : ByteArray := prog_12_method_46_code
def yX10_remember : MethodName := ⟨RX10, "remember", "()V"⟩
abbrev cX10_refuses : ByteArray := prog_12_method_47_code
def yX10_refuses : MethodName := ⟨RX10, "refuses", "(I)I"⟩
abbrev cX10_hour : ByteArray := prog_12_method_48_code
def yX10_hour : MethodName := ⟨RX10, "hour", "(I)I"⟩
abbrev cX10_sit : ByteArray := prog_12_method_49_code
def yX10_sit : MethodName := ⟨RX10, "sit", "(II)I"⟩
abbrev cX10_rest : ByteArray := prog_12_method_50_code
def yX10_rest : MethodName := ⟨RX10, "rest", "(I)I"⟩
abbrev cX10_sleeps : ByteArray := prog_12_method_51_code
def yX10_sleeps : MethodName := ⟨RX10, "sleeps", "(IZ)V"⟩
abbrev cX10_sleep : ByteArray := prog_12_method_52_code
def yX10_sleep : MethodName := ⟨RX10, "sleep", "(IZ)I"⟩
abbrev cX10_turn : ByteArray := prog_12_method_53_code
def yX10_turn : MethodName := ⟨RX10, "turn", "(II)I"⟩
abbrev cX10_send : ByteArray := prog_12_method_54_code
def yX10_send : MethodName := ⟨RX10, "send", "(I)I"⟩
abbrev cX10_draw : ByteArray := prog_12_method_55_code
def yX10_draw : MethodName := ⟨RX10, "draw", "(I)I"⟩
abbrev cX10_draws : ByteArray := prog_12_method_56_code
def yX10_draws : MethodName := ⟨RX10, "draws", "()V"⟩
abbrev cX10_drift : ByteArray := prog_12_method_57_code
def yX10_drift : MethodName := ⟨RX10, "drift", "(I)I"⟩
abbrev cX10_undo : ByteArray := prog_12_method_58_code
def yX10_undo : MethodName := ⟨RX10, "undo", "()I"⟩
abbrev cX10_layAside : ByteArray := prog_12_method_59_code
def yX10_layAside : MethodName := ⟨RX10, "layAside", "()V"⟩
abbrev cX10_sea : ByteArray := prog_12_method_60_code
def yX10_sea : MethodName := ⟨RX10, "sea", "(III)I"⟩
abbrev cX10_deepest : ByteArray := prog_12_method_61_code
def yX10_deepest : MethodName := ⟨RX10, "deepest", "(III)I"⟩
abbrev cX10_comes : ByteArray := prog_12_method_62_code
def yX10_comes : MethodName := ⟨RX10, "comes", "(I)I"⟩
abbrev cX10_weighs : ByteArray := prog_12_method_63_code
def yX10_weighs : MethodName := ⟨RX10, "weighs", "(III)V"⟩
abbrev cX10_mayBe : ByteArray := prog_12_method_64_code
def yX10_mayBe : MethodName := ⟨RX10, "mayBe", "(I)Z"⟩
abbrev cX10_goesOn : ByteArray := prog_12_method_65_code
def yX10_goesOn : MethodName := ⟨RX10, "goesOn", "(I)I"⟩
abbrev cX10_plans : ByteArray := prog_12_method_66_code
def yX10_plans : MethodName := ⟨RX10, "plans", "(III)V"⟩
abbrev cX10_seats : ByteArray := prog_12_method_67_code
def yX10_seats : MethodName := ⟨RX10, "seats", "(IIII)I"⟩
abbrev cX10_leave : ByteArray := prog_12_method_68_code
def yX10_leave : MethodName := ⟨RX10, "leave", "(I)I"⟩
abbrev cX10_shareOf : ByteArray := prog_12_method_69_code
def yX10_shareOf : MethodName := ⟨RX10, "shareOf", "(II)I"⟩
abbrev cX10_share : ByteArray := prog_12_method_70_code
def yX10_share : MethodName := ⟨RX10, "share", "(II)I"⟩
abbrev cX10_calm : ByteArray := prog_12_method_71_code
def yX10_calm : MethodName := ⟨RX10, "calm", "(II)I"⟩
abbrev cX10_mark : ByteArray := prog_12_method_72_code
def yX10_mark : MethodName := ⟨RX10, "mark", "(III)I"⟩
abbrev cX10_layThen : ByteArray := prog_12_method_73_code
def yX10_layThen : MethodName := ⟨RX10, "layThen", "(I)V"⟩
abbrev cX10_slept : ByteArray := prog_12_method_74_code
def yX10_slept : MethodName := ⟨RX10, "slept", "()I"⟩
abbrev cX10_greatestPart : ByteArray := prog_12_method_75_code
def yX10_greatestPart : MethodName := ⟨RX10, "greatestPart", "(II)I"⟩
abbrev cX10_look : ByteArray := prog_12_method_76_code
def yX10_look : MethodName := ⟨RX10, "look", "()I"⟩
abbrev cX10_see : ByteArray := prog_12_method_77_code
def yX10_see : MethodName := ⟨RX10, "see", "(III)I"⟩
abbrev cX10_write : ByteArray := prog_12_method_78_code
def yX10_write : MethodName := ⟨RX10, "write", "(II)I"⟩
abbrev cX10_tear : ByteArray := prog_12_method_79_code
def yX10_tear : MethodName := ⟨RX10, "tear", "()I"⟩
abbrev cX10_judge : ByteArray := prog_12_method_80_code
def yX10_judge : MethodName := ⟨RX10, "judge", "()I"⟩
abbrev cX10_seed : ByteArray := prog_12_method_81_code
def yX10_seed : MethodName := ⟨RX10, "seed", "(I)I"⟩
abbrev cX10_keep : ByteArray := prog_12_method_82_code
def yX10_keep : MethodName := ⟨RX10, "keep", "(I)I"⟩
abbrev cX10_goBack : ByteArray := prog_12_method_83_code
def yX10_goBack : MethodName := ⟨RX10, "goBack", "(I)I"⟩
def RJ9 : String := "java/lang/Math"
def TJ9 : u_T := fun k => match k with
  | _ => ("", "", "", false)
def tyJ9 : Nat → FieldType := fun k => match k with
  | _ => .int
abbrev wsJ90 : List Cond := u_ws RJ9 TJ9 0
theorem nmJ9 : ∀ a, a < 0 → ∀ b, b < 0 → a ≠ b → (TJ9 a).2.1 ≠ (TJ9 b).2.1 := by decide +kernel
theorem tyJ9_ok : ∀ k, k < 0 → parseFieldDescriptor (TJ9 k).2.2.1 = some (tyJ9 k) := by decide +kernel
abbrev cJ9_abs_0f7a4 : ByteArray := prog_13_method_59_code
def yJ9_abs_0f7a4 : MethodName := ⟨RJ9, "abs", "(I)I"⟩
abbrev cJ9_max_7cf53 : ByteArray := prog_13_method_65_code
def yJ9_max_7cf53 : MethodName := ⟨RJ9, "max", "(II)I"⟩
abbrev cJ9_min_7cf53 : ByteArray := prog_13_method_69_code
def yJ9_min_7cf53 : MethodName := ⟨RJ9, "min", "(II)I"⟩
def RJ10 : String := "java/lang/System"
def TJ10 : u_T := fun k => match k with
  | _ => ("", "", "", false)
def tyJ10 : Nat → FieldType := fun k => match k with
  | _ => .int
abbrev wsJ100 : List Cond := u_ws RJ10 TJ10 0
theorem nmJ10 : ∀ a, a < 0 → ∀ b, b < 0 → a ≠ b → (TJ10 a).2.1 ≠ (TJ10 b).2.1 := by decide +kernel
theorem tyJ10_ok : ∀ k, k < 0 → parseFieldDescriptor (TJ10 k).2.2.1 = some (tyJ10 k) := by decide +kernel
def RJ7 : String := "java/util/Arrays"
def TJ7 : u_T := fun k => match k with
  | _ => ("", "", "", false)
def tyJ7 : Nat → FieldType := fun k => match k with
  | _ => .int
abbrev wsJ70 : List Cond := u_ws RJ7 TJ7 0
theorem nmJ7 : ∀ a, a < 0 → ∀ b, b < 0 → a ≠ b → (TJ7 a).2.1 ≠ (TJ7 b).2.1 := by decide +kernel
theorem tyJ7_ok : ∀ k, k < 0 → parseFieldDescriptor (TJ7 k).2.2.1 = some (tyJ7 k) := by decide +kernel
abbrev cJ7_fill_53178 : ByteArray := prog_15_method_103_code
def yJ7_fill_53178 : MethodName := ⟨RJ7, "fill", "([II)V"⟩
def RL : String := "GurdyTideLaw"
abbrev cL_law : ByteArray := code
def yL_law : MethodName := ⟨RL, "law", "([I)Z"⟩
abbrev vwCl : List vw_C := [(RX0, TX0, 11), (RX1, TX1, 1), (RX2, TX2, 3), (RX3, TX3, 11), (RX4, TX4, 3), (RX5, TX5, 6), (RX6, TX6, 5), (RX7, TX7, 1), (RX8, TX8, 6), (RX9, TX9, 12), (RX10, TX10, 29)]
end
section
/-! THE ABSTRACT MACHINE: a heap of objects numbered from 1, each at the machine's address 'first new cell + number - 1' (0: the script); a body's judgement gt_A over it, a row an instruction; a method's contract gt_C -/
abbrev gt_G : Type := va_G × (Nat → ClassId) × Nat × Heap × Nat × (Nat → Int32)
abbrev gt_Ob : Type := (Nat × (Nat → Int32)) ⊕ (Nat × (Nat → Int32)) ⊕ (Nat × Nat × (Nat → Option Nat)) ⊕ (Nat × List Value)
abbrev gt_H : Type := Nat → Option gt_Ob
abbrev oI (n : Nat) (f : Nat → Int32) : gt_Ob := .inl (n, f)
abbrev oZ (n : Nat) (f : Nat → Int32) : gt_Ob := .inr (.inl (n, f))
abbrev oR (kd n : Nat) (f : Nat → Option Nat) : gt_Ob := .inr (.inr (.inl (kd, n, f)))
abbrev oO (ci : Nat) (fs : List Value) : gt_Ob := .inr (.inr (.inr (ci, fs)))
abbrev gt_B (G : gt_G) : Nat := G.2.2.2.1.size
def gt_ad (G : gt_G) (k : Nat) : Nat := match k with
  | 0 => G.2.2.1
  | k + 1 => gt_B G + k
def gt_v (G : gt_G) (v : Value) : Value := match v with
  | .ref k => .ref (gt_ad G k)
  | v => v
def gt_e (G : gt_G) (o : gt_Ob) : va_E := match o with
  | .inl (n, f) => .inl (G.2.1 0, n, .inl f)
  | .inr (.inl (n, f)) => .inl (G.2.1 1, n, .inl f)
  | .inr (.inr (.inl (kd, n, f))) => .inl (G.2.1 kd, n, .inr (.inr (.inr (.inr (fun j => (f j).map (gt_ad G))))))
  | .inr (.inr (.inr (ci, fs))) => .inr (ci, fs.map (gt_v G))
def gt_tys (G : gt_G) : List (ClassId × FieldType) := [(G.2.1 0, .int), (G.2.1 1, .boolean), (G.2.1 2, .object "GurdyTide$State"), (G.2.1 3, .object "GurdyTide$Image"), (G.2.1 4, .array .int)]
def gt_tbl : List Cond := lw_tbl.filter goodWord
theorem gt_tbl_lw {w : Cond} (h : w ∈ gt_tbl) : w ∈ lw_tbl := (List.mem_filter.mp h).1
theorem gt_mem {w : Cond} (i : Nat) (h : tables_1[i]? = some w) (hg : goodWord w = true) : w ∈ gt_tbl := List.mem_filter.mpr ⟨List.mem_append_right _ (List.mem_of_getElem? h), hg⟩
theorem gt_memp {y : MethodName} {c : Nat} (i : Nat) (h : lw_privs[i]? = some (y, c)) : Cond.selects y.cls y y ∈ gt_tbl := List.mem_filter.mpr ⟨List.mem_append_left _ (List.mem_map.mpr ⟨(y, c), List.mem_of_getElem? h, rfl⟩), rfl⟩
theorem gt_tbl_good {y : MethodName} {cc : ByteArray} {mL : Nat} {rt : Option FieldType} (h : Cond.code y cc mL rt ∈ gt_tbl) : GoodIn gt_tbl (.code y cc mL rt :: gt_tbl) := fun w hw => by
  have hw : w ∈ gt_tbl := by
    rcases List.mem_cons.mp hw with e | e
    · rw [e]; exact h
    · exact e
  exact ⟨hw, good_of_word (List.mem_filter.mp hw).2⟩
def gt_nest : List (String × Nat × MethodName × String) := [("GurdyTide", 9, ⟨"GurdyTide$Reader", "<init>", "()V"⟩, "GurdyTide"), ("GurdyTide", 18, ⟨"GurdyTide$Coast", "<init>", "()V"⟩, "GurdyTide"), ("GurdyTide", 28, ⟨"GurdyTide$State", "<init>", "()V"⟩, "GurdyTide"), ("GurdyTide$Past", 17, ⟨"GurdyTide$State", "<init>", "()V"⟩, "GurdyTide"), ("GurdyTide", 51, ⟨"GurdyTide$Draws", "<init>", "()V"⟩, "GurdyTide"), ("GurdyTide", 58, ⟨"GurdyTide$Notes", "<init>", "()V"⟩, "GurdyTide"), ("GurdyTide", 65, ⟨"GurdyTide$Plan", "<init>", "()V"⟩, "GurdyTide"), ("GurdyTide", 72, ⟨"GurdyTide$Sleepers", "<init>", "()V"⟩, "GurdyTide"), ("GurdyTide", 81, ⟨"GurdyTide$Image", "<init>", "()V"⟩, "GurdyTide"), ("GurdyTide$Image", 9, ⟨"GurdyTide$State", "<init>", "()V"⟩, "GurdyTide")]
def gt_K (G : gt_G) (U : State) : Prop := va_K G.1 vwCl (gt_tys G) U ∧ va_X G.2.2.1 G.2.2.2.2.1 G.2.2.2.2.2 U G.2.2.2.1 ∧ G.2.2.1 < gt_B G ∧ (∀ q ∈ gt_nest, va_Nw (.methodLinkNest q.1 q.2.1 q.2.2.1 q.2.2.2) U) ∧ va_AO "GurdyTide$State" U ∧ va_AO "GurdyTide$Image" U ∧ (Cond.arrayOver (.array .int)).before #[] U = true
theorem gt_K_warm {G : gt_G} {u U : State} (hW : u.WarmedH U.vm) (h : gt_K G u) : gt_K G U := ⟨va_K.moved hW.alike h.1, va_X.moved hW.alike h.2.1, h.2.2.1, fun q hq => va_Nw.warmM hW (h.2.2.2.1 q hq), va_AO.moved hW.alike h.2.2.2.2.1, va_AO.moved hW.alike h.2.2.2.2.2.1, over_moved hW.alike h.2.2.2.2.2.2⟩
theorem gt_K_same {G : gt_G} {u U : State} (hv : u.vm = U.vm) (h : gt_K G u) : gt_K G U := by
  have ha : u.vm.Alike U.vm := by rw [hv]; exact Vm.Alike.refl _
  exact ⟨va_K.moved ha h.1, va_X.moved ha h.2.1, h.2.2.1, fun q hq => va_Nw.same rfl hv (h.2.2.2.1 q hq), va_AO.moved ha h.2.2.2.2.1, va_AO.moved ha h.2.2.2.2.2.1, over_moved ha h.2.2.2.2.2.2⟩
def gt_R (G : gt_G) (n : Nat) (h : gt_H) (H : Heap) : Prop := (∀ k o, h k = some o → k ≠ 0 ∧ k ≤ n ∧ va_at G.1 vwCl (gt_ad G k, gt_e G o) H) ∧ H.size = gt_B G + n ∧ ∀ q, q < gt_B G → H[q]? = G.2.2.2.1[q]?
def gt_X (G : gt_G) (own nm : String) (cc : ByteArray) (mL : Nat) (rt : Option FieldType) (p : Program) (s : State) (m : MethodId) (args : Array Value) (meth : Method) (c : Code) : Prop :=
  p.tables.exec = Jvm.exec ∧ c.code = cc ∧ c.maxLocals = mL ∧ meth.sig.returnType = rt ∧ meth.locks = false ∧ s.vm.findClass own = some m.cls ∧ meth.name = nm ∧ (∀ w ∈ gt_tbl, w.before args s = true) ∧ gt_K G s
def gt_lm (G : gt_G) (lv : List (Nat × Value)) : List (Nat × Value) := lv.map (fun q => (q.1, gt_v G q.2))
abbrev gt_Zt : Type := List Frame → Array Value → State → State → Prop
/-- the body at pc, locals lv, stack st, heap h comes to its end Z -/
def gt_A (l : Launch) (G : gt_G) (own nm : String) (cc : ByteArray) (mL : Nat) (rt : Option FieldType) (R : Room) (Z : gt_Zt) (N : Nat × Nat × Nat) (pc : Nat) (lv : List (Nat × Value)) (st : List Value) (h : gt_H) : Prop :=
  ∀ (p : Program) (e : Env) (s : State) (m : MethodId) (args : Array Value) (below : List Frame) (meth : Method) (c : Code) (H : Heap) (locs : List Loc) (ls : Array Slot),
    gt_X G own nm cc mL rt p s m args meth c → gt_R G N.1 h H → (∀ q ∈ locs, gt_B G ≤ q.base) → lv_has ls mL (gt_lm G lv) →
    W p l e R s m args below meth c H locs N.2.1 N.2.2 (Z below args s) (F0 m pc ls (st.map (gt_v G)))
def gt_rm (d mc ms : Nat) : Room := { frames := d, cells := mc, slots := ms, locals := 40 * d }
def gt_Q (G : gt_G) (n : Nat) (r : Option Value) (h : gt_H) : Array Value → State → Outcome → State → Prop := fun _ _ o t => o = .returned (r.map (gt_v G)) ∧ gt_R G n h t.heap
def gt_Z (G : gt_G) (n mc ms : Nat) (r : Option Value) (h : gt_H) : gt_Zt := fun below args s => MQ below (gt_Q G n r h) args s mc ms (fun q => gt_B G ≤ q)
def gt_P (G : gt_G) (n : Nat) (as : List Value) (h : gt_H) : Array Value → State → Prop := fun a U => a = (as.map (gt_v G)).toArray ∧ gt_R G n h U.heap ∧ gt_K G U
/-- a method's contract: with these arguments and this heap it answers r and leaves the heap h' -/
def gt_C (l : Launch) (G : gt_G) (y : MethodName) (cc : ByteArray) (mL : Nat) (rt : Option FieldType) (d mc ms n : Nat) (as : List Value) (h : gt_H) (r : Option Value) (h' : gt_H) : Prop :=
  Met l y (.code y cc mL rt :: gt_tbl) (gt_rm d mc ms) (gt_P G n as h) (gt_Q G (n + mc) r h') mc ms (fun q => gt_B G ≤ q)
theorem gt_P_blind (G : gt_G) (n : Nat) (as : List Value) (h : gt_H) : FrameBlind (gt_P G n as h) := fun a U g mk q => ⟨q.1, q.2.1, gt_K_same (u := U) (U := U.calling g mk a) rfl q.2.2⟩
/-- a contract out of the walk of its body -/
theorem gt_C_of {l : Launch} {G : gt_G} {y : MethodName} {own nm : String} {cc : ByteArray} {mL : Nat} {rt : Option FieldType} {d mc ms n : Nat} {as : List Value} {h h' : gt_H} {r : Option Value} (hown : y.cls = own) (hnm : y.name = nm) (hpl : plainName y.cls = true) (hlen : (lg_sl (as.map (gt_v G))).length ≤ mL)
    (body : gt_A l G own nm cc mL rt (gt_rm d mc ms) (gt_Z G (n + mc) mc ms r h') (n, 0, 0) 0 (lv_args 0 as) [] h) : gt_C l G y cc mL rt d mc ms n as h r h' := by
  refine Met.ofW (cc := cc) (maxL := mL) (ret := rt) hpl rfl ?_
  intro p e s m args below meth c s₁ B hml hv
  obtain ⟨rfl, hR, hK⟩ := hv
  have hts := atoms_spec (ws := .code y cc mL rt :: gt_tbl) B.pre
  have hX : gt_X G own nm cc mL rt p s m ((as.map (gt_v G)).toArray) meth c := ⟨B.exec, B.bytes, hml, B.returns, B.notSynchronized, by rw [← hown]; exact findClass_of_methodNamed B.named, by rw [← hnm]; exact (name_of_methodNamed B.named B.method).1, fun w hw => hts w (List.mem_cons_of_mem _ hw), hK⟩
  have hl := lv_entry (as.map (gt_v G)) (n := mL) hlen
  rw [lg_entry_eq]
  have hl2 : lv_args 0 (as.map (gt_v G)) = gt_lm G (lv_args 0 as) := by
    have key : ∀ (xs : List Value) (i : Nat), lv_args i (xs.map (gt_v G)) = gt_lm G (lv_args i xs) := by
      intro xs
      induction xs with
      | nil => intro i; rfl
      | cons x xs ih =>
        intro i
        have hc : (gt_v G x).category = x.category := by cases x <;> rfl
        show lv_args i (gt_v G x :: xs.map (gt_v G)) = gt_lm G (lv_args i (x :: xs))
        simp only [lv_args, gt_lm, List.map_cons, hc]
        rw [ih]
        rfl
    exact key as 0
  rw [hl2] at hl
  exact body p e s m _ below meth c s.heap [] _ hX hR (fun q hq => by cases hq) hl
end
section
section GA
variable {l : Launch} {G : gt_G} {own nm : String} {cc : ByteArray} {mL : Nat} {rt : Option FieldType} {R : Room} {Z : gt_Zt} {N : Nat × Nat × Nat} {pc : Nat} {lv : List (Nat × Value)} {st : List Value} {h : gt_H}
theorem gt_at {ls : Array Slot} (hl : lv_has ls mL (gt_lm G lv)) (j : Nat) {i : Nat} {v : Value} (hk : lv[j]? = some (i, v)) : ls[i]? = some (.val (gt_v G v)) := lv_at hl j (by unfold gt_lm; rw [List.getElem?_map, hk]; rfl)
/-- the locals behind a store -/
def gt_set (lv : List (Nat × Value)) (i : Nat) (v : Value) : List (Nat × Value) := if lv.any (fun q => q.1 == i) then lv.map (fun q => if q.1 == i then (i, v) else q) else lv ++ [(i, v)]
def gt_ok1 (lv : List (Nat × Value)) (i : Nat) : Bool := lv.all (fun q => !(q.1 + 1 == i && q.2.category == 2))
def gt_ok2 (lv : List (Nat × Value)) (i : Nat) : Bool := lv.all (fun q => !(q.1 == i + 1) && !(q.1 + 1 == i && q.2.category == 2))
theorem gt_set_mem {lv : List (Nat × Value)} {i : Nat} {v : Value} {q : Nat × Value} (h : q ∈ gt_set lv i v) : q = (i, v) ∨ (q ∈ lv ∧ (q.1 == i) = false) := by
  unfold gt_set at h
  by_cases ha : lv.any (fun q => q.1 == i) = true
  · rw [if_pos ha] at h
    obtain ⟨x, hx, e⟩ := List.mem_map.mp h
    by_cases hi : (x.1 == i) = true
    · rw [if_pos hi] at e; exact Or.inl e.symm
    · rw [if_neg hi] at e; subst e; exact Or.inr ⟨hx, by simpa using hi⟩
  · rw [if_neg ha] at h
    rcases List.mem_append.mp h with h | h
    · refine Or.inr ⟨h, ?_⟩
      cases hq : (q.1 == i) with
      | false => rfl
      | true => exact absurd (List.any_eq_true.mpr ⟨q, h, hq⟩) ha
    · exact Or.inl (List.mem_singleton.mp h)
theorem gt_cat (v : Value) : (gt_v G v).category = v.category := by cases v <;> rfl
theorem gt_set1 {ls : Array Slot} {i : Nat} {v : Value} (ho : gt_ok1 lv i = true) (hl : lv_has ls mL ((i, gt_v G v) :: (gt_lm G lv).filter (fun q => !(q.1 == i) && !(q.1 + 1 == i && q.2.category == 2)))) : lv_has ls mL (gt_lm G (gt_set lv i v)) := by
  refine ⟨hl.1, hl.2.1, fun q hq => hl.2.2 q ?_⟩
  obtain ⟨x, hx, rfl⟩ := List.mem_map.mp hq
  rcases gt_set_mem hx with rfl | ⟨h1, h2⟩
  · exact List.mem_cons_self
  · refine List.mem_cons_of_mem _ (List.mem_filter.mpr ⟨List.mem_map.mpr ⟨x, h1, rfl⟩, ?_⟩)
    have h3 := List.all_eq_true.mp ho x h1
    simp only [gt_cat, h2]
    simpa using h3
theorem gt_set2 {ls : Array Slot} {i : Nat} {v : Value} (ho : gt_ok2 lv i = true) (hl : lv_has ls mL ((i, gt_v G v) :: (gt_lm G lv).filter (fun q => !(q.1 == i) && (!(q.1 == i + 1) && !(q.1 + 1 == i && q.2.category == 2))))) : lv_has ls mL (gt_lm G (gt_set lv i v)) := by
  refine ⟨hl.1, hl.2.1, fun q hq => hl.2.2 q ?_⟩
  obtain ⟨x, hx, rfl⟩ := List.mem_map.mp hq
  rcases gt_set_mem hx with rfl | ⟨h1, h2⟩
  · exact List.mem_cons_self
  · refine List.mem_cons_of_mem _ (List.mem_filter.mpr ⟨List.mem_map.mpr ⟨x, h1, rfl⟩, ?_⟩)
    have h3 := List.all_eq_true.mp ho x h1
    simp only [gt_cat, h2]
    simpa using h3
/-- fewer locals: the first ones -/
theorem ga_take (n : Nat) (k : gt_A l G own nm cc mL rt R Z N pc (lv.take n) st h) : gt_A l G own nm cc mL rt R Z N pc lv st h :=
  fun p e s m args below meth c H locs ls X hR hL hl => k p e s m args below meth c H locs ls X hR hL ⟨hl.1, hl.2.1, fun q hq => hl.2.2 q (by
    obtain ⟨x, hx, e⟩ := List.mem_map.mp hq
    exact List.mem_map.mpr ⟨x, List.mem_of_mem_take hx, e⟩)⟩
/-- other locals: all of them among the old -/
theorem ga_sub {lv' : List (Nat × Value)} (hs : ∀ q ∈ lv', q ∈ lv) (k : gt_A l G own nm cc mL rt R Z N pc lv' st h) : gt_A l G own nm cc mL rt R Z N pc lv st h :=
  fun p e s m args below meth c H locs ls X hR hL hl => k p e s m args below meth c H locs ls X hR hL ⟨hl.1, hl.2.1, fun q hq => hl.2.2 q (by
    obtain ⟨x, hx, e⟩ := List.mem_map.mp hq
    exact List.mem_map.mpr ⟨x, hs x hx, e⟩)⟩
/-- another name of the heap -/
theorem ga_heap {h' : gt_H} (e : h = h') (k : gt_A l G own nm cc mL rt R Z N pc lv st h') : gt_A l G own nm cc mL rt R Z N pc lv st h := e ▸ k
/-- a heap of which less is said -/
theorem ga_weak {h' : gt_H} (e : ∀ k o, h' k = some o → h k = some o) (k : gt_A l G own nm cc mL rt R Z N pc lv st h') : gt_A l G own nm cc mL rt R Z N pc lv st h :=
  fun p e' s m args below meth c H locs ls X hR hL hl => k p e' s m args below meth c H locs ls X ⟨fun i o ho => hR.1 i o (e i o ho), hR.2⟩ hL hl

theorem ga_iadd {x y : Int32} (hd : decode cc pc = .ok (.iadd, 1)) (k : gt_A l G own nm cc mL rt R Z N (pc + 1) lv (.int (x + y) :: st) h) : gt_A l G own nm cc mL rt R Z N pc lv (.int y :: .int x :: st) h :=
  fun p e s m args below meth c H locs ls X hR hL hl => lv_iadd X.1 X.2.1 hd (k p e s m args below meth c H locs ls X hR hL hl)
theorem ga_isub {x y : Int32} (hd : decode cc pc = .ok (.isub, 1)) (k : gt_A l G own nm cc mL rt R Z N (pc + 1) lv (.int (x - y) :: st) h) : gt_A l G own nm cc mL rt R Z N pc lv (.int y :: .int x :: st) h :=
  fun p e s m args below meth c H locs ls X hR hL hl => lv_isub X.1 X.2.1 hd (k p e s m args below meth c H locs ls X hR hL hl)
theorem ga_imul {x y : Int32} (hd : decode cc pc = .ok (.imul, 1)) (k : gt_A l G own nm cc mL rt R Z N (pc + 1) lv (.int (x * y) :: st) h) : gt_A l G own nm cc mL rt R Z N pc lv (.int y :: .int x :: st) h :=
  fun p e s m args below meth c H locs ls X hR hL hl => lv_imul X.1 X.2.1 hd (k p e s m args below meth c H locs ls X hR hL hl)
theorem ga_iand {x y : Int32} (hd : decode cc pc = .ok (.iand, 1)) (k : gt_A l G own nm cc mL rt R Z N (pc + 1) lv (.int (x &&& y) :: st) h) : gt_A l G own nm cc mL rt R Z N pc lv (.int y :: .int x :: st) h :=
  fun p e s m args below meth c H locs ls X hR hL hl => lv_iand X.1 X.2.1 hd (k p e s m args below meth c H locs ls X hR hL hl)
theorem ga_ior {x y : Int32} (hd : decode cc pc = .ok (.ior, 1)) (k : gt_A l G own nm cc mL rt R Z N (pc + 1) lv (.int (x ||| y) :: st) h) : gt_A l G own nm cc mL rt R Z N pc lv (.int y :: .int x :: st) h :=
  fun p e s m args below meth c H locs ls X hR hL hl => lv_ior X.1 X.2.1 hd (k p e s m args below meth c H locs ls X hR hL hl)
theorem ga_ixor {x y : Int32} (hd : decode cc pc = .ok (.ixor, 1)) (k : gt_A l G own nm cc mL rt R Z N (pc + 1) lv (.int (x ^^^ y) :: st) h) : gt_A l G own nm cc mL rt R Z N pc lv (.int y :: .int x :: st) h :=
  fun p e s m args below meth c H locs ls X hR hL hl => lv_ixor X.1 X.2.1 hd (k p e s m args below meth c H locs ls X hR hL hl)
theorem ga_ishl {x y : Int32} (hd : decode cc pc = .ok (.ishl, 1)) (k : gt_A l G own nm cc mL rt R Z N (pc + 1) lv (.int (x <<< (y &&& 31)) :: st) h) : gt_A l G own nm cc mL rt R Z N pc lv (.int y :: .int x :: st) h :=
  fun p e s m args below meth c H locs ls X hR hL hl => lv_ishl X.1 X.2.1 hd (k p e s m args below meth c H locs ls X hR hL hl)
theorem ga_ishr {x y : Int32} (hd : decode cc pc = .ok (.ishr, 1)) (k : gt_A l G own nm cc mL rt R Z N (pc + 1) lv (.int (x >>> (y &&& 31)) :: st) h) : gt_A l G own nm cc mL rt R Z N pc lv (.int y :: .int x :: st) h :=
  fun p e s m args below meth c H locs ls X hR hL hl => lv_ishr X.1 X.2.1 hd (k p e s m args below meth c H locs ls X hR hL hl)
theorem ga_idiv {x y : Int32} (hd : decode cc pc = .ok (.idiv, 1)) (hne : ¬ y = 0) (k : gt_A l G own nm cc mL rt R Z N (pc + 1) lv (.int (x / y) :: st) h) : gt_A l G own nm cc mL rt R Z N pc lv (.int y :: .int x :: st) h :=
  fun p e s m args below meth c H locs ls X hR hL hl => lv_idiv X.1 X.2.1 hd hne (k p e s m args below meth c H locs ls X hR hL hl)
theorem ga_irem {x y : Int32} (hd : decode cc pc = .ok (.irem, 1)) (hne : ¬ y = 0) (k : gt_A l G own nm cc mL rt R Z N (pc + 1) lv (.int (x - x / y * y) :: st) h) : gt_A l G own nm cc mL rt R Z N pc lv (.int y :: .int x :: st) h :=
  fun p e s m args below meth c H locs ls X hR hL hl => lv_irem X.1 X.2.1 hd hne (k p e s m args below meth c H locs ls X hR hL hl)
theorem ga_ineg {x : Int32} (hd : decode cc pc = .ok (.ineg, 1)) (k : gt_A l G own nm cc mL rt R Z N (pc + 1) lv (.int (-x) :: st) h) : gt_A l G own nm cc mL rt R Z N pc lv (.int x :: st) h :=
  fun p e s m args below meth c H locs ls X hR hL hl => lv_ineg X.1 X.2.1 hd (k p e s m args below meth c H locs ls X hR hL hl)
theorem ga_ladd {x y : Int64} (hd : decode cc pc = .ok (.ladd, 1)) (k : gt_A l G own nm cc mL rt R Z N (pc + 1) lv (.long (x + y) :: st) h) : gt_A l G own nm cc mL rt R Z N pc lv (.long y :: .long x :: st) h :=
  fun p e s m args below meth c H locs ls X hR hL hl => lv_ladd X.1 X.2.1 hd (k p e s m args below meth c H locs ls X hR hL hl)
theorem ga_lmul {x y : Int64} (hd : decode cc pc = .ok (.lmul, 1)) (k : gt_A l G own nm cc mL rt R Z N (pc + 1) lv (.long (x * y) :: st) h) : gt_A l G own nm cc mL rt R Z N pc lv (.long y :: .long x :: st) h :=
  fun p e s m args below meth c H locs ls X hR hL hl => lv_lmul X.1 X.2.1 hd (k p e s m args below meth c H locs ls X hR hL hl)
theorem ga_land {x y : Int64} (hd : decode cc pc = .ok (.land, 1)) (k : gt_A l G own nm cc mL rt R Z N (pc + 1) lv (.long (x &&& y) :: st) h) : gt_A l G own nm cc mL rt R Z N pc lv (.long y :: .long x :: st) h :=
  fun p e s m args below meth c H locs ls X hR hL hl => lv_land X.1 X.2.1 hd (k p e s m args below meth c H locs ls X hR hL hl)
theorem ga_ldiv {x y : Int64} (hd : decode cc pc = .ok (.ldiv, 1)) (hne : ¬ y = 0) (k : gt_A l G own nm cc mL rt R Z N (pc + 1) lv (.long (x / y) :: st) h) : gt_A l G own nm cc mL rt R Z N pc lv (.long y :: .long x :: st) h :=
  fun p e s m args below meth c H locs ls X hR hL hl => lv_ldiv X.1 X.2.1 hd hne (k p e s m args below meth c H locs ls X hR hL hl)
theorem ga_lrem {x y : Int64} (hd : decode cc pc = .ok (.lrem, 1)) (hne : ¬ y = 0) (k : gt_A l G own nm cc mL rt R Z N (pc + 1) lv (.long (x - x / y * y) :: st) h) : gt_A l G own nm cc mL rt R Z N pc lv (.long y :: .long x :: st) h :=
  fun p e s m args below meth c H locs ls X hR hL hl => lv_lrem X.1 X.2.1 hd hne (k p e s m args below meth c H locs ls X hR hL hl)
theorem ga_i2l {x : Int32} (hd : decode cc pc = .ok (.i2l, 1)) (k : gt_A l G own nm cc mL rt R Z N (pc + 1) lv (.long x.toInt64 :: st) h) : gt_A l G own nm cc mL rt R Z N pc lv (.int x :: st) h :=
  fun p e s m args below meth c H locs ls X hR hL hl => lv_i2l X.1 X.2.1 hd rfl (k p e s m args below meth c H locs ls X hR hL hl)
theorem ga_l2i {x : Int64} (hd : decode cc pc = .ok (.l2i, 1)) (k : gt_A l G own nm cc mL rt R Z N (pc + 1) lv (.int x.toInt32 :: st) h) : gt_A l G own nm cc mL rt R Z N pc lv (.long x :: st) h :=
  fun p e s m args below meth c H locs ls X hR hL hl => lv_l2i X.1 X.2.1 hd rfl (k p e s m args below meth c H locs ls X hR hL hl)
theorem ga_lcmp {x y : Int64} (hd : decode cc pc = .ok (.lcmp, 1)) (k : gt_A l G own nm cc mL rt R Z N (pc + 1) lv (.int (lg_cmp x y) :: st) h) : gt_A l G own nm cc mL rt R Z N pc lv (.long y :: .long x :: st) h :=
  fun p e s m args below meth c H locs ls X hR hL hl => W.lcmp X.1 X.2.1 hd (k p e s m args below meth c H locs ls X hR hL hl)
theorem ga_iconst {n : Int} (v : Int32) (hd : decode cc pc = .ok (.iconst n, 1)) (hv : Int32.ofInt n = v) (k : gt_A l G own nm cc mL rt R Z N (pc + 1) lv (.int v :: st) h) : gt_A l G own nm cc mL rt R Z N pc lv st h :=
  fun p e s m args below meth c H locs ls X hR hL hl => lv_iconst X.1 X.2.1 hd hv (k p e s m args below meth c H locs ls X hR hL hl)
theorem ga_bipush {n : Int} (v : Int32) (hd : decode cc pc = .ok (.bipush n, 2)) (hv : (Int8.ofInt n).toInt32 = v) (k : gt_A l G own nm cc mL rt R Z N (pc + 2) lv (.int v :: st) h) : gt_A l G own nm cc mL rt R Z N pc lv st h :=
  fun p e s m args below meth c H locs ls X hR hL hl => lv_bipush X.1 X.2.1 hd hv (k p e s m args below meth c H locs ls X hR hL hl)
theorem ga_sipush {n : Int} (v : Int32) (hd : decode cc pc = .ok (.sipush n, 3)) (hv : (Int16.ofInt n).toInt32 = v) (k : gt_A l G own nm cc mL rt R Z N (pc + 3) lv (.int v :: st) h) : gt_A l G own nm cc mL rt R Z N pc lv st h :=
  fun p e s m args below meth c H locs ls X hR hL hl => lv_sipush X.1 X.2.1 hd hv (k p e s m args below meth c H locs ls X hR hL hl)
theorem ga_lconst {n : Fin 2} (v : Int64) (hd : decode cc pc = .ok (.lconst n, 1)) (hv : Int64.ofNat (n : Nat) = v) (k : gt_A l G own nm cc mL rt R Z N (pc + 1) lv (.long v :: st) h) : gt_A l G own nm cc mL rt R Z N pc lv st h :=
  fun p e s m args below meth c H locs ls X hR hL hl => lv_lconst X.1 X.2.1 hd hv (k p e s m args below meth c H locs ls X hR hL hl)
theorem ga_ldc {idx : Nat} {v : Int32} (hc : Cond.constant own idx v ∈ gt_tbl) (hd : decode cc pc = .ok (.ldc idx, 2)) (k : gt_A l G own nm cc mL rt R Z N (pc + 2) lv (.int v :: st) h) : gt_A l G own nm cc mL rt R Z N pc lv st h :=
  fun p e s m args below meth c H locs ls X hR hL hl => lv_ldc X.1 X.2.1 X.2.2.2.2.2.1 (X.2.2.2.2.2.2.2.1 _ hc) hd (k p e s m args below meth c H locs ls X hR hL hl)
theorem ga_ldc_w {idx : Nat} {v : Int32} (hc : Cond.constant own idx v ∈ gt_tbl) (hd : decode cc pc = .ok (.ldc_w idx, 3)) (k : gt_A l G own nm cc mL rt R Z N (pc + 3) lv (.int v :: st) h) : gt_A l G own nm cc mL rt R Z N pc lv st h :=
  fun p e s m args below meth c H locs ls X hR hL hl => lv_ldcw X.1 X.2.1 X.2.2.2.2.2.1 (X.2.2.2.2.2.2.2.1 _ hc) hd (k p e s m args below meth c H locs ls X hR hL hl)
theorem ga_ldc2_w {idx : Nat} {v : Int64} (hc : Cond.constantLong own idx v ∈ gt_tbl) (hd : decode cc pc = .ok (.ldc2_w idx, 3)) (k : gt_A l G own nm cc mL rt R Z N (pc + 3) lv (.long v :: st) h) : gt_A l G own nm cc mL rt R Z N pc lv st h :=
  fun p e s m args below meth c H locs ls X hR hL hl => lv_ldc2 X.1 X.2.1 X.2.2.2.2.2.1 (X.2.2.2.2.2.2.2.1 _ hc) hd (k p e s m args below meth c H locs ls X hR hL hl)
theorem ga_dup {v : Value} (hd : decode cc pc = .ok (.dup, 1)) (hv : v.category = 1) (k : gt_A l G own nm cc mL rt R Z N (pc + 1) lv (v :: v :: st) h) : gt_A l G own nm cc mL rt R Z N pc lv (v :: st) h :=
  fun p e s m args below meth c H locs ls X hR hL hl => lv_dup X.1 X.2.1 hd (by rw [gt_cat]; exact hv) (k p e s m args below meth c H locs ls X hR hL hl)
theorem ga_pop {v : Value} (hd : decode cc pc = .ok (.pop, 1)) (hv : v.category = 1) (k : gt_A l G own nm cc mL rt R Z N (pc + 1) lv st h) : gt_A l G own nm cc mL rt R Z N pc lv (v :: st) h :=
  fun p e s m args below meth c H locs ls X hR hL hl => lv_pop X.1 X.2.1 hd (by rw [gt_cat]; exact hv) (k p e s m args below meth c H locs ls X hR hL hl)
theorem ga_dup2 {v w : Value} (hd : decode cc pc = .ok (.dup2, 1)) (hv : v.category = 1) (hw : w.category = 1) (k : gt_A l G own nm cc mL rt R Z N (pc + 1) lv (v :: w :: v :: w :: st) h) : gt_A l G own nm cc mL rt R Z N pc lv (v :: w :: st) h :=
  fun p e s m args below meth c H locs ls X hR hL hl => lv_dup2_11 X.1 X.2.1 hd (by rw [gt_cat]; exact hv) (by rw [gt_cat]; exact hw) (k p e s m args below meth c H locs ls X hR hL hl)
theorem ga_iload (j : Nat) {i : Nat} {x : Int32} (hd : decode cc pc = .ok (.iload i, 2)) (hk : lv[j]? = some (i, .int x)) (k : gt_A l G own nm cc mL rt R Z N (pc + 2) lv (.int x :: st) h) : gt_A l G own nm cc mL rt R Z N pc lv st h :=
  fun p e s m args below meth c H locs ls X hR hL hl => lv_iload X.1 X.2.1 hd (gt_at hl j hk) (k p e s m args below meth c H locs ls X hR hL hl)
theorem ga_iload_n (j : Nat) {f : Fin 4} {x : Int32} (hd : decode cc pc = .ok (.iload_n f, 1)) (hk : lv[j]? = some ((f : Nat), .int x)) (k : gt_A l G own nm cc mL rt R Z N (pc + 1) lv (.int x :: st) h) : gt_A l G own nm cc mL rt R Z N pc lv st h :=
  fun p e s m args below meth c H locs ls X hR hL hl => lv_iload_n X.1 X.2.1 hd rfl (gt_at hl j hk) (k p e s m args below meth c H locs ls X hR hL hl)
theorem ga_istore {i : Nat} {x : Int32} (hd : decode cc pc = .ok (.istore i, 2)) (hn : i < mL) (ho : gt_ok1 lv i = true) (k : gt_A l G own nm cc mL rt R Z N (pc + 2) (gt_set lv i (.int x)) st h) : gt_A l G own nm cc mL rt R Z N pc lv (.int x :: st) h :=
  fun p e s m args below meth c H locs ls X hR hL hl => lv_istore X.1 X.2.1 hd hl hn rfl (fun ls' hl' => k p e s m args below meth c H locs ls' X hR hL (gt_set1 (v := .int x) ho hl'))
theorem ga_istore_n {f : Fin 4} {x : Int32} (hd : decode cc pc = .ok (.istore_n f, 1)) (hn : (f : Nat) < mL) (ho : gt_ok1 lv f = true) (k : gt_A l G own nm cc mL rt R Z N (pc + 1) (gt_set lv f (.int x)) st h) : gt_A l G own nm cc mL rt R Z N pc lv (.int x :: st) h :=
  fun p e s m args below meth c H locs ls X hR hL hl => lv_istore_n X.1 X.2.1 hd rfl hl hn rfl (fun ls' hl' => k p e s m args below meth c H locs ls' X hR hL (gt_set1 (v := .int x) ho hl'))
theorem ga_lload (j : Nat) {i : Nat} {x : Int64} (hd : decode cc pc = .ok (.lload i, 2)) (hk : lv[j]? = some (i, .long x)) (k : gt_A l G own nm cc mL rt R Z N (pc + 2) lv (.long x :: st) h) : gt_A l G own nm cc mL rt R Z N pc lv st h :=
  fun p e s m args below meth c H locs ls X hR hL hl => lv_lload X.1 X.2.1 hd (gt_at hl j hk) (k p e s m args below meth c H locs ls X hR hL hl)
theorem ga_lload_n (j : Nat) {f : Fin 4} {x : Int64} (hd : decode cc pc = .ok (.lload_n f, 1)) (hk : lv[j]? = some ((f : Nat), .long x)) (k : gt_A l G own nm cc mL rt R Z N (pc + 1) lv (.long x :: st) h) : gt_A l G own nm cc mL rt R Z N pc lv st h :=
  fun p e s m args below meth c H locs ls X hR hL hl => lv_lload_n X.1 X.2.1 hd rfl (gt_at hl j hk) (k p e s m args below meth c H locs ls X hR hL hl)
theorem ga_lstore {i : Nat} {x : Int64} (hd : decode cc pc = .ok (.lstore i, 2)) (hn : i + 1 < mL) (ho : gt_ok2 lv i = true) (k : gt_A l G own nm cc mL rt R Z N (pc + 2) (gt_set lv i (.long x)) st h) : gt_A l G own nm cc mL rt R Z N pc lv (.long x :: st) h :=
  fun p e s m args below meth c H locs ls X hR hL hl => lv_lstore X.1 X.2.1 hd hl hn rfl (fun ls' hl' => k p e s m args below meth c H locs ls' X hR hL (gt_set2 (v := .long x) ho hl'))
theorem ga_lstore_n {f : Fin 4} {x : Int64} (hd : decode cc pc = .ok (.lstore_n f, 1)) (hn : (f : Nat) + 1 < mL) (ho : gt_ok2 lv f = true) (k : gt_A l G own nm cc mL rt R Z N (pc + 1) (gt_set lv f (.long x)) st h) : gt_A l G own nm cc mL rt R Z N pc lv (.long x :: st) h :=
  fun p e s m args below meth c H locs ls X hR hL hl => lv_lstore_n X.1 X.2.1 hd rfl hl hn rfl (fun ls' hl' => k p e s m args below meth c H locs ls' X hR hL (gt_set2 (v := .long x) ho hl'))
theorem ga_aload (j : Nat) {i : Nat} {x : Nat} (hd : decode cc pc = .ok (.aload i, 2)) (hk : lv[j]? = some (i, .ref x)) (k : gt_A l G own nm cc mL rt R Z N (pc + 2) lv (.ref x :: st) h) : gt_A l G own nm cc mL rt R Z N pc lv st h :=
  fun p e s m args below meth c H locs ls X hR hL hl => lv_aload X.1 X.2.1 hd (gt_at hl j hk) (k p e s m args below meth c H locs ls X hR hL hl)
theorem ga_aload_n (j : Nat) {f : Fin 4} {x : Nat} (hd : decode cc pc = .ok (.aload_n f, 1)) (hk : lv[j]? = some ((f : Nat), .ref x)) (k : gt_A l G own nm cc mL rt R Z N (pc + 1) lv (.ref x :: st) h) : gt_A l G own nm cc mL rt R Z N pc lv st h :=
  fun p e s m args below meth c H locs ls X hR hL hl => lv_aload_n X.1 X.2.1 hd rfl (gt_at hl j hk) (k p e s m args below meth c H locs ls X hR hL hl)
theorem ga_astore {i : Nat} {x : Nat} (hd : decode cc pc = .ok (.astore i, 2)) (hn : i < mL) (ho : gt_ok1 lv i = true) (k : gt_A l G own nm cc mL rt R Z N (pc + 2) (gt_set lv i (.ref x)) st h) : gt_A l G own nm cc mL rt R Z N pc lv (.ref x :: st) h :=
  fun p e s m args below meth c H locs ls X hR hL hl => lv_astore X.1 X.2.1 hd hl hn rfl (fun ls' hl' => k p e s m args below meth c H locs ls' X hR hL (gt_set1 (v := .ref x) ho hl'))
theorem ga_astore_n {f : Fin 4} {x : Nat} (hd : decode cc pc = .ok (.astore_n f, 1)) (hn : (f : Nat) < mL) (ho : gt_ok1 lv f = true) (k : gt_A l G own nm cc mL rt R Z N (pc + 1) (gt_set lv f (.ref x)) st h) : gt_A l G own nm cc mL rt R Z N pc lv (.ref x :: st) h :=
  fun p e s m args below meth c H locs ls X hR hL hl => lv_astore_n X.1 X.2.1 hd rfl hl hn rfl (fun ls' hl' => k p e s m args below meth c H locs ls' X hR hL (gt_set1 (v := .ref x) ho hl'))
theorem ga_iinc (j : Nat) {i : Nat} {n : Int} {x : Int32} (v : Int32) (hd : decode cc pc = .ok (.iinc i n, 3)) (hk : lv[j]? = some (i, .int x)) (hv : Int32.ofInt n = v) (hn : i < mL) (ho : gt_ok1 lv i = true) (k : gt_A l G own nm cc mL rt R Z N (pc + 3) (gt_set lv i (.int (x + v))) st h) : gt_A l G own nm cc mL rt R Z N pc lv st h :=
  fun p e s m args below meth c H locs ls X hR hL hl => lv_iinc (v := x + v) X.1 X.2.1 hd hl (k := j) (by unfold gt_lm; rw [List.getElem?_map, hk]; rfl) (by rw [hv]) hn rfl (fun ls' hl' => k p e s m args below meth c H locs ls' X hR hL (gt_set1 (v := .int (x + v)) ho hl'))
theorem ga_if_eq {x : Int32} {off : Int} (tgt : Nat) (hd : decode cc pc = .ok (.ifCond .eq off, 3)) (ht : (pc : Int) + off = (tgt : Int)) (kt : x = 0 → gt_A l G own nm cc mL rt R Z N tgt lv st h) (kf : ¬ x = 0 → gt_A l G own nm cc mL rt R Z N (pc + 3) lv st h) : gt_A l G own nm cc mL rt R Z N pc lv (.int x :: st) h :=
  fun p e s m args below meth c H locs ls X hR hL hl => lv_if_eq X.1 X.2.1 hd ht (fun q => kt q p e s m args below meth c H locs ls X hR hL hl) (fun q => kf q p e s m args below meth c H locs ls X hR hL hl)
theorem ga_if_ne {x : Int32} {off : Int} (tgt : Nat) (hd : decode cc pc = .ok (.ifCond .ne off, 3)) (ht : (pc : Int) + off = (tgt : Int)) (kt : ¬ x = 0 → gt_A l G own nm cc mL rt R Z N tgt lv st h) (kf : x = 0 → gt_A l G own nm cc mL rt R Z N (pc + 3) lv st h) : gt_A l G own nm cc mL rt R Z N pc lv (.int x :: st) h :=
  fun p e s m args below meth c H locs ls X hR hL hl => lv_if_ne X.1 X.2.1 hd ht (fun q => kt q p e s m args below meth c H locs ls X hR hL hl) (fun q => kf q p e s m args below meth c H locs ls X hR hL hl)
theorem ga_if_lt {x : Int32} {off : Int} (tgt : Nat) (hd : decode cc pc = .ok (.ifCond .lt off, 3)) (ht : (pc : Int) + off = (tgt : Int)) (kt : x < 0 → gt_A l G own nm cc mL rt R Z N tgt lv st h) (kf : ¬ x < 0 → gt_A l G own nm cc mL rt R Z N (pc + 3) lv st h) : gt_A l G own nm cc mL rt R Z N pc lv (.int x :: st) h :=
  fun p e s m args below meth c H locs ls X hR hL hl => lv_if_lt X.1 X.2.1 hd ht (fun q => kt q p e s m args below meth c H locs ls X hR hL hl) (fun q => kf q p e s m args below meth c H locs ls X hR hL hl)
theorem ga_if_ge {x : Int32} {off : Int} (tgt : Nat) (hd : decode cc pc = .ok (.ifCond .ge off, 3)) (ht : (pc : Int) + off = (tgt : Int)) (kt : 0 ≤ x → gt_A l G own nm cc mL rt R Z N tgt lv st h) (kf : ¬ 0 ≤ x → gt_A l G own nm cc mL rt R Z N (pc + 3) lv st h) : gt_A l G own nm cc mL rt R Z N pc lv (.int x :: st) h :=
  fun p e s m args below meth c H locs ls X hR hL hl => lv_if_ge X.1 X.2.1 hd ht (fun q => kt q p e s m args below meth c H locs ls X hR hL hl) (fun q => kf q p e s m args below meth c H locs ls X hR hL hl)
theorem ga_if_gt {x : Int32} {off : Int} (tgt : Nat) (hd : decode cc pc = .ok (.ifCond .gt off, 3)) (ht : (pc : Int) + off = (tgt : Int)) (kt : 0 < x → gt_A l G own nm cc mL rt R Z N tgt lv st h) (kf : ¬ 0 < x → gt_A l G own nm cc mL rt R Z N (pc + 3) lv st h) : gt_A l G own nm cc mL rt R Z N pc lv (.int x :: st) h :=
  fun p e s m args below meth c H locs ls X hR hL hl => lv_if_gt X.1 X.2.1 hd ht (fun q => kt q p e s m args below meth c H locs ls X hR hL hl) (fun q => kf q p e s m args below meth c H locs ls X hR hL hl)
theorem ga_if_le {x : Int32} {off : Int} (tgt : Nat) (hd : decode cc pc = .ok (.ifCond .le off, 3)) (ht : (pc : Int) + off = (tgt : Int)) (kt : x ≤ 0 → gt_A l G own nm cc mL rt R Z N tgt lv st h) (kf : ¬ x ≤ 0 → gt_A l G own nm cc mL rt R Z N (pc + 3) lv st h) : gt_A l G own nm cc mL rt R Z N pc lv (.int x :: st) h :=
  fun p e s m args below meth c H locs ls X hR hL hl => lv_if_le X.1 X.2.1 hd ht (fun q => kt q p e s m args below meth c H locs ls X hR hL hl) (fun q => kf q p e s m args below meth c H locs ls X hR hL hl)
theorem ga_icmp_eq {x y : Int32} {off : Int} (tgt : Nat) (hd : decode cc pc = .ok (.if_icmp .eq off, 3)) (ht : (pc : Int) + off = (tgt : Int)) (kt : x = y → gt_A l G own nm cc mL rt R Z N tgt lv st h) (kf : ¬ x = y → gt_A l G own nm cc mL rt R Z N (pc + 3) lv st h) : gt_A l G own nm cc mL rt R Z N pc lv (.int y :: .int x :: st) h :=
  fun p e s m args below meth c H locs ls X hR hL hl => lv_icmp_eq X.1 X.2.1 hd ht (fun q => kt q p e s m args below meth c H locs ls X hR hL hl) (fun q => kf q p e s m args below meth c H locs ls X hR hL hl)
theorem ga_icmp_ne {x y : Int32} {off : Int} (tgt : Nat) (hd : decode cc pc = .ok (.if_icmp .ne off, 3)) (ht : (pc : Int) + off = (tgt : Int)) (kt : ¬ x = y → gt_A l G own nm cc mL rt R Z N tgt lv st h) (kf : x = y → gt_A l G own nm cc mL rt R Z N (pc + 3) lv st h) : gt_A l G own nm cc mL rt R Z N pc lv (.int y :: .int x :: st) h :=
  fun p e s m args below meth c H locs ls X hR hL hl => lv_icmp_ne X.1 X.2.1 hd ht (fun q => kt q p e s m args below meth c H locs ls X hR hL hl) (fun q => kf q p e s m args below meth c H locs ls X hR hL hl)
theorem ga_icmp_lt {x y : Int32} {off : Int} (tgt : Nat) (hd : decode cc pc = .ok (.if_icmp .lt off, 3)) (ht : (pc : Int) + off = (tgt : Int)) (kt : x < y → gt_A l G own nm cc mL rt R Z N tgt lv st h) (kf : ¬ x < y → gt_A l G own nm cc mL rt R Z N (pc + 3) lv st h) : gt_A l G own nm cc mL rt R Z N pc lv (.int y :: .int x :: st) h :=
  fun p e s m args below meth c H locs ls X hR hL hl => lv_icmp_lt X.1 X.2.1 hd ht (fun q => kt q p e s m args below meth c H locs ls X hR hL hl) (fun q => kf q p e s m args below meth c H locs ls X hR hL hl)
theorem ga_icmp_ge {x y : Int32} {off : Int} (tgt : Nat) (hd : decode cc pc = .ok (.if_icmp .ge off, 3)) (ht : (pc : Int) + off = (tgt : Int)) (kt : y ≤ x → gt_A l G own nm cc mL rt R Z N tgt lv st h) (kf : ¬ y ≤ x → gt_A l G own nm cc mL rt R Z N (pc + 3) lv st h) : gt_A l G own nm cc mL rt R Z N pc lv (.int y :: .int x :: st) h :=
  fun p e s m args below meth c H locs ls X hR hL hl => lv_icmp_ge X.1 X.2.1 hd ht (fun q => kt q p e s m args below meth c H locs ls X hR hL hl) (fun q => kf q p e s m args below meth c H locs ls X hR hL hl)
theorem ga_icmp_gt {x y : Int32} {off : Int} (tgt : Nat) (hd : decode cc pc = .ok (.if_icmp .gt off, 3)) (ht : (pc : Int) + off = (tgt : Int)) (kt : y < x → gt_A l G own nm cc mL rt R Z N tgt lv st h) (kf : ¬ y < x → gt_A l G own nm cc mL rt R Z N (pc + 3) lv st h) : gt_A l G own nm cc mL rt R Z N pc lv (.int y :: .int x :: st) h :=
  fun p e s m args below meth c H locs ls X hR hL hl => lv_icmp_gt X.1 X.2.1 hd ht (fun q => kt q p e s m args below meth c H locs ls X hR hL hl) (fun q => kf q p e s m args below meth c H locs ls X hR hL hl)
theorem ga_icmp_le {x y : Int32} {off : Int} (tgt : Nat) (hd : decode cc pc = .ok (.if_icmp .le off, 3)) (ht : (pc : Int) + off = (tgt : Int)) (kt : x ≤ y → gt_A l G own nm cc mL rt R Z N tgt lv st h) (kf : ¬ x ≤ y → gt_A l G own nm cc mL rt R Z N (pc + 3) lv st h) : gt_A l G own nm cc mL rt R Z N pc lv (.int y :: .int x :: st) h :=
  fun p e s m args below meth c H locs ls X hR hL hl => lv_icmp_le X.1 X.2.1 hd ht (fun q => kt q p e s m args below meth c H locs ls X hR hL hl) (fun q => kf q p e s m args below meth c H locs ls X hR hL hl)
theorem ga_goto {off : Int} (tgt : Nat) (hd : decode cc pc = .ok (.goto off, 3)) (ht : (pc : Int) + off = (tgt : Int)) (k : gt_A l G own nm cc mL rt R Z N tgt lv st h) : gt_A l G own nm cc mL rt R Z N pc lv st h :=
  fun p e s m args below meth c H locs ls X hR hL hl => lv_goto X.1 X.2.1 hd ht (k p e s m args below meth c H locs ls X hR hL hl)
theorem ga_tableIn {dflt lo hi : Int} {offs : Array Int} {len : Nat} {x : Int32} {off : Int} (tgt : Nat) (hd : decode cc pc = .ok (.tableswitch dflt lo hi offs, len)) (h1 : ¬ x.toInt < lo) (h2 : ¬ hi < x.toInt) (ho : offs[(x.toInt - lo).toNat]? = some off) (ht : (pc : Int) + off = (tgt : Int)) (k : gt_A l G own nm cc mL rt R Z N tgt lv st h) : gt_A l G own nm cc mL rt R Z N pc lv (.int x :: st) h :=
  fun p e s m args below meth c H locs ls X hR hL hl => lv_tableIn X.1 X.2.1 hd h1 h2 ho ht (k p e s m args below meth c H locs ls X hR hL hl)
theorem ga_tableOut {dflt lo hi : Int} {offs : Array Int} {len : Nat} {x : Int32} (tgt : Nat) (hd : decode cc pc = .ok (.tableswitch dflt lo hi offs, len)) (hq : x.toInt < lo ∨ hi < x.toInt) (ht : (pc : Int) + dflt = (tgt : Int)) (k : gt_A l G own nm cc mL rt R Z N tgt lv st h) : gt_A l G own nm cc mL rt R Z N pc lv (.int x :: st) h :=
  fun p e s m args below meth c H locs ls X hR hL hl => lv_tableOut X.1 X.2.1 hd hq ht (k p e s m args below meth c H locs ls X hR hL hl)
theorem ga_lookup {dflt : Int} {ps : Array (Int × Int)} {len : Nat} {x : Int32} {off : Int} (tgt : Nat) (hd : decode cc pc = .ok (.lookupswitch dflt ps, len)) (hp : (ps.toList.zip (ps.toList.drop 1)).all (fun (a, next) => a.1 < next.1) = true) (ho : Op.lookupswitch.offset ps.toList dflt x.toInt = off) (ht : (pc : Int) + off = (tgt : Int)) (k : gt_A l G own nm cc mL rt R Z N tgt lv st h) : gt_A l G own nm cc mL rt R Z N pc lv (.int x :: st) h :=
  fun p e s m args below meth c H locs ls X hR hL hl => lv_lookup X.1 X.2.1 hd hp ho ht (k p e s m args below meth c H locs ls X hR hL hl)
theorem ga_iret {n mc ms : Nat} {r : Option Value} {h' : gt_H} {v : Int32} (hd : decode cc pc = .ok (.ireturn, 1)) (hr : r = some (.int v)) (hh : h' = h) : gt_A l G own nm cc mL (some .int) R (gt_Z G n mc ms r h') (n, mc, ms) pc lv [.int v] h :=
  fun p e s m args below meth c H locs ls X hR hL hl => by
    subst hr; subst hh
    exact W.iret (Qc := gt_Q G n (some (.int v)) h') X.1 X.2.1 X.2.2.2.1 (fun t ht _ => ⟨rfl, by rw [ht]; exact hR⟩) hL hd X.2.2.2.2.1
theorem ga_zret {n mc ms : Nat} {r : Option Value} {h' : gt_H} {v : Int32} (hd : decode cc pc = .ok (.ireturn, 1)) (hn : narrow .boolean (.int v) = .int v) (hr : r = some (.int v)) (hh : h' = h) : gt_A l G own nm cc mL (some .boolean) R (gt_Z G n mc ms r h') (n, mc, ms) pc lv [.int v] h :=
  fun p e s m args below meth c H locs ls X hR hL hl => by
    subst hr; subst hh
    exact W.zret (Qc := gt_Q G n (some (.int v)) h') X.1 X.2.1 X.2.2.2.1 hn (fun t ht _ => ⟨rfl, by rw [ht]; exact hR⟩) hL hd X.2.2.2.2.1
theorem ga_vret {n mc ms : Nat} {r : Option Value} {h' : gt_H} (hd : decode cc pc = .ok (.return_, 1)) (hr : r = none) (hh : ∀ k o, h' k = some o → h k = some o) : gt_A l G own nm cc mL none R (gt_Z G n mc ms r h') (n, mc, ms) pc lv [] h :=
  fun p e s m args below meth c H locs ls X hR hL hl => by
    subst hr
    exact W.vret (Qc := gt_Q G n none h') X.1 X.2.1 X.2.2.2.1 (fun t ht _ => ⟨rfl, by rw [ht]; exact ⟨fun i o ho => hR.1 i o (hh i o ho), hR.2⟩⟩) hL hd X.2.2.2.2.1
end GA
end
section
section GH
variable {l : Launch} {G : gt_G} {own nm : String} {cc : ByteArray} {mL : Nat} {rt : Option FieldType} {R : Room} {Z : gt_Zt} {N : Nat × Nat × Nat} {pc : Nat} {lv : List (Nat × Value)} {st : List Value} {h : gt_H}
/-- the heap with another object at a -/
def gt_up (h : gt_H) (a : Nat) (o : gt_Ob) : gt_H := fun k => if k = a then some o else h k
theorem gt_ad_lt {n k : Nat} {H : Heap} (hR : gt_R G n h H) {o : gt_Ob} (ho : h k = some o) : gt_B G ≤ gt_ad G k := by
  obtain ⟨h0, -, -⟩ := hR.1 k o ho
  cases k with
  | zero => exact absurd rfl h0
  | succ k => show gt_B G ≤ gt_B G + k; omega
theorem gt_ad_inj {a b : Nat} (ha : a ≠ 0) (hb : b ≠ 0) (e : gt_ad G a = gt_ad G b) : a = b := by
  cases a with
  | zero => exact absurd rfl ha
  | succ a =>
    cases b with
    | zero => exact absurd rfl hb
    | succ b =>
      have e : gt_B G + a = gt_B G + b := e
      omega
theorem gt_R_up {n a : Nat} {H H1 : Heap} {o o' : gt_Ob} (hR : gt_R G n h H) (ho : h a = some o) (hat : va_at G.1 vwCl (gt_ad G a, gt_e G o') H1) (hz : H1.size = H.size) (hq : ∀ q : Nat, q ≠ gt_ad G a → H1[q]? = H[q]?) : gt_R G n (gt_up h a o') H1 := by
  have h0 := hR.1 a o ho
  refine ⟨fun k ob hk => ?_, by rw [hz]; exact hR.2.1, fun q hl => ?_⟩
  · unfold gt_up at hk
    by_cases hka : k = a
    · rw [if_pos hka] at hk
      cases hk
      subst hka
      exact ⟨h0.1, h0.2.1, hat⟩
    · rw [if_neg hka] at hk
      obtain ⟨q1, q2, q3⟩ := hR.1 k ob hk
      exact ⟨q1, q2, q3.kept (hq _ (fun e => hka (gt_ad_inj q1 h0.1 e)))⟩
  · have := gt_ad_lt hR ho
    rw [hq q (by omega)]
    exact hR.2.2 q hl
theorem gt_R_P {n a : Nat} {H : Heap} {o : gt_Ob} (hR : gt_R G n h H) (ho : h a = some o) : va_P G.1 vwCl [(gt_ad G a, gt_e G o)] H := fun k q hq => by
  cases k with
  | zero => cases hq; exact (hR.1 a o ho).2.2
  | succ k => cases hq
/-- a field's row: its class, its place, its link among the tables' words, its type, final or not -/
def gt_F (own : String) (idx ci k : Nat) (ty : FieldType) (fin : Bool) : Prop := ∃ (C : String) (T : u_T) (M : Nat) (ty0 : Nat → FieldType), vwCl[ci]? = some (C, T, M) ∧ k < M ∧ Cond.fieldLink own idx (T k).1 (T k).2.1 (T k).2.2.1 ∈ gt_tbl ∧ parseFieldDescriptor (T k).2.2.1 = some ty ∧ (T k).2.2.2 = fin ∧ (∀ w ∈ u_ws C T M, w ∈ gt_tbl) ∧ (∀ k, k < M → parseFieldDescriptor (T k).2.2.1 = some (ty0 k)) ∧ (∀ a, a < M → ∀ b, b < M → a ≠ b → (T a).2.1 ≠ (T b).2.1) ∧ (fin = true → (T k).1 = own)
def gt_Fr (own : String) (idx ci k : Nat) : Prop := ∃ (C : String) (T : u_T) (M : Nat), vwCl[ci]? = some (C, T, M) ∧ k < M ∧ Cond.fieldLink own idx (T k).1 (T k).2.1 (T k).2.2.1 ∈ gt_tbl ∧ (∀ w ∈ u_ws C T M, w ∈ gt_tbl)
theorem ga_get {idx ci k a : Nat} {fs : List Value} {v : Value} (hF : gt_Fr own idx ci k) (ho : h a = some (oO ci fs)) (hv : fs[k]? = some v) (hd : decode cc pc = .ok (.getfield idx, 3)) (kk : gt_A l G own nm cc mL rt R Z N (pc + 3) lv (v :: st) h) : gt_A l G own nm cc mL rt R Z N pc lv (.ref a :: st) h :=
  fun p e s m args below meth c H locs ls X hR hL hl => by
    obtain ⟨C, T, M, hc, hk, hlk, hin⟩ := hF
    exact va_get X.1 X.2.1 X.2.2.2.2.2.2.2.1 hin X.2.2.2.2.2.1 X.2.2.2.2.2.2.2.2.1 (gt_R_P hR ho) 0 (fs := fs.map (gt_v G)) rfl hc k hk (X.2.2.2.2.2.2.2.1 _ hlk) (fun _ q => q) (v := gt_v G v) (by rw [List.getElem?_map, hv]; rfl) hd (kk p e s m args below meth c H locs ls X hR hL hl)
theorem ga_put {idx ci k a : Nat} {ty : FieldType} {fs : List Value} {v : Value} (hF : gt_F own idx ci k ty false) (ho : h a = some (oO ci fs)) (hn : narrow ty (gt_v G v) = gt_v G v) (hf : fits ty (gt_v G v) = true) (hl0 : k < fs.length) (hd : decode cc pc = .ok (.putfield idx, 3)) (kk : gt_A l G own nm cc mL rt R Z N (pc + 3) lv st (gt_up h a (oO ci (fs.set k v)))) : gt_A l G own nm cc mL rt R Z N pc lv (v :: .ref a :: st) h :=
  fun p e s m args below meth c H locs ls X hR hL hl => by
    obtain ⟨C, T, M, ty0, hc, hk, hlk, hdd, hfin, hin, hty, hnm, -⟩ := hF
    have hK := X.2.2.2.2.2.2.2.2.1
    have hts := X.2.2.2.2.2.2.2.1
    have hap := va_apart (own := own) hts hin ty0 hty hnm hK hc
    obtain ⟨r, h1, cell, q1, q2, q3, q4⟩ := (hR.1 a _ ho).2.2
    have hr : r = (C, T, M) := Option.some.inj (h1.symm.trans hc)
    subst hr
    obtain ⟨hS, hfc, kC, hkC, hkind⟩ := hK.1 ci _ hc
    obtain ⟨cf, kf, fi, f, hi, hsl⟩ := hS k hk
    have hlay := hts _ (hin _ (u_in_lay hk))
    unfold u_lay at hlay
    rw [if_neg (by rw [hfin]; decide)] at hlay
    have hst := (u_facts hfc hkC (u_lays hts hin hk) hi).1
    have h6 := u_store hfc hkC hkind hlay hi hdd hn hf
    refine W.putK X.1 X.2.1 (f := f) ⟨X.2.2.2.2.2.1, hts _ hlk, ⟨_, _, _, hi⟩, hst⟩ (by rw [q2]; exact h6) q1 q3 (by rw [hsl]; exact k2_hasslot (q4 k hk)) rfl rfl hd fun H' e1 e2 e3 => ?_
    rw [hsl] at e1 ⊢
    have hset : (fs.map (gt_v G)).set k (gt_v G v) = (fs.set k v).map (gt_v G) := by rw [List.map_set]
    refine kk p e s m args below meth c H' _ ls X (gt_R_up hR ho ⟨_, hc, ?_⟩ e2 e3) (fun q hq => ?_) hl
    · show t_OB _ _ _ _ _ (vp_V ((fs.set k v).map (gt_v G)))
      rw [← hset]
      exact t_OB.to (V := updV (vp_V (fs.map (gt_v G))) k (gt_v G v)) ⟨_, e1, q2, q3, t_set q4 hap hk (gt_v G v)⟩ (fun j _ => vp_updV_set (by rw [List.length_map]; exact hl0) (gt_v G v) j)
    · rcases List.mem_append.mp hq with hq | hq
      · exact hL q hq
      · rw [List.mem_singleton.mp hq]; exact gt_ad_lt hR ho
theorem ga_putF {idx ci k a : Nat} {ty : FieldType} {fs : List Value} {v : Value} (hF : gt_F own idx ci k ty true) (ho : h a = some (oO ci fs)) (hn : narrow ty (gt_v G v) = gt_v G v) (hf : fits ty (gt_v G v) = true) (hl0 : k < fs.length) (hi0 : nm = "<init>") (hd : decode cc pc = .ok (.putfield idx, 3)) (kk : gt_A l G own nm cc mL rt R Z N (pc + 3) lv st (gt_up h a (oO ci (fs.set k v)))) : gt_A l G own nm cc mL rt R Z N pc lv (v :: .ref a :: st) h :=
  fun p e s m args below meth c H locs ls X hR hL hl => by
    obtain ⟨C, T, M, ty0, hc, hk, hlk, hdd, hfin, hin, hty, hnm, hdecl⟩ := hF
    have hdecl := hdecl rfl
    have hK := X.2.2.2.2.2.2.2.2.1
    have hts := X.2.2.2.2.2.2.2.1
    have hap := va_apart (own := own) hts hin ty0 hty hnm hK hc
    obtain ⟨r, h1, cell, q1, q2, q3, q4⟩ := (hR.1 a _ ho).2.2
    have hr : r = (C, T, M) := Option.some.inj (h1.symm.trans hc)
    subst hr
    obtain ⟨hS, hfc, kC, hkC, hkind⟩ := hK.1 ci _ hc
    obtain ⟨cf, kf, fi, f, hi, hsl⟩ := hS k hk
    have hlay := hts _ (hin _ (u_in_lay hk))
    unfold u_lay at hlay
    rw [if_pos hfin] at hlay
    have hst := (u_facts hfc hkC (u_lays hts hin hk) hi).1
    have hown := X.2.2.2.2.2.1
    have hcf : m.cls = cf := by
      obtain ⟨_, _, c', _, _, _, -, -, hf', -, -, -, hown2, -⟩ := Cond.laysFinal_spec hlay
      have e1 : c' = cf := by have := hi.symm.trans hf'; simp at this; exact this.1.symm
      rw [hdecl] at hown2
      rw [← e1]; exact Option.some.inj (hown.symm.trans hown2)
    have h6 := u_fits hfc hkC hkind (Or.inr hlay) hi hdd hn hf
    refine W.putFinK X.1 X.2.1 hown (hts _ hlk) hi hst hcf (by rw [X.2.2.2.2.2.2.1]; exact hi0) (by rw [q2]; exact h6) q1 q3 (by rw [hsl]; exact k2_hasslot (q4 k hk)) rfl rfl hd fun H' e1 e2 e3 => ?_
    rw [hsl] at e1 ⊢
    have hset : (fs.map (gt_v G)).set k (gt_v G v) = (fs.set k v).map (gt_v G) := by rw [List.map_set]
    refine kk p e s m args below meth c H' _ ls X (gt_R_up hR ho ⟨_, hc, ?_⟩ e2 e3) (fun q hq => ?_) hl
    · show t_OB _ _ _ _ _ (vp_V ((fs.set k v).map (gt_v G)))
      rw [← hset]
      exact t_OB.to (V := updV (vp_V (fs.map (gt_v G))) k (gt_v G v)) ⟨_, e1, q2, q3, t_set q4 hap hk (gt_v G v)⟩ (fun j _ => vp_updV_set (by rw [List.length_map]; exact hl0) (gt_v G v) j)
    · rcases List.mem_append.mp hq with hq | hq
      · exact hL q hq
      · rw [List.mem_singleton.mp hq]; exact gt_ad_lt hR ho
theorem ga_iald {a n : Nat} {f : Nat → Int32} {i : Int32} (ho : h a = some (oI n f)) (hi : vp_in i n) (hd : decode cc pc = .ok (.iaload, 1)) (kk : gt_A l G own nm cc mL rt R Z N (pc + 1) lv (.int (f i.toNatClampNeg) :: st) h) : gt_A l G own nm cc mL rt R Z N pc lv (.int i :: .ref a :: st) h :=
  fun p e s m args below meth c H locs ls X hR hL hl => va_iald X.1 X.2.1 X.2.2.2.2.2.2.2.2.1 (gt_R_P hR ho) 0 0 rfl rfl hi hd (kk p e s m args below meth c H locs ls X hR hL hl)
theorem ga_zald {a n : Nat} {f : Nat → Int32} {i : Int32} (ho : h a = some (oZ n f)) (hi : vp_in i n) (hd : decode cc pc = .ok (.baload, 1)) (kk : gt_A l G own nm cc mL rt R Z N (pc + 1) lv (.int (f i.toNatClampNeg) :: st) h) : gt_A l G own nm cc mL rt R Z N pc lv (.int i :: .ref a :: st) h :=
  fun p e s m args below meth c H locs ls X hR hL hl => va_zald X.1 X.2.1 X.2.2.2.2.2.2.2.2.1 (gt_R_P hR ho) 0 1 rfl rfl hi hd (kk p e s m args below meth c H locs ls X hR hL hl)
/-- an element of an array of references -/
theorem ga_aald {a kd n b : Nat} {ty : FieldType} {f : Nat → Option Nat} {i : Int32} (ho : h a = some (oR kd n f)) (ht : (gt_tys G)[kd]? = some (G.2.1 kd, ty)) (hty : ty.isReference = true) (hi : vp_in i n) (hb : f i.toNatClampNeg = some b) (hd : decode cc pc = .ok (.aaload, 1)) (kk : gt_A l G own nm cc mL rt R Z N (pc + 1) lv (.ref b :: st) h) : gt_A l G own nm cc mL rt R Z N pc lv (.int i :: .ref a :: st) h :=
  fun p e s m args below meth c H locs ls X hR hL hl => by
    have hlt : i.toNatClampNeg < n := Nat.not_le.mp fun q => hi (Or.inr q)
    have hc : H[gt_ad G a]? = some (vp_cell (G.2.1 kd) (n, .inr (.inr (.inr (.inr (fun j => (f j).map (gt_ad G))))))) := (hR.1 a _ ho).2.2
    refine W.aald (v := va_rf ((f i.toNatClampNeg).map (gt_ad G))) (ty := ty) X.1 X.2.1 hc ((X.2.2.2.2.2.2.2.2.1.2 kd _ ht).1 n (fun j => va_rf ((f j).map (gt_ad G)))) hty (fun q => by cases q) (by show ¬ (i < 0 ∨ (arrV _ _ _).slots.size ≤ _); rw [arrV_size]; exact hi) (by show (arrV _ _ _).slots[_]? = _; rw [arrV_read _ _ hlt]) rfl rfl hd ?_
    rw [hb]
    exact kk p e s m args below meth c H locs ls X hR hL hl
theorem ga_alen {a n : Nat} {f : Nat → Int32} (ho : h a = some (oI n f)) (hd : decode cc pc = .ok (.arraylength, 1)) (kk : gt_A l G own nm cc mL rt R Z N (pc + 1) lv (.int (Int32.ofNat n) :: st) h) : gt_A l G own nm cc mL rt R Z N pc lv (.ref a :: st) h :=
  fun p e s m args below meth c H locs ls X hR hL hl => va_alen X.1 X.2.1 X.2.2.2.2.2.2.2.2.1 (gt_R_P hR ho) 0 0 (cA := G.2.1 0) (x := (n, .inl f)) rfl rfl rfl hd (kk p e s m args below meth c H locs ls X hR hL hl)
theorem ga_iast {a n : Nat} {f : Nat → Int32} {i x : Int32} (ho : h a = some (oI n f)) (hi : vp_in i n) (hd : decode cc pc = .ok (.iastore, 1)) (kk : gt_A l G own nm cc mL rt R Z N (pc + 1) lv st (gt_up h a (oI n (upd f i.toNatClampNeg x)))) : gt_A l G own nm cc mL rt R Z N pc lv (.int x :: .int i :: .ref a :: st) h :=
  fun p e s m args below meth c H locs ls X hR hL hl => by
    have hc : H[gt_ad G a]? = some (vp_cell (G.2.1 0) (n, .inl f)) := (hR.1 a _ ho).2.2
    refine W.iast X.1 X.2.1 hc ((X.2.2.2.2.2.2.2.2.1.2 0 _ rfl).1 n (fun j => .int (f j))) (fun q => by cases q) (by show ¬ (i < 0 ∨ (arrV _ _ _).slots.size ≤ _); rw [arrV_size]; exact hi) rfl rfl hd fun H1 e1 z oq => ?_
    refine kk p e s m args below meth c H1 _ ls X (gt_R_up hR ho ?_ z oq) (fun q hq => ?_) hl
    · show H1[_]? = some (vp_cell _ _)
      rw [e1, vp_cell_i, vp_cell_i, arrV_store]
      congr 2
      funext q
      by_cases hq : q = i.toNatClampNeg
      · subst hq
        simp [updV, upd]
      · simp [updV, upd, hq]
    · rcases List.mem_append.mp hq with hq | hq
      · exact hL q hq
      · rw [List.mem_singleton.mp hq]; exact gt_ad_lt hR ho
theorem ga_zast {a n : Nat} {f : Nat → Int32} {i x : Int32} (ho : h a = some (oZ n f)) (hi : vp_in i n) (hx : narrow .boolean (.int x) = .int x) (hd : decode cc pc = .ok (.bastore, 1)) (kk : gt_A l G own nm cc mL rt R Z N (pc + 1) lv st (gt_up h a (oZ n (upd f i.toNatClampNeg x)))) : gt_A l G own nm cc mL rt R Z N pc lv (.int x :: .int i :: .ref a :: st) h :=
  fun p e s m args below meth c H locs ls X hR hL hl => by
    have hc : H[gt_ad G a]? = some (vp_cell (G.2.1 1) (n, .inl f)) := (hR.1 a _ ho).2.2
    refine W.zast X.1 X.2.1 hc ((X.2.2.2.2.2.2.2.2.1.2 1 _ rfl).1 n (fun j => .int (f j))) (fun q => by cases q) (by show ¬ (i < 0 ∨ (arrV _ _ _).slots.size ≤ _); rw [arrV_size]; exact hi) rfl rfl hd fun H1 e1 z oq => ?_
    refine kk p e s m args below meth c H1 _ ls X (gt_R_up hR ho ?_ z oq) (fun q hq => ?_) hl
    · show H1[_]? = some (vp_cell _ _)
      rw [e1, hx, vp_cell_i, vp_cell_i, arrV_store]
      congr 2
      funext q
      by_cases hq : q = i.toNatClampNeg
      · subst hq
        simp [updV, upd]
      · simp [updV, upd, hq]
    · rcases List.mem_append.mp hq with hq | hq
      · exact hL q hq
      · rw [List.mem_singleton.mp hq]; exact gt_ad_lt hR ho
/-- an element of the script, which is object 0 -/
theorem ga_sld {i : Int32} (hi : vp_in i G.2.2.2.2.1) (hd : decode cc pc = .ok (.iaload, 1)) (kk : gt_A l G own nm cc mL rt R Z N (pc + 1) lv (.int (G.2.2.2.2.2 i.toNatClampNeg) :: st) h) : gt_A l G own nm cc mL rt R Z N pc lv (.int i :: .ref 0 :: st) h :=
  fun p e s m args below meth c H locs ls X hR hL hl => va_sld (A := fun q => gt_B G ≤ q) (H0 := G.2.2.2.1) (b := G.2.2.1) X.1 X.2.1 X.2.2.2.2.2.2.2.2.2.1 X.2.2.2.2.2.2.2.2.2.2.1 (Nat.not_le.mpr X.2.2.2.2.2.2.2.2.2.2.1) (locs := locs) ⟨by rw [hR.2.1]; exact Nat.le_add_right _ _, fun q h1 _ => hR.2.2 q h1, hL⟩ hi hd (kk p e s m args below meth c H locs ls X hR hL hl)
theorem ga_slen (hd : decode cc pc = .ok (.arraylength, 1)) (kk : gt_A l G own nm cc mL rt R Z N (pc + 1) lv (.int (Int32.ofNat G.2.2.2.2.1) :: st) h) : gt_A l G own nm cc mL rt R Z N pc lv (.ref 0 :: st) h :=
  fun p e s m args below meth c H locs ls X hR hL hl => va_slen (A := fun q => gt_B G ≤ q) (H0 := G.2.2.2.1) (b := G.2.2.1) X.1 X.2.1 X.2.2.2.2.2.2.2.2.2.1 X.2.2.2.2.2.2.2.2.2.2.1 (Nat.not_le.mpr X.2.2.2.2.2.2.2.2.2.2.1) (locs := locs) ⟨by rw [hR.2.1]; exact Nat.le_add_right _ _, fun q h1 _ => hR.2.2 q h1, hL⟩ hd (kk p e s m args below meth c H locs ls X hR hL hl)
theorem gt_catsum (st : List Value) : ((st.map (gt_v G)).map fun v => v.category).sum = (st.map fun v => v.category).sum := by
  rw [List.map_map]
  congr 1
  apply List.map_congr_left
  intro v _
  exact gt_cat v
theorem ga_max {idx : Nat} {x y : Int32} (hl1 : Cond.methodLink own idx Lib.Math.max.name ∈ gt_tbl) (h2 : Cond.static Lib.Math.max.name ∈ gt_tbl ∧ Cond.initialized "java/lang/Math" ∈ gt_tbl ∧ Cond.code Lib.Math.max.name Lib.Math.max.code 2 (some .int) ∈ gt_tbl) (hr : 1 ≤ R.frames ∧ 40 ≤ R.locals ∧ N.2.1 ≤ R.cells ∧ N.2.2 ≤ R.slots) (hs : (st.map fun v => v.category).sum ≤ 8) (hd : decode cc pc = .ok (.invokestatic idx, 3)) (kk : gt_A l G own nm cc mL rt R Z N (pc + 3) lv (.int (if x < y then y else x) :: st) h) : gt_A l G own nm cc mL rt R Z N pc lv (.int y :: .int x :: st) h :=
  fun p e s m args below meth c H locs ls X hR hL hl => va_mmax X.1 X.2.1 (by rw [hl.1]; exact X.2.2.1) X.2.2.2.2.2.1 (X.2.2.2.2.2.2.2.1 _ hl1) (X.2.2.2.2.2.2.2.1 _ h2.1) (X.2.2.2.2.2.2.2.1 _ h2.2.1) (X.2.2.2.2.2.2.2.1 _ h2.2.2) hr.1 (by rw [gt_catsum]; omega) hr.2.2.1 hr.2.2.2 hd (kk p e s m args below meth c H locs ls X hR hL hl)
theorem ga_min {idx : Nat} {x y : Int32} (hl1 : Cond.methodLink own idx Lib.Math.min.name ∈ gt_tbl) (h2 : Cond.static Lib.Math.min.name ∈ gt_tbl ∧ Cond.initialized "java/lang/Math" ∈ gt_tbl ∧ Cond.code Lib.Math.min.name Lib.Math.min.code 2 (some .int) ∈ gt_tbl) (hr : 1 ≤ R.frames ∧ 40 ≤ R.locals ∧ N.2.1 ≤ R.cells ∧ N.2.2 ≤ R.slots) (hs : (st.map fun v => v.category).sum ≤ 8) (hd : decode cc pc = .ok (.invokestatic idx, 3)) (kk : gt_A l G own nm cc mL rt R Z N (pc + 3) lv (.int (if y < x then y else x) :: st) h) : gt_A l G own nm cc mL rt R Z N pc lv (.int y :: .int x :: st) h :=
  fun p e s m args below meth c H locs ls X hR hL hl => va_mmin X.1 X.2.1 (by rw [hl.1]; exact X.2.2.1) X.2.2.2.2.2.1 (X.2.2.2.2.2.2.2.1 _ hl1) (X.2.2.2.2.2.2.2.1 _ h2.1) (X.2.2.2.2.2.2.2.1 _ h2.2.1) (X.2.2.2.2.2.2.2.1 _ h2.2.2) hr.1 (by rw [gt_catsum]; omega) hr.2.2.1 hr.2.2.2 hd (kk p e s m args below meth c H locs ls X hR hL hl)
theorem ga_abs {idx : Nat} {x : Int32} (hl1 : Cond.methodLink own idx Lib.Math.abs.name ∈ gt_tbl) (h2 : Cond.static Lib.Math.abs.name ∈ gt_tbl ∧ Cond.initialized "java/lang/Math" ∈ gt_tbl ∧ Cond.code Lib.Math.abs.name Lib.Math.abs.code 1 (some .int) ∈ gt_tbl) (hr : 1 ≤ R.frames ∧ 40 ≤ R.locals ∧ N.2.1 ≤ R.cells ∧ N.2.2 ≤ R.slots) (hs : (st.map fun v => v.category).sum ≤ 8) (hd : decode cc pc = .ok (.invokestatic idx, 3)) (kk : gt_A l G own nm cc mL rt R Z N (pc + 3) lv (.int (if 0 ≤ x then x else 0 - x) :: st) h) : gt_A l G own nm cc mL rt R Z N pc lv (.int x :: st) h :=
  fun p e s m args below meth c H locs ls X hR hL hl => va_mabs X.1 X.2.1 (by rw [hl.1]; exact X.2.2.1) X.2.2.2.2.2.1 (X.2.2.2.2.2.2.2.1 _ hl1) (X.2.2.2.2.2.2.2.1 _ h2.1) (X.2.2.2.2.2.2.2.1 _ h2.2.1) (X.2.2.2.2.2.2.2.1 _ h2.2.2) hr.1 (by rw [gt_catsum]; omega) hr.2.2.1 hr.2.2.2 hd (kk p e s m args below meth c H locs ls X hR hL hl)
end GH
end
section
section GC
variable {l : Launch} {G : gt_G} {own nm : String} {cc : ByteArray} {mL : Nat} {rt : Option FieldType} {R : Room} {Z : gt_Zt} {n uc us : Nat} {pc : Nat} {lv : List (Nat × Value)} {st : List Value} {h : gt_H}
/-- what the tables say of a method that is called on an object of its own class -/
def gt_V (y : MethodName) (cc : ByteArray) (mL : Nat) (rt : Option FieldType) (np : Nat) : Prop := Cond.instanceMethod y ∈ gt_tbl ∧ Cond.selects y.cls y y ∈ gt_tbl ∧ Cond.initialized y.cls ∈ gt_tbl ∧ Cond.code y cc mL rt ∈ gt_tbl ∧ (y.cls ≠ "java/lang/invoke/MethodHandle" ∧ y.cls ≠ "java/lang/invoke/VarHandle" ∧ (parseMethodDescriptor y.desc).map (fun d => d.parameters.length) = some np) ∧ mL ≤ 21
def gt_S (y : MethodName) (cc : ByteArray) (mL : Nat) (rt : Option FieldType) (np : Nat) : Prop := Cond.static y ∈ gt_tbl ∧ Cond.initialized y.cls ∈ gt_tbl ∧ Cond.code y cc mL rt ∈ gt_tbl ∧ (y.cls ≠ "java/lang/invoke/MethodHandle" ∧ y.cls ≠ "java/lang/invoke/VarHandle" ∧ (parseMethodDescriptor y.desc).map (fun d => d.parameters.length) = some np) ∧ mL ≤ 21
def gt_I (y : MethodName) (cc : ByteArray) (mL : Nat) (np : Nat) : Prop := y.name = "<init>" ∧ Cond.instanceMethod y ∈ gt_tbl ∧ Cond.initialized y.cls ∈ gt_tbl ∧ Cond.code y cc mL none ∈ gt_tbl ∧ (y.cls ≠ "java/lang/invoke/MethodHandle" ∧ y.cls ≠ "java/lang/invoke/VarHandle" ∧ (parseMethodDescriptor y.desc).map (fun d => d.parameters.length) = some np) ∧ mL ≤ 21
/-- the room of a call -/
def gt_rc (R : Room) (d uc us mc ms : Nat) : Prop := d + 1 ≤ R.frames ∧ 40 * (d + 1) ≤ R.locals ∧ uc + mc ≤ R.cells ∧ us + ms ≤ R.slots
theorem gt_rc0 {d d' : Nat} (hd : d' + 1 ≤ d) : gt_rc (gt_rm d 0 0) d' 0 0 0 0 := ⟨hd, by show 40 * (d' + 1) ≤ 40 * d; omega, Nat.le_refl _, Nat.le_refl _⟩
theorem gt_rc1 {d d' mc ms uc us c s : Nat} (hd : d' + 1 ≤ d) (h1 : uc + c ≤ mc) (h2 : us + s ≤ ms) : gt_rc (gt_rm d mc ms) d' uc us c s := ⟨hd, by show 40 * (d' + 1) ≤ 40 * d; omega, h1, h2⟩
theorem gt_room {d mc ms : Nat} (hd : 1 ≤ d) : 1 ≤ (gt_rm d mc ms).frames ∧ 40 ≤ (gt_rm d mc ms).locals ∧ 0 ≤ (gt_rm d mc ms).cells ∧ 0 ≤ (gt_rm d mc ms).slots := ⟨hd, by show 40 ≤ 40 * d; omega, Nat.zero_le _, Nat.zero_le _⟩
theorem gt_pre {y : MethodName} {as : List Value} {s : State} {H : Heap} (hR : gt_R G n h H) (hK : gt_K G s) : ∀ U : State, U.heap = H → s.WarmedH U.vm → gt_P G n as h (as.map (gt_v G)).toArray U := fun U hU hW => ⟨rfl, by rw [hU]; exact hR, gt_K_warm hW hK⟩
/-- behind a call: the machine goes on with the callee's answer and heap -/
theorem gt_goes {p : Program} {e : Env} {s : State} {m : MethodId} {args : Array Value} {below : List Frame} {meth : Method} {c : Code} {H : Heap} {locs : List Loc} {ls : Array Slot} {st0 rest : List Value} {a0 : Array Value} {mc ms n1 : Nat} {r : Option Value} {h' : gt_H} {Q : State → Prop}
    (hrun : va_Run p l e R s m args below meth c H locs uc us mc ms (F0 m pc ls st0) rest (gt_Q G n1 r h' a0) (fun q => gt_B G ≤ q)) (hL : ∀ q ∈ locs, gt_B G ≤ q.base)
    (kk : ∀ (H1 : Heap) (locs1 : List Loc), gt_R G n1 h' H1 → (∀ q ∈ locs1, gt_B G ≤ q.base) → W p l e R s m args below meth c H1 locs1 (uc + mc) (us + ms) Q (F0 m (pc + 3) ls ((r.map (gt_v G)).toList ++ rest))) : W p l e R s m args below meth c H locs uc us Q (F0 m pc ls st0) := by
  intro T hT X
  obtain ⟨v, st₀, t, T', L, h0, X', hL1, e1, e2, ⟨hv, hR1⟩, stp⟩ := hrun T hT X
  cases hv
  obtain ⟨t2, a1, b1⟩ := kk T'.heap (locs ++ L) (by rw [e1]; exact hR1) (fun q hq => by
    rcases List.mem_append.mp hq with hq | hq
    · exact hL q hq
    · exact hL1 q hq) T' rfl X'
  exact ⟨t2, stp t2 a1, b1⟩
theorem gt_roomF {st : List Value} {m : MethodId} {ls : Array Slot} {rest : List Value} (hs : (st.map fun v => v.category).sum ≤ 8) : 2 * (F0 m pc ls rest).monitorRoom + ((st.map (gt_v G)).map fun v => v.category).sum ≤ 8 := by
  rw [gt_catsum]
  have := lv_room (m := m) (pc := pc) (ls := ls) (rest := rest) hs
  exact this
theorem gt_map_toList (r : Option Value) (st : List Value) : (r.map (gt_v G)).toList ++ st.map (gt_v G) = (r.toList ++ st).map (gt_v G) := by cases r <;> simp
theorem ga_callV (As : List Value) {idx b ci d' mc' ms' mL' : Nat} {y : MethodName} {cc' : ByteArray} {rt' : Option FieldType} {fs : List Value} {q : vw_C} {r : Option Value} {h' : gt_H} (hl1 : Cond.methodLink own idx y ∈ gt_tbl) (hV : gt_V y cc' mL' rt' As.length) (hC : gt_C l G y cc' mL' rt' d' mc' ms' n (.ref b :: As) h r h') (ho : h b = some (oO ci fs)) (hq : vwCl[ci]? = some q) (hqn : q.1 = y.cls) (hroom : gt_rc R d' uc us mc' ms') (hs : (st.map fun v => v.category).sum ≤ 8) (hd : decode cc pc = .ok (.invokevirtual idx, 3))
    (kk : gt_A l G own nm cc mL rt R Z (n + mc', uc + mc', us + ms') (pc + 3) lv (r.toList ++ st) h') : gt_A l G own nm cc mL rt R Z (n, uc, us) pc lv (As.reverse ++ .ref b :: st) h :=
  fun p e s m args below meth c H locs ls X hR hL hl => by
    obtain ⟨v1, v2, v3, v4, v5, v6⟩ := hV
    have hts := X.2.2.2.2.2.2.2.1
    have hK := X.2.2.2.2.2.2.2.2
    have cw : CallW R s args own y.cls idx y cc' mL' rt' (.code y cc' mL' rt' :: gt_tbl) (gt_rm d' mc' ms') mc' ms' As.length :=
      ⟨callB_of As.length hts (gt_tbl_good v4) rfl rfl rfl (hts _ v3) (hts _ hl1) v5 ⟨hroom.1, by have := hroom.2.1; show 8 + (mL' + 11) + 40 * d' ≤ _; omega⟩, hts _ v1, hts _ v2⟩
    have hrec := va_recv hK.1 (gt_R_P hR ho) hq (q0 := 0) (a := gt_ad G b) (fs := fs.map (gt_v G)) rfl
    rw [hqn] at hrec
    have hrun := va_runV (g := F0 m pc ls (((As.map (gt_v G)).reverse) ++ .ref (gt_ad G b) :: st.map (gt_v G))) (locs := locs) (below := below) (meth := meth) (e := e) (H := H) ⟨X.1, X.2.1, X.2.2.1, X.2.2.2.2.2.1, hts⟩ hC cw (b := gt_ad G b) (As := As.map (gt_v G)) ⟨gt_P_blind G n _ h, hrec, gt_pre (y := y) (as := .ref b :: As) hR hK⟩ rfl (by rw [List.length_map]) hl.1 (rest := st.map (gt_v G)) rfl (gt_roomF hs) hd ⟨hroom.2.2.1, hroom.2.2.2⟩
    have e1 : (As.reverse ++ .ref b :: st).map (gt_v G) = ((As.map (gt_v G)).reverse) ++ .ref (gt_ad G b) :: st.map (gt_v G) := by rw [List.map_append, List.map_reverse]; rfl
    rw [e1]
    refine gt_goes hrun hL (fun H1 locs1 hR1 hL1 => ?_)
    rw [gt_map_toList]
    exact kk p e s m args below meth c H1 locs1 ls X hR1 hL1 hl
theorem ga_callS (As : List Value) {idx d' mc' ms' mL' : Nat} {y : MethodName} {cc' : ByteArray} {rt' : Option FieldType} {r : Option Value} {h' : gt_H} (hl1 : Cond.methodLink own idx y ∈ gt_tbl) (hV : gt_S y cc' mL' rt' As.length) (hC : gt_C l G y cc' mL' rt' d' mc' ms' n As h r h') (hroom : gt_rc R d' uc us mc' ms') (hs : (st.map fun v => v.category).sum ≤ 8) (hd : decode cc pc = .ok (.invokestatic idx, 3))
    (kk : gt_A l G own nm cc mL rt R Z (n + mc', uc + mc', us + ms') (pc + 3) lv (r.toList ++ st) h') : gt_A l G own nm cc mL rt R Z (n, uc, us) pc lv (As.reverse ++ st) h :=
  fun p e s m args below meth c H locs ls X hR hL hl => by
    obtain ⟨v1, v3, v4, v5, v6⟩ := hV
    have hts := X.2.2.2.2.2.2.2.1
    have hK := X.2.2.2.2.2.2.2.2
    have cw : CallB R s args own idx y cc' mL' rt' (.code y cc' mL' rt' :: gt_tbl) (gt_rm d' mc' ms') mc' ms' As.length ∧ (Cond.static y).before args s = true :=
      ⟨callB_of As.length hts (gt_tbl_good v4) rfl rfl rfl (hts _ v3) (hts _ hl1) v5 ⟨hroom.1, by have := hroom.2.1; show 8 + (mL' + 11) + 40 * d' ≤ _; omega⟩, hts _ v1⟩
    have hrun := va_runS (g := F0 m pc ls (((As.map (gt_v G)).reverse) ++ st.map (gt_v G))) (locs := locs) (below := below) (meth := meth) (e := e) (H := H) ⟨X.1, X.2.1, X.2.2.1, X.2.2.2.2.2.1, hts⟩ hC cw (As := As.map (gt_v G)) ⟨gt_P_blind G n _ h, gt_pre (y := y) (as := As) hR hK⟩ rfl (by rw [List.length_map]) hl.1 (rest := st.map (gt_v G)) rfl (gt_roomF hs) hd ⟨hroom.2.2.1, hroom.2.2.2⟩
    have e1 : (As.reverse ++ st).map (gt_v G) = ((As.map (gt_v G)).reverse) ++ st.map (gt_v G) := by rw [List.map_append, List.map_reverse]
    rw [e1]
    refine gt_goes hrun hL (fun H1 locs1 hR1 hL1 => ?_)
    rw [gt_map_toList]
    exact kk p e s m args below meth c H1 locs1 ls X hR1 hL1 hl
/-- a constructor without arguments: of a class whose constructor the caller may see -/
theorem ga_callI {idx b d' mc' ms' mL' : Nat} {y : MethodName} {cc' : ByteArray} {h' : gt_H} (hl1 : Cond.methodLink own idx y ∈ gt_tbl) (hV : gt_I y cc' mL' 0) (hC : gt_C l G y cc' mL' none d' mc' ms' n [.ref b] h none h') (hroom : gt_rc R d' uc us mc' ms') (hs : (st.map fun v => v.category).sum ≤ 8) (hd : decode cc pc = .ok (.invokespecial idx, 3))
    (kk : gt_A l G own nm cc mL rt R Z (n + mc', uc + mc', us + ms') (pc + 3) lv st h') : gt_A l G own nm cc mL rt R Z (n, uc, us) pc lv (.ref b :: st) h :=
  fun p e s m args below meth c H locs ls X hR hL hl => by
    obtain ⟨v0, v1, v3, v4, v5, v6⟩ := hV
    have hts := X.2.2.2.2.2.2.2.1
    have hK := X.2.2.2.2.2.2.2.2
    have cw : CallB R s args own idx y cc' mL' none (.code y cc' mL' none :: gt_tbl) (gt_rm d' mc' ms') mc' ms' 0 ∧ y.name = "<init>" ∧ (Cond.instanceMethod y).before args s = true :=
      ⟨callB_of 0 hts (gt_tbl_good v4) rfl rfl rfl (hts _ v3) (hts _ hl1) v5 ⟨hroom.1, by have := hroom.2.1; show 8 + (mL' + 11) + 40 * d' ≤ _; omega⟩, v0, hts _ v1⟩
    have hrun := va_runI (g := F0 m pc ls (.ref (gt_ad G b) :: st.map (gt_v G))) (locs := locs) (below := below) (meth := meth) (e := e) (H := H) ⟨X.1, X.2.1, X.2.2.1, X.2.2.2.2.2.1, hts⟩ hC cw (b := gt_ad G b) (As := []) ⟨gt_P_blind G n _ h, gt_pre (y := y) (as := [.ref b]) hR hK⟩ rfl rfl hl.1 (rest := st.map (gt_v G)) rfl (gt_roomF hs) hd ⟨hroom.2.2.1, hroom.2.2.2⟩
    exact gt_goes hrun hL (fun H1 locs1 hR1 hL1 => kk p e s m args below meth c H1 locs1 ls X hR1 hL1 hl)
theorem ga_callN {idx b d' mc' ms' mL' : Nat} {y : MethodName} {host : String} {cc' : ByteArray} {h' : gt_H} (hl1 : (own, idx, y, host) ∈ gt_nest) (hV : gt_I y cc' mL' 0) (hC : gt_C l G y cc' mL' none d' mc' ms' n [.ref b] h none h') (hroom : gt_rc R d' uc us mc' ms') (hs : (st.map fun v => v.category).sum ≤ 8) (hd : decode cc pc = .ok (.invokespecial idx, 3))
    (kk : gt_A l G own nm cc mL rt R Z (n + mc', uc + mc', us + ms') (pc + 3) lv st h') : gt_A l G own nm cc mL rt R Z (n, uc, us) pc lv (.ref b :: st) h :=
  fun p e s m args below meth c H locs ls X hR hL hl => by
    obtain ⟨v0, v1, v3, v4, v5, v6⟩ := hV
    have hts := X.2.2.2.2.2.2.2.1
    have hK := X.2.2.2.2.2.2.2.2
    have cw : va_CN R s args own idx y host cc' mL' none (.code y cc' mL' none :: gt_tbl) (gt_rm d' mc' ms') mc' ms' 0 ∧ y.name = "<init>" ∧ (Cond.instanceMethod y).before args s = true :=
      ⟨va_cnB 0 hts (gt_tbl_good v4) rfl rfl rfl (hK.2.2.2.1 _ hl1) (hts _ v3) v5 ⟨hroom.1, by have := hroom.2.1; show 8 + (mL' + 11) + 40 * d' ≤ _; omega⟩, v0, hts _ v1⟩
    have hrun := va_runIN (g := F0 m pc ls (.ref (gt_ad G b) :: st.map (gt_v G))) (locs := locs) (below := below) (meth := meth) (e := e) (H := H) ⟨X.1, X.2.1, X.2.2.1, X.2.2.2.2.2.1, hts⟩ hC cw (b := gt_ad G b) (As := []) ⟨gt_P_blind G n _ h, gt_pre (y := y) (as := [.ref b]) hR hK⟩ rfl rfl hl.1 (rest := st.map (gt_v G)) rfl (gt_roomF hs) hd ⟨hroom.2.2.1, hroom.2.2.2⟩
    exact gt_goes hrun hL (fun H1 locs1 hR1 hL1 => kk p e s m args below meth c H1 locs1 ls X hR1 hL1 hl)
theorem ga_objInit {idx b : Nat} (h1 : Cond.methodLink own idx Lib.objectInit ∈ gt_tbl) (h2 : Cond.instanceMethod Lib.objectInit ∈ gt_tbl ∧ Cond.code Lib.objectInit ⟨#[0xb1]⟩ 1 none ∈ gt_tbl) (hr : 1 ≤ R.frames ∧ 40 ≤ R.locals) (hs : (st.map fun v => v.category).sum ≤ 8) (hd : decode cc pc = .ok (.invokespecial idx, 3)) (kk : gt_A l G own nm cc mL rt R Z (n, uc, us) (pc + 3) lv st h) : gt_A l G own nm cc mL rt R Z (n, uc, us) pc lv (.ref b :: st) h :=
  fun p e s m args below meth c H locs ls X hR hL hl => by
    have hts := X.2.2.2.2.2.2.2.1
    refine W.objInit X.1 X.2.1 X.2.2.2.2.2.1 (hts _ h1) (hts _ h2.1) (hts _ h2.2) rfl (by rw [X.2.2.1]; exact hl.1) rfl hd hr.1 ?_ ?_
    · have := gt_roomF (G := G) (m := m) (pc := pc) (ls := ls) (rest := [.ref (gt_ad G b)]) hs
      have h3 := hr.2
      have h4 : 2 * (F0 m pc ls (gt_v G (.ref b) :: st.map (gt_v G))).monitorRoom + ((st.map (gt_v G)).map fun v => v.category).sum ≤ 8 := gt_roomF (G := G) hs
      exact Nat.le_trans (Nat.add_le_add_right h4 12) (by omega)
    · exact kk p e s m args below meth c H locs ls X hR hL hl
end GC
end
section
section GN
variable {l : Launch} {G : gt_G} {own nm : String} {cc : ByteArray} {mL : Nat} {rt : Option FieldType} {R : Room} {Z : gt_Zt} {n uc us : Nat} {pc : Nat} {lv : List (Nat × Value)} {st : List Value} {h : gt_H}
theorem gt_R_push {H H1 : Heap} {o : gt_Ob} (hR : gt_R G n h H) (hat : va_at G.1 vwCl (H.size, gt_e G o) H1) (hz : H1.size = H.size + 1) (hq : ∀ q : Nat, q < H.size → H1[q]? = H[q]?) : gt_R G (n + 1) (gt_up h (n + 1) o) H1 := by
  refine ⟨fun k ob hk => ?_, by rw [hz, hR.2.1]; omega, fun q hl => ?_⟩
  · unfold gt_up at hk
    by_cases hka : k = n + 1
    · rw [if_pos hka] at hk
      cases hk
      subst hka
      refine ⟨by omega, Nat.le_refl _, ?_⟩
      have e : gt_ad G (n + 1) = H.size := by rw [hR.2.1]; rfl
      rw [e]
      exact hat
    · rw [if_neg hka] at hk
      obtain ⟨q1, q2, q3⟩ := hR.1 k ob hk
      exact ⟨q1, by omega, q3.kept (hq _ q3.lt)⟩
  · rw [hq q (by rw [hR.2.1]; exact Nat.lt_of_lt_of_le hl (Nat.le_add_right _ _))]
    exact hR.2.2 q hl
theorem gt_adS (n : Nat) {H : Heap} (hR : gt_R G n h H) : gt_v G (.ref (n + 1)) = .ref H.size := by
  rw [hR.2.1]; rfl
/-- a class that can be made: its words -/
def gt_Nw (own : String) (idx ci M : Nat) (fs : List Value) : Prop := ∃ (C : String) (T : u_T) (ty0 : Nat → FieldType), vwCl[ci]? = some (C, T, M) ∧ Cond.classLink own idx C ∈ gt_tbl ∧ Cond.instantiable C M ∈ gt_tbl ∧ Cond.initialized C ∈ gt_tbl ∧ (∀ w ∈ u_ws C T M, w ∈ gt_tbl) ∧ (∀ k, k < M → parseFieldDescriptor (T k).2.2.1 = some (ty0 k)) ∧ (∀ j, j < M → defaultValue (ty0 j) = vp_V fs j)
theorem ga_new {idx ci M : Nat} {fs : List Value} (hN : gt_Nw own idx ci M fs) (hfs : fs.map (gt_v G) = fs) (hc : uc + 1 ≤ R.cells) (hs : us + M ≤ R.slots) (hd : decode cc pc = .ok (.new idx, 3)) (kk : gt_A l G own nm cc mL rt R Z (n + 1, uc + 1, us + M) (pc + 3) lv (.ref (n + 1) :: st) (gt_up h (n + 1) (oO ci fs))) : gt_A l G own nm cc mL rt R Z (n, uc, us) pc lv st h :=
  fun p e s m args below meth c H locs ls X hR hL hl => by
    obtain ⟨C, T, ty0, hcl, h1, h2, h3, hin, hty, hdf⟩ := hN
    have hts := X.2.2.2.2.2.2.2.1
    have hK := X.2.2.2.2.2.2.2.2.1
    have hKn := hK.1 ci _ hcl
    refine W.newcK X.1 X.2.1 X.2.2.2.2.2.1 (hts _ h1) (hts _ h2) (hts _ h3) rfl hd hc hs hKn.2.1 rfl fun H1 kC hkC e1 z1 o1 => ?_
    have e9 := kk p e s m args below meth c H1 locs ls X (gt_R_push hR (show va_at G.1 vwCl (H.size, .inr (ci, fs.map (gt_v G))) H1 from ⟨_, hcl, (u_born ty0 hts hin hKn hkC e1 hty).to (fun j hj => by rw [hfs]; exact hdf j hj)⟩) z1 o1) hL hl
    rw [List.map_cons, gt_adS n hR] at e9
    exact e9
theorem ga_newI {i : Int32} {M : Nat} (ha : Cond.arrayClass .int ∈ gt_tbl) (h0 : ¬ i < 0) (hM : i.toNatClampNeg = M) (hb : M ≤ 1000000) (hc : uc + 1 ≤ R.cells) (hs : us + M ≤ R.slots) (hd : decode cc pc = .ok (.newarray .int, 2)) (kk : gt_A l G own nm cc mL rt R Z (n + 1, uc + 1, us + M) (pc + 2) lv (.ref (n + 1) :: st) (gt_up h (n + 1) (oI M (fun _ => 0)))) : gt_A l G own nm cc mL rt R Z (n, uc, us) pc lv (.int i :: st) h :=
  fun p e s m args below meth c H locs ls X hR hL hl => by
    have hts := X.2.2.2.2.2.2.2.1
    have hK := X.2.2.2.2.2.2.2.2.1
    refine va_newaK (atype := .int) X.1 X.2.1 (hts _ ha) rfl hd rfl h0 hM (by show M * 4 ≤ _; omega) hc hs rfl fun H1 cA e1 z1 o1 hAr hNm => ?_
    have hcA : cA = G.2.1 0 := Option.some.inj (hNm.symm.trans (hK.2 0 _ rfl).2)
    subst hcA
    have e9 := kk p e s m args below meth c H1 locs ls X (gt_R_push hR (show va_at G.1 vwCl (H.size, .inl (G.2.1 0, M, .inl (fun _ => 0))) H1 from by
      show H1[H.size]? = some (vp_cell _ _)
      rw [e1, vp_cell_i]
      rfl) z1 o1) hL hl
    rw [List.map_cons, gt_adS n hR] at e9
    exact e9
theorem ga_newZ {i : Int32} {M : Nat} (ha : Cond.arrayClass .boolean ∈ gt_tbl) (h0 : ¬ i < 0) (hM : i.toNatClampNeg = M) (hb : M ≤ 1000000) (hc : uc + 1 ≤ R.cells) (hs : us + M ≤ R.slots) (hd : decode cc pc = .ok (.newarray .boolean, 2)) (kk : gt_A l G own nm cc mL rt R Z (n + 1, uc + 1, us + M) (pc + 2) lv (.ref (n + 1) :: st) (gt_up h (n + 1) (oZ M (fun _ => 0)))) : gt_A l G own nm cc mL rt R Z (n, uc, us) pc lv (.int i :: st) h :=
  fun p e s m args below meth c H locs ls X hR hL hl => by
    have hts := X.2.2.2.2.2.2.2.1
    have hK := X.2.2.2.2.2.2.2.2.1
    refine va_newaK (atype := .boolean) X.1 X.2.1 (hts _ ha) rfl hd rfl h0 hM (by show M * 1 ≤ _; omega) hc hs rfl fun H1 cA e1 z1 o1 hAr hNm => ?_
    have hcA : cA = G.2.1 1 := Option.some.inj (hNm.symm.trans (hK.2 1 _ rfl).2)
    subst hcA
    have e9 := kk p e s m args below meth c H1 locs ls X (gt_R_push hR (show va_at G.1 vwCl (H.size, .inl (G.2.1 1, M, .inl (fun _ => 0))) H1 from by
      show H1[H.size]? = some (vp_cell _ _)
      rw [e1, vp_cell_i]
      rfl) z1 o1) hL hl
    rw [List.map_cons, gt_adS n hR] at e9
    exact e9
theorem ga_newR {idx kd : Nat} {C : String} {i : Int32} {M : Nat} (ha : Cond.classLink own idx C ∈ gt_tbl) (hAO : ∀ s, gt_K G s → va_AO C s) (ht : (gt_tys G)[kd]? = some (G.2.1 kd, .object C)) (h0 : ¬ i < 0) (hM : i.toNatClampNeg = M) (hb : M ≤ 1000000) (hc : uc + 1 ≤ R.cells) (hs : us + M ≤ R.slots) (hd : decode cc pc = .ok (.anewarray idx, 3)) (kk : gt_A l G own nm cc mL rt R Z (n + 1, uc + 1, us + M) (pc + 3) lv (.ref (n + 1) :: st) (gt_up h (n + 1) (oR kd M (fun _ => none)))) : gt_A l G own nm cc mL rt R Z (n, uc, us) pc lv (.int i :: st) h :=
  fun p e s m args below meth c H locs ls X hR hL hl => by
    subst hM
    have hts := X.2.2.2.2.2.2.2.1
    have hK := X.2.2.2.2.2.2.2.2.1
    refine W.anew X.1 X.2.1 X.2.2.2.2.2.1 (hts _ ha) (va_AO.use (hAO s X.2.2.2.2.2.2.2.2)) rfl hd rfl h0 (by omega) hc hs fun cA kA comp f1 f2 f3 f4 => ?_
    obtain ⟨kA', comp', -, -, -, g4⟩ := (hK.2 kd _ ht).2
    have hcA : cA = G.2.1 kd := Option.some.inj (f1.symm.trans g4)
    subst hcA
    have e9 := kk p e s m args below meth c (H.push ({ cls := G.2.1 kd, slots := Array.replicate i.toNatClampNeg .null, vm := .none } : Cell)) locs ls X (gt_R_push hR (show va_at G.1 vwCl (H.size, .inl (G.2.1 kd, i.toNatClampNeg, .inr (.inr (.inr (.inr (fun _ => none)))))) _ from by
      show (Array.push H _)[H.size]? = some (vp_cell _ _)
      rw [vp_cell_q, Array.getElem?_push_size, ← arrV_new]
      rfl) (by rw [Array.size_push]) (fun q hq => by rw [Array.getElem?_push, if_neg (Nat.ne_of_lt hq)])) hL hl
    rw [List.map_cons, gt_adS n hR] at e9
    exact e9
theorem ga_aast {a kd M b ci : Nat} {C : String} {T : u_T} {NN : Nat} {f : Nat → Option Nat} {fs : List Value} {i : Int32} (ho : h a = some (oR kd M f)) (ht : (gt_tys G)[kd]? = some (G.2.1 kd, .object C)) (hb : h b = some (oO ci fs)) (hc : vwCl[ci]? = some (C, T, NN)) (hi : vp_in i M) (hd : decode cc pc = .ok (.aastore, 1)) (kk : gt_A l G own nm cc mL rt R Z (n, uc, us) (pc + 1) lv st (gt_up h a (oR kd M (va_up f i.toNatClampNeg (some b))))) : gt_A l G own nm cc mL rt R Z (n, uc, us) pc lv (.ref b :: .int i :: .ref a :: st) h :=
  fun p e s m args below meth c H locs ls X hR hL hl => by
    have hK := X.2.2.2.2.2.2.2.2.1
    have hlt : i.toNatClampNeg < M := Nat.not_le.mp fun q => hi (Or.inr q)
    have h0 : ¬ i < 0 := fun q => hi (Or.inl q)
    have hca : H[gt_ad G a]? = some (vp_cell (G.2.1 kd) (M, .inr (.inr (.inr (.inr (fun j => (f j).map (gt_ad G))))))) := (hR.1 a _ ho).2.2
    obtain ⟨r', hr', cellV, g1, g2, g3, -⟩ := (hR.1 b _ hb).2.2
    have hcls := (hK.1 ci _ hc).2
    obtain ⟨kA, comp, k1, k2, k3, -⟩ := (hK.2 kd _ ht).2
    have hcomp : comp = G.1.1 ci := Option.some.inj (k3.symm.trans hcls.1)
    subst hcomp
    obtain ⟨kC, hkC, -⟩ := hcls.2
    refine W.aast X.1 X.2.1 hca (fun q h => by cases h) (fun h => by cases h) k1 k2 rfl hkC ⟨h0, by show _ < (arrV _ _ _).slots.size; rw [arrV_size]; exact hlt⟩ g1 (fun q h => by rw [g3] at h; cases h) (by rw [g2]; exact hkC) (by rw [g2]; exact va_assign hcls) rfl rfl hd fun H1 e1 z oq => ?_
    refine kk p e s m args below meth c H1 _ ls X (gt_R_up hR ho ?_ z oq) (fun q hq => ?_) hl
    · show H1[_]? = some (vp_cell _ _)
      rw [e1, vp_cell_q, vp_cell_q, arrV_store]
      congr 2
      funext q
      by_cases hq : q = i.toNatClampNeg
      · subst hq
        simp [updV, va_up, va_rf]
      · simp [updV, va_up, hq]
    · rcases List.mem_append.mp hq with hq | hq
      · exact hL q hq
      · rw [List.mem_singleton.mp hq]; exact gt_ad_lt hR ho
/-- the heap behind new int[N][M] -/
def gt_rows (h : gt_H) (n N M : Nat) : gt_H := fun k => if k = n + 1 then some (oR 4 N (fun i => if i < N then some (n + 2 + i) else none)) else if n + 2 ≤ k ∧ k < n + 2 + N then some (oI M (fun _ => 0)) else h k
theorem gt_outer (c : ClassId) (N h0 : Nat) : ∀ i : Nat, Jvm.Free.Multi.outerC c N h0 i = arrV c N (fun j => va_rf (if j < i then some (h0 + 1 + j) else none))
  | 0 => by
    show ({ cls := c, slots := Array.replicate N .null, vm := .none } : Cell) = _
    rw [arrV_new]
    exact congrArg (arrV c N) (funext fun j => by simp [va_rf])
  | i + 1 => by
    show (Jvm.Free.Multi.outerC c N h0 i).setSlot i (.ref (h0 + 1 + i)) = _
    rw [gt_outer c N h0 i, arrV_store]
    refine congrArg (arrV c N) (funext fun j => ?_)
    rcases Nat.lt_trichotomy j i with q | q | q
    · simp [updV, Nat.ne_of_lt q, q, Nat.lt_succ_of_lt q]
    · subst q; simp [updV, va_rf]
    · simp [updV, Nat.ne_of_gt q, show ¬ j < i by omega, show ¬ j < i + 1 by omega]
theorem ga_multi {idx : Nat} {i k : Int32} {NN M : Nat} (hcl : Cond.classLink own idx "[[I" ∈ gt_tbl) (hac : Cond.arrayClass .int ∈ gt_tbl) (h0 : ¬ i < 0) (h1 : ¬ k < 0) (hN : i.toNatClampNeg = NN) (hM : k.toNatClampNeg = M) (hb : NN ≤ 1000000) (hb2 : M ≤ 1000000) (hc : uc + (1 + NN) ≤ R.cells) (hs : us + (NN + NN * M) ≤ R.slots) (hd : decode cc pc = .ok (.multianewarray idx 2, 4)) (kk : gt_A l G own nm cc mL rt R Z (n + 1 + NN, uc + 1 + NN, us + NN + NN * M) (pc + 4) lv (.ref (n + 1) :: st) (gt_rows h n NN M)) : gt_A l G own nm cc mL rt R Z (n, uc, us) pc lv (.int k :: .int i :: st) h :=
  fun p e s m args below meth c H locs ls X hR hL hl => by
    subst hN; subst hM
    have hts := X.2.2.2.2.2.2.2.1
    have hK := X.2.2.2.2.2.2.2.2.1
    have hov := X.2.2.2.2.2.2.2.2.2.2.2.2.2.2
    intro T hT Xs
    obtain ⟨vm₁, cA, comp, -, fA, fC, hO, -, X', step⟩ := Xs.multianewarray2F (ty := .int) X.1 X.2.2.2.2.2.1 (hts _ hcl) (over_moved (Vm.Alike.refl _) hov) (hts _ hac) (g := F0 m pc ls (.int k :: .int i :: st.map (gt_v G))) rfl (by rw [X.2.1]; exact hd) rfl h0 h1 (by omega) (by show _ * 4 ≤ _; omega) (by omega) rfl rfl hc hs
    have ec : comp = G.2.1 0 := Option.some.inj (fC.symm.trans (hK.2 0 _ rfl).2)
    have eA : cA = G.2.1 4 := Option.some.inj (fA.symm.trans (hK.2 4 _ rfl).2)
    subst ec; subst eA
    generalize hF : Jvm.Free.Multi.fill (T.setVm vm₁) (G.2.1 4) (G.2.1 0) i.toNatClampNeg k.toNatClampNeg (defaultValue .int) i.toNatClampNeg = F at X' step
    have hTh : (T.setVm vm₁).heap = H := hT
    obtain ⟨f1, f2, -, -⟩ := Jvm.Free.Multi.fill_facts (T.setVm vm₁) (G.2.1 4) (G.2.1 0) i.toNatClampNeg k.toNatClampNeg (defaultValue .int) i.toNatClampNeg
    rw [hF, hTh] at f1 f2
    have hold : ∀ x : Nat, x < H.size → F.heap[x]? = H[x]? := fun x hx => by
      have := Jvm.Free.Multi.fill_old (T.setVm vm₁) (G.2.1 4) (G.2.1 0) i.toNatClampNeg k.toNatClampNeg (defaultValue .int) (a := x) (by rw [hTh]; exact hx) i.toNatClampNeg
      rw [hF, hTh] at this
      exact this
    have hrow : ∀ j : Nat, j < i.toNatClampNeg → F.heap[H.size + 1 + j]? = some (vp_cell (G.2.1 0) (k.toNatClampNeg, .inl (fun _ => 0))) := fun j hj => by
      have := Jvm.Free.Multi.fill_inner (T.setVm vm₁) (G.2.1 4) (G.2.1 0) i.toNatClampNeg k.toNatClampNeg (defaultValue .int) i.toNatClampNeg j hj
      rw [hF, hTh] at this
      rw [this, vp_cell_i, ← arrV_new]
      rfl
    rw [gt_outer] at f2
    have hRn : gt_R G (n + 1 + i.toNatClampNeg) (gt_rows h n i.toNatClampNeg k.toNatClampNeg) F.heap := by
      refine ⟨fun q ob hq => ?_, by rw [f1, hR.2.1]; omega, fun q hq => ?_⟩
      · unfold gt_rows at hq
        by_cases q1 : q = n + 1
        · rw [if_pos q1] at hq
          cases hq
          subst q1
          refine ⟨by omega, by omega, ?_⟩
          have e : gt_ad G (n + 1) = H.size := by rw [hR.2.1]; rfl
          rw [e]
          show F.heap[H.size]? = some (vp_cell _ _)
          rw [f2, vp_cell_q]
          congr 2
          funext j
          by_cases hj : j < i.toNatClampNeg
          · simp only [if_pos hj, Option.map_some]
            show va_rf (some (H.size + 1 + j)) = va_rf (some (gt_ad G (n + 2 + j)))
            have e2 : gt_ad G (n + 2 + j) = H.size + 1 + j := by
              rw [hR.2.1, show n + 2 + j = (n + 1 + j) + 1 by omega]
              show gt_B G + (n + 1 + j) = _
              omega
            rw [e2]
          · simp only [if_neg hj, Option.map_none]
        · rw [if_neg q1] at hq
          by_cases q2 : n + 2 ≤ q ∧ q < n + 2 + i.toNatClampNeg
          · rw [if_pos q2] at hq
            cases hq
            refine ⟨by omega, by omega, ?_⟩
            obtain ⟨j, rfl⟩ : ∃ j, q = n + 2 + j := ⟨q - (n + 2), by omega⟩
            have e2 : gt_ad G (n + 2 + j) = H.size + 1 + j := by
              rw [hR.2.1, show n + 2 + j = (n + 1 + j) + 1 by omega]
              show gt_B G + (n + 1 + j) = _
              omega
            rw [e2]
            exact hrow j (by omega)
          · rw [if_neg q2] at hq
            obtain ⟨g1, g2, g3⟩ := hR.1 q ob hq
            exact ⟨g1, by omega, g3.kept (hold _ g3.lt)⟩
      · rw [hold q (by rw [hR.2.1]; exact Nat.lt_of_lt_of_le hq (Nat.le_add_right _ _))]
        exact hR.2.2 q hq
    have e9 := kk p e s m args below meth c F.heap locs ls X hRn hL hl
    rw [List.map_cons, gt_adS n hR] at e9
    obtain ⟨t, a1, b1⟩ := e9 F rfl X'
    refine ⟨t, step t ?_, b1⟩
    have e : T.heap.size = H.size := by rw [hT]
    rw [e]
    exact a1
/-- System.arraycopy between two int arrays -/
theorem ga_copy {idx a0 a n0 n1 : Nat} {f g : Nat → Int32} {sp dp k : Int32} (hl1 : Cond.methodLink own idx arraycopyName ∈ gt_tbl) (h2 : Cond.native arraycopyName ∈ gt_tbl ∧ Cond.static arraycopyName ∈ gt_tbl ∧ Cond.initialized "java/lang/System" ∈ gt_tbl) (ho0 : h a0 = some (oI n0 f)) (ho1 : h a = some (oI n1 g)) (h3 : ¬ sp < 0) (h4 : ¬ dp < 0) (h5 : ¬ k < 0) (h6 : sp.toNatClampNeg + k.toNatClampNeg ≤ n0) (h7 : dp.toNatClampNeg + k.toNatClampNeg ≤ n1) (hr : 1 ≤ R.frames ∧ 40 ≤ R.locals) (hs : (st.map fun v => v.category).sum ≤ 8) (hw : nativeFrameWords "java/lang/System" "arraycopy" 5 + 11 ≤ 32) (hd : decode cc pc = .ok (.invokestatic idx, 3))
    (kk : gt_A l G own nm cc mL rt R Z (n, uc, us) (pc + 3) lv st (gt_up h a (oI n1 (va_cpy f g sp.toNatClampNeg dp.toNatClampNeg k.toNatClampNeg)))) : gt_A l G own nm cc mL rt R Z (n, uc, us) pc lv (.int k :: .int dp :: .ref a :: .int sp :: .ref a0 :: st) h :=
  fun p e s m args below meth c H locs ls X hR hL hl => by
    have hts := X.2.2.2.2.2.2.2.1
    have hK := X.2.2.2.2.2.2.2.2.1
    have nn : ∀ z : Int32, ¬ z < 0 → z.toInt = (z.toNatClampNeg : Int) := fun z hz => by
      have hz0 : (0 : Int) ≤ z.toInt := by simpa using Int32.le_iff_toInt_le.mp (Int32.not_lt.mp hz)
      show z.toInt = ((z.toInt.toNat : Nat) : Int)
      omega
    have hc0 : H[gt_ad G a0]? = some (vp_cell (G.2.1 0) (n0, .inl f)) := (hR.1 a0 _ ho0).2.2
    have hc1 : H[gt_ad G a]? = some (vp_cell (G.2.1 0) (n1, .inl g)) := (hR.1 a _ ho1).2.2
    obtain ⟨-, k0, hk0, cm0, hkk0⟩ := (hK.2 0 _ rfl).1 n0 (fun j => .int (f j))
    obtain ⟨-, k1, hk1, cm1, hkk1⟩ := (hK.2 0 _ rfl).1 n1 (fun j => .int (g j))
    intro T hT Xs
    obtain ⟨vm', X', step⟩ := Xs.arraycopy X.1 X.2.2.2.2.2.1 (hts _ hl1) (hts _ h2.1) (hts _ h2.2.1) (hts _ h2.2.2) (src := gt_ad G a0) (dst := gt_ad G a) (cs := vp_cell (G.2.1 0) (n0, .inl f)) (cd := vp_cell (G.2.1 0) (n1, .inl g)) (srcPos := sp) (destPos := dp) (n := k) (by rw [hT]; exact hc0) (by rw [hT]; exact hc1)
      (fun _ h => by cases h) (fun _ h => by cases h) (fun h => by cases h) (fun h => by cases h) hk0 hk1 hkk0 hkk1 (by simp [refKind]) h3 h4 h5
      (by rw [nn sp h3, nn k h5]; show ¬ _ > ((arrV (G.2.1 0) n0 (fun j => .int (f j))).slots.size : Int); rw [arrV_size]; omega)
      (by rw [nn dp h4, nn k h5]; show ¬ _ > ((arrV (G.2.1 0) n1 (fun j => .int (g j))).slots.size : Int); rw [arrV_size]; omega)
      (fun vm₁ _ i hi => by
        have e : (vp_cell (G.2.1 0) (n0, .inl f)).slots.getD (sp.toNatClampNeg + i) .null = .int (f (sp.toNatClampNeg + i)) := by
          show (arrV (G.2.1 0) n0 (fun j => .int (f j))).slots.getD _ _ = _
          rw [Array.getD_eq_getD_getElem?, arrV_read _ _ (by omega)]
          rfl
        refine ⟨?_, ?_⟩
        · rw [e]; rfl
        · rw [e]; exact trivial)
      (g := F0 m pc ls (.int k :: .int dp :: .ref (gt_ad G a) :: .int sp :: .ref (gt_ad G a0) :: st.map (gt_v G))) rfl (by rw [X.2.2.1]; exact hl.1) (rest := st.map (gt_v G)) rfl (by rw [X.2.1]; exact hd) hr.1 (by have := hr.2; show 2 * 0 + _ + _ ≤ _; rw [gt_catsum]; omega)
    have e1 : copied (vp_cell (G.2.1 0) (n0, .inl f)) (vp_cell (G.2.1 0) (n1, .inl g)) sp dp k = vp_cell (G.2.1 0) (n1, .inl (va_cpy f g sp.toNatClampNeg dp.toNatClampNeg k.toNatClampNeg)) := va_copied (fun z => .int z) _ _ f g h6
    rw [e1] at X' step
    have hl2 : gt_ad G a < H.size := (Array.getElem?_eq_some_iff.mp hc1).1
    have oq : ∀ q : Nat, q ≠ gt_ad G a → (H.setIfInBounds (gt_ad G a) (vp_cell (G.2.1 0) (n1, .inl (va_cpy f g sp.toNatClampNeg dp.toNatClampNeg k.toNatClampNeg))))[q]? = H[q]? := fun q hq => by simp [Array.getElem?_setIfInBounds, Ne.symm hq]
    obtain ⟨t, a1, b1⟩ := kk p e s m args below meth c (H.setIfInBounds (gt_ad G a) (vp_cell (G.2.1 0) (n1, .inl (va_cpy f g sp.toNatClampNeg dp.toNatClampNeg k.toNatClampNeg)))) _ ls X (gt_R_up hR ho1 (by
        show (H.setIfInBounds (gt_ad G a) _)[gt_ad G a]? = some _
        simp [Array.getElem?_setIfInBounds, hl2]) (by simp) oq) (fun q hq => by
        rcases List.mem_append.mp hq with hq | hq
        · exact hL q hq
        · obtain ⟨z, -, hz⟩ := List.mem_map.mp hq
          rw [← hz]
          exact gt_ad_lt hR ho1) hl _ (by rw [← hT]; rfl) X'
    exact ⟨t, step t a1, b1⟩
end GN
end
section
theorem gt_inP {ws : List Cond} (ps : List Nat) (hp : ws = ps.filterMap (fun i => tables_1[i]?)) (hg : ws.all goodWord = true) : ∀ w ∈ ws, w ∈ gt_tbl := fun w hw => by
  have h1 := List.all_eq_true.mp hg w hw
  rw [hp] at hw
  obtain ⟨i, -, hi⟩ := List.mem_filterMap.mp hw
  exact gt_mem i hi h1
theorem kin_X0 : ∀ w ∈ u_ws RX0 TX0 11, w ∈ gt_tbl := gt_inP [102, 104, 106, 108, 110, 112, 114, 116, 118, 120, 122] (by decide +kernel) (by decide +kernel)
theorem kin_X1 : ∀ w ∈ u_ws RX1 TX1 1, w ∈ gt_tbl := gt_inP [191] (by decide +kernel) (by decide +kernel)
theorem kin_X2 : ∀ w ∈ u_ws RX2 TX2 3, w ∈ gt_tbl := gt_inP [287, 289, 291] (by decide +kernel) (by decide +kernel)
theorem kin_X3 : ∀ w ∈ u_ws RX3 TX3 11, w ∈ gt_tbl := gt_inP [214, 216, 218, 220, 222, 224, 226, 228, 230, 232, 234] (by decide +kernel) (by decide +kernel)
theorem kin_X4 : ∀ w ∈ u_ws RX4 TX4 3, w ∈ gt_tbl := gt_inP [174, 176, 178] (by decide +kernel) (by decide +kernel)
theorem kin_X5 : ∀ w ∈ u_ws RX5 TX5 6, w ∈ gt_tbl := gt_inP [252, 254, 256, 258, 260, 262] (by decide +kernel) (by decide +kernel)
theorem kin_X6 : ∀ w ∈ u_ws RX6 TX6 5, w ∈ gt_tbl := gt_inP [34, 36, 38, 40, 42] (by decide +kernel) (by decide +kernel)
theorem kin_X7 : ∀ w ∈ u_ws RX7 TX7 1, w ∈ gt_tbl := gt_inP [273] (by decide +kernel) (by decide +kernel)
theorem kin_X8 : ∀ w ∈ u_ws RX8 TX8 6, w ∈ gt_tbl := gt_inP [148, 150, 152, 154, 156, 158] (by decide +kernel) (by decide +kernel)
theorem kin_X9 : ∀ w ∈ u_ws RX9 TX9 12, w ∈ gt_tbl := gt_inP [306, 308, 310, 312, 314, 316, 318, 320, 322, 324, 326, 328] (by decide +kernel) (by decide +kernel)
theorem kin_X10 : ∀ w ∈ u_ws RX10 TX10 29, w ∈ gt_tbl := gt_inP [846, 848, 850, 852, 854, 856, 858, 860, 862, 864, 866, 868, 870, 872, 874, 876, 878, 880, 882, 884, 886, 888, 890, 892, 894, 896, 898, 900, 902] (by decide +kernel) (by decide +kernel)
theorem kf_X6_9 : gt_Fr RX6 9 6 0 := ⟨_, _, _, rfl, by decide, gt_mem 29 (by decide +kernel) rfl, kin_X6⟩
theorem kp_X6_9 : gt_F RX6 9 6 0 (.array .int) true := ⟨_, _, _, tyX6, rfl, by decide, gt_mem 29 (by decide +kernel) rfl, tyX6_ok 0 (by decide), rfl, kin_X6, tyX6_ok, nmX6, (fun _ => rfl)⟩
theorem kf_X6_19 : gt_Fr RX6 19 6 1 := ⟨_, _, _, rfl, by decide, gt_mem 30 (by decide +kernel) rfl, kin_X6⟩
theorem kp_X6_19 : gt_F RX6 19 6 1 .int false := ⟨_, _, _, tyX6, rfl, by decide, gt_mem 30 (by decide +kernel) rfl, tyX6_ok 1 (by decide), rfl, kin_X6, tyX6_ok, nmX6, (fun q => by cases q)⟩
theorem kf_X6_23 : gt_Fr RX6 23 6 2 := ⟨_, _, _, rfl, by decide, gt_mem 31 (by decide +kernel) rfl, kin_X6⟩
theorem kp_X6_23 : gt_F RX6 23 6 2 .int false := ⟨_, _, _, tyX6, rfl, by decide, gt_mem 31 (by decide +kernel) rfl, tyX6_ok 2 (by decide), rfl, kin_X6, tyX6_ok, nmX6, (fun q => by cases q)⟩
theorem kf_X6_26 : gt_Fr RX6 26 6 3 := ⟨_, _, _, rfl, by decide, gt_mem 32 (by decide +kernel) rfl, kin_X6⟩
theorem kp_X6_26 : gt_F RX6 26 6 3 .int false := ⟨_, _, _, tyX6, rfl, by decide, gt_mem 32 (by decide +kernel) rfl, tyX6_ok 3 (by decide), rfl, kin_X6, tyX6_ok, nmX6, (fun q => by cases q)⟩
theorem kf_X6_15 : gt_Fr RX6 15 6 4 := ⟨_, _, _, rfl, by decide, gt_mem 33 (by decide +kernel) rfl, kin_X6⟩
theorem kp_X6_15 : gt_F RX6 15 6 4 .int false := ⟨_, _, _, tyX6, rfl, by decide, gt_mem 33 (by decide +kernel) rfl, tyX6_ok 4 (by decide), rfl, kin_X6, tyX6_ok, nmX6, (fun q => by cases q)⟩
theorem kf_X0_33 : gt_Fr RX0 33 0 0 := ⟨_, _, _, rfl, by decide, gt_mem 52 (by decide +kernel) rfl, kin_X0⟩
theorem kp_X0_33 : gt_F RX0 33 0 0 .int false := ⟨_, _, _, tyX0, rfl, by decide, gt_mem 52 (by decide +kernel) rfl, tyX0_ok 0 (by decide), rfl, kin_X0, tyX0_ok, nmX0, (fun q => by cases q)⟩
theorem kf_X9_113 : gt_Fr RX9 113 0 0 := ⟨_, _, _, rfl, by decide, gt_mem 53 (by decide +kernel) rfl, kin_X0⟩
theorem kp_X9_113 : gt_F RX9 113 0 0 .int false := ⟨_, _, _, tyX0, rfl, by decide, gt_mem 53 (by decide +kernel) rfl, tyX0_ok 0 (by decide), rfl, kin_X0, tyX0_ok, nmX0, (fun q => by cases q)⟩
theorem kf_X7_61 : gt_Fr RX7 61 0 0 := ⟨_, _, _, rfl, by decide, gt_mem 54 (by decide +kernel) rfl, kin_X0⟩
theorem kp_X7_61 : gt_F RX7 61 0 0 .int false := ⟨_, _, _, tyX0, rfl, by decide, gt_mem 54 (by decide +kernel) rfl, tyX0_ok 0 (by decide), rfl, kin_X0, tyX0_ok, nmX0, (fun q => by cases q)⟩
theorem kf_X6_56 : gt_Fr RX6 56 0 0 := ⟨_, _, _, rfl, by decide, gt_mem 55 (by decide +kernel) rfl, kin_X0⟩
theorem kp_X6_56 : gt_F RX6 56 0 0 .int false := ⟨_, _, _, tyX0, rfl, by decide, gt_mem 55 (by decide +kernel) rfl, tyX0_ok 0 (by decide), rfl, kin_X0, tyX0_ok, nmX0, (fun q => by cases q)⟩
theorem kf_X8_107 : gt_Fr RX8 107 0 0 := ⟨_, _, _, rfl, by decide, gt_mem 56 (by decide +kernel) rfl, kin_X0⟩
theorem kp_X8_107 : gt_F RX8 107 0 0 .int false := ⟨_, _, _, tyX0, rfl, by decide, gt_mem 56 (by decide +kernel) rfl, tyX0_ok 0 (by decide), rfl, kin_X0, tyX0_ok, nmX0, (fun q => by cases q)⟩
theorem kf_X0_37 : gt_Fr RX0 37 0 1 := ⟨_, _, _, rfl, by decide, gt_mem 57 (by decide +kernel) rfl, kin_X0⟩
theorem kp_X0_37 : gt_F RX0 37 0 1 .int false := ⟨_, _, _, tyX0, rfl, by decide, gt_mem 57 (by decide +kernel) rfl, tyX0_ok 1 (by decide), rfl, kin_X0, tyX0_ok, nmX0, (fun q => by cases q)⟩
theorem kf_X5_52 : gt_Fr RX5 52 0 1 := ⟨_, _, _, rfl, by decide, gt_mem 58 (by decide +kernel) rfl, kin_X0⟩
theorem kp_X5_52 : gt_F RX5 52 0 1 .int false := ⟨_, _, _, tyX0, rfl, by decide, gt_mem 58 (by decide +kernel) rfl, tyX0_ok 1 (by decide), rfl, kin_X0, tyX0_ok, nmX0, (fun q => by cases q)⟩
theorem kf_X1_47 : gt_Fr RX1 47 0 1 := ⟨_, _, _, rfl, by decide, gt_mem 59 (by decide +kernel) rfl, kin_X0⟩
theorem kp_X1_47 : gt_F RX1 47 0 1 .int false := ⟨_, _, _, tyX0, rfl, by decide, gt_mem 59 (by decide +kernel) rfl, tyX0_ok 1 (by decide), rfl, kin_X0, tyX0_ok, nmX0, (fun q => by cases q)⟩
theorem kf_X9_116 : gt_Fr RX9 116 0 1 := ⟨_, _, _, rfl, by decide, gt_mem 60 (by decide +kernel) rfl, kin_X0⟩
theorem kp_X9_116 : gt_F RX9 116 0 1 .int false := ⟨_, _, _, tyX0, rfl, by decide, gt_mem 60 (by decide +kernel) rfl, tyX0_ok 1 (by decide), rfl, kin_X0, tyX0_ok, nmX0, (fun q => by cases q)⟩
theorem kf_X6_76 : gt_Fr RX6 76 0 1 := ⟨_, _, _, rfl, by decide, gt_mem 61 (by decide +kernel) rfl, kin_X0⟩
theorem kp_X6_76 : gt_F RX6 76 0 1 .int false := ⟨_, _, _, tyX0, rfl, by decide, gt_mem 61 (by decide +kernel) rfl, tyX0_ok 1 (by decide), rfl, kin_X0, tyX0_ok, nmX0, (fun q => by cases q)⟩
theorem kf_X8_85 : gt_Fr RX8 85 0 1 := ⟨_, _, _, rfl, by decide, gt_mem 62 (by decide +kernel) rfl, kin_X0⟩
theorem kp_X8_85 : gt_F RX8 85 0 1 .int false := ⟨_, _, _, tyX0, rfl, by decide, gt_mem 62 (by decide +kernel) rfl, tyX0_ok 1 (by decide), rfl, kin_X0, tyX0_ok, nmX0, (fun q => by cases q)⟩
theorem kf_X7_16 : gt_Fr RX7 16 0 2 := ⟨_, _, _, rfl, by decide, gt_mem 63 (by decide +kernel) rfl, kin_X0⟩
theorem kp_X7_16 : gt_F RX7 16 0 2 .int false := ⟨_, _, _, tyX0, rfl, by decide, gt_mem 63 (by decide +kernel) rfl, tyX0_ok 2 (by decide), rfl, kin_X0, tyX0_ok, nmX0, (fun q => by cases q)⟩
theorem kf_X0_40 : gt_Fr RX0 40 0 2 := ⟨_, _, _, rfl, by decide, gt_mem 64 (by decide +kernel) rfl, kin_X0⟩
theorem kp_X0_40 : gt_F RX0 40 0 2 .int false := ⟨_, _, _, tyX0, rfl, by decide, gt_mem 64 (by decide +kernel) rfl, tyX0_ok 2 (by decide), rfl, kin_X0, tyX0_ok, nmX0, (fun q => by cases q)⟩
theorem kf_X5_49 : gt_Fr RX5 49 0 2 := ⟨_, _, _, rfl, by decide, gt_mem 65 (by decide +kernel) rfl, kin_X0⟩
theorem kp_X5_49 : gt_F RX5 49 0 2 .int false := ⟨_, _, _, tyX0, rfl, by decide, gt_mem 65 (by decide +kernel) rfl, tyX0_ok 2 (by decide), rfl, kin_X0, tyX0_ok, nmX0, (fun q => by cases q)⟩
theorem kf_X1_24 : gt_Fr RX1 24 0 2 := ⟨_, _, _, rfl, by decide, gt_mem 66 (by decide +kernel) rfl, kin_X0⟩
theorem kp_X1_24 : gt_F RX1 24 0 2 .int false := ⟨_, _, _, tyX0, rfl, by decide, gt_mem 66 (by decide +kernel) rfl, tyX0_ok 2 (by decide), rfl, kin_X0, tyX0_ok, nmX0, (fun q => by cases q)⟩
theorem kf_X9_119 : gt_Fr RX9 119 0 2 := ⟨_, _, _, rfl, by decide, gt_mem 67 (by decide +kernel) rfl, kin_X0⟩
theorem kp_X9_119 : gt_F RX9 119 0 2 .int false := ⟨_, _, _, tyX0, rfl, by decide, gt_mem 67 (by decide +kernel) rfl, tyX0_ok 2 (by decide), rfl, kin_X0, tyX0_ok, nmX0, (fun q => by cases q)⟩
theorem kf_X8_51 : gt_Fr RX8 51 0 2 := ⟨_, _, _, rfl, by decide, gt_mem 68 (by decide +kernel) rfl, kin_X0⟩
theorem kp_X8_51 : gt_F RX8 51 0 2 .int false := ⟨_, _, _, tyX0, rfl, by decide, gt_mem 68 (by decide +kernel) rfl, tyX0_ok 2 (by decide), rfl, kin_X0, tyX0_ok, nmX0, (fun q => by cases q)⟩
theorem kf_X6_85 : gt_Fr RX6 85 0 2 := ⟨_, _, _, rfl, by decide, gt_mem 69 (by decide +kernel) rfl, kin_X0⟩
theorem kp_X6_85 : gt_F RX6 85 0 2 .int false := ⟨_, _, _, tyX0, rfl, by decide, gt_mem 69 (by decide +kernel) rfl, tyX0_ok 2 (by decide), rfl, kin_X0, tyX0_ok, nmX0, (fun q => by cases q)⟩
theorem kf_X0_43 : gt_Fr RX0 43 0 3 := ⟨_, _, _, rfl, by decide, gt_mem 70 (by decide +kernel) rfl, kin_X0⟩
theorem kp_X0_43 : gt_F RX0 43 0 3 .int false := ⟨_, _, _, tyX0, rfl, by decide, gt_mem 70 (by decide +kernel) rfl, tyX0_ok 3 (by decide), rfl, kin_X0, tyX0_ok, nmX0, (fun q => by cases q)⟩
theorem kf_X8_37 : gt_Fr RX8 37 0 3 := ⟨_, _, _, rfl, by decide, gt_mem 71 (by decide +kernel) rfl, kin_X0⟩
theorem kp_X8_37 : gt_F RX8 37 0 3 .int false := ⟨_, _, _, tyX0, rfl, by decide, gt_mem 71 (by decide +kernel) rfl, tyX0_ok 3 (by decide), rfl, kin_X0, tyX0_ok, nmX0, (fun q => by cases q)⟩
theorem kf_X9_122 : gt_Fr RX9 122 0 3 := ⟨_, _, _, rfl, by decide, gt_mem 72 (by decide +kernel) rfl, kin_X0⟩
theorem kp_X9_122 : gt_F RX9 122 0 3 .int false := ⟨_, _, _, tyX0, rfl, by decide, gt_mem 72 (by decide +kernel) rfl, tyX0_ok 3 (by decide), rfl, kin_X0, tyX0_ok, nmX0, (fun q => by cases q)⟩
theorem kf_X6_91 : gt_Fr RX6 91 0 3 := ⟨_, _, _, rfl, by decide, gt_mem 73 (by decide +kernel) rfl, kin_X0⟩
theorem kp_X6_91 : gt_F RX6 91 0 3 .int false := ⟨_, _, _, tyX0, rfl, by decide, gt_mem 73 (by decide +kernel) rfl, tyX0_ok 3 (by decide), rfl, kin_X0, tyX0_ok, nmX0, (fun q => by cases q)⟩
theorem kf_X0_9 : gt_Fr RX0 9 0 4 := ⟨_, _, _, rfl, by decide, gt_mem 74 (by decide +kernel) rfl, kin_X0⟩
theorem kp_X0_9 : gt_F RX0 9 0 4 (.array .int) true := ⟨_, _, _, tyX0, rfl, by decide, gt_mem 74 (by decide +kernel) rfl, tyX0_ok 4 (by decide), rfl, kin_X0, tyX0_ok, nmX0, (fun _ => rfl)⟩
theorem kf_X5_26 : gt_Fr RX5 26 0 4 := ⟨_, _, _, rfl, by decide, gt_mem 75 (by decide +kernel) rfl, kin_X0⟩
theorem kf_X6_49 : gt_Fr RX6 49 0 4 := ⟨_, _, _, rfl, by decide, gt_mem 76 (by decide +kernel) rfl, kin_X0⟩
theorem kf_X9_176 : gt_Fr RX9 176 0 4 := ⟨_, _, _, rfl, by decide, gt_mem 77 (by decide +kernel) rfl, kin_X0⟩
theorem kf_X8_104 : gt_Fr RX8 104 0 4 := ⟨_, _, _, rfl, by decide, gt_mem 78 (by decide +kernel) rfl, kin_X0⟩
theorem kf_X0_15 : gt_Fr RX0 15 0 5 := ⟨_, _, _, rfl, by decide, gt_mem 79 (by decide +kernel) rfl, kin_X0⟩
theorem kp_X0_15 : gt_F RX0 15 0 5 (.array .int) true := ⟨_, _, _, tyX0, rfl, by decide, gt_mem 79 (by decide +kernel) rfl, tyX0_ok 5 (by decide), rfl, kin_X0, tyX0_ok, nmX0, (fun _ => rfl)⟩
theorem kf_X9_193 : gt_Fr RX9 193 0 5 := ⟨_, _, _, rfl, by decide, gt_mem 80 (by decide +kernel) rfl, kin_X0⟩
theorem kf_X6_79 : gt_Fr RX6 79 0 5 := ⟨_, _, _, rfl, by decide, gt_mem 81 (by decide +kernel) rfl, kin_X0⟩
theorem kf_X0_18 : gt_Fr RX0 18 0 6 := ⟨_, _, _, rfl, by decide, gt_mem 82 (by decide +kernel) rfl, kin_X0⟩
theorem kp_X0_18 : gt_F RX0 18 0 6 (.array .int) true := ⟨_, _, _, tyX0, rfl, by decide, gt_mem 82 (by decide +kernel) rfl, tyX0_ok 6 (by decide), rfl, kin_X0, tyX0_ok, nmX0, (fun _ => rfl)⟩
theorem kf_X9_196 : gt_Fr RX9 196 0 6 := ⟨_, _, _, rfl, by decide, gt_mem 83 (by decide +kernel) rfl, kin_X0⟩
theorem kf_X6_82 : gt_Fr RX6 82 0 6 := ⟨_, _, _, rfl, by decide, gt_mem 84 (by decide +kernel) rfl, kin_X0⟩
theorem kf_X0_21 : gt_Fr RX0 21 0 7 := ⟨_, _, _, rfl, by decide, gt_mem 85 (by decide +kernel) rfl, kin_X0⟩
theorem kp_X0_21 : gt_F RX0 21 0 7 (.array .int) true := ⟨_, _, _, tyX0, rfl, by decide, gt_mem 85 (by decide +kernel) rfl, tyX0_ok 7 (by decide), rfl, kin_X0, tyX0_ok, nmX0, (fun _ => rfl)⟩
theorem kf_X5_98 : gt_Fr RX5 98 0 7 := ⟨_, _, _, rfl, by decide, gt_mem 86 (by decide +kernel) rfl, kin_X0⟩
theorem kf_X9_208 : gt_Fr RX9 208 0 7 := ⟨_, _, _, rfl, by decide, gt_mem 87 (by decide +kernel) rfl, kin_X0⟩
theorem kf_X6_88 : gt_Fr RX6 88 0 7 := ⟨_, _, _, rfl, by decide, gt_mem 88 (by decide +kernel) rfl, kin_X0⟩
theorem kf_X8_69 : gt_Fr RX8 69 0 7 := ⟨_, _, _, rfl, by decide, gt_mem 89 (by decide +kernel) rfl, kin_X0⟩
theorem kf_X0_24 : gt_Fr RX0 24 0 8 := ⟨_, _, _, rfl, by decide, gt_mem 90 (by decide +kernel) rfl, kin_X0⟩
theorem kp_X0_24 : gt_F RX0 24 0 8 (.array .int) true := ⟨_, _, _, tyX0, rfl, by decide, gt_mem 90 (by decide +kernel) rfl, tyX0_ok 8 (by decide), rfl, kin_X0, tyX0_ok, nmX0, (fun _ => rfl)⟩
theorem kf_X9_223 : gt_Fr RX9 223 0 8 := ⟨_, _, _, rfl, by decide, gt_mem 91 (by decide +kernel) rfl, kin_X0⟩
theorem kf_X6_94 : gt_Fr RX6 94 0 8 := ⟨_, _, _, rfl, by decide, gt_mem 92 (by decide +kernel) rfl, kin_X0⟩
theorem kf_X8_95 : gt_Fr RX8 95 0 8 := ⟨_, _, _, rfl, by decide, gt_mem 93 (by decide +kernel) rfl, kin_X0⟩
theorem kf_X0_27 : gt_Fr RX0 27 0 9 := ⟨_, _, _, rfl, by decide, gt_mem 94 (by decide +kernel) rfl, kin_X0⟩
theorem kp_X0_27 : gt_F RX0 27 0 9 (.array .int) true := ⟨_, _, _, tyX0, rfl, by decide, gt_mem 94 (by decide +kernel) rfl, tyX0_ok 9 (by decide), rfl, kin_X0, tyX0_ok, nmX0, (fun _ => rfl)⟩
theorem kf_X8_42 : gt_Fr RX8 42 0 9 := ⟨_, _, _, rfl, by decide, gt_mem 95 (by decide +kernel) rfl, kin_X0⟩
theorem kf_X9_229 : gt_Fr RX9 229 0 9 := ⟨_, _, _, rfl, by decide, gt_mem 96 (by decide +kernel) rfl, kin_X0⟩
theorem kf_X6_97 : gt_Fr RX6 97 0 9 := ⟨_, _, _, rfl, by decide, gt_mem 97 (by decide +kernel) rfl, kin_X0⟩
theorem kf_X0_30 : gt_Fr RX0 30 0 10 := ⟨_, _, _, rfl, by decide, gt_mem 98 (by decide +kernel) rfl, kin_X0⟩
theorem kp_X0_30 : gt_F RX0 30 0 10 (.array .int) true := ⟨_, _, _, tyX0, rfl, by decide, gt_mem 98 (by decide +kernel) rfl, tyX0_ok 10 (by decide), rfl, kin_X0, tyX0_ok, nmX0, (fun _ => rfl)⟩
theorem kf_X9_232 : gt_Fr RX9 232 0 10 := ⟨_, _, _, rfl, by decide, gt_mem 99 (by decide +kernel) rfl, kin_X0⟩
theorem kf_X6_100 : gt_Fr RX6 100 0 10 := ⟨_, _, _, rfl, by decide, gt_mem 100 (by decide +kernel) rfl, kin_X0⟩
theorem kf_X8_88 : gt_Fr RX8 88 0 10 := ⟨_, _, _, rfl, by decide, gt_mem 101 (by decide +kernel) rfl, kin_X0⟩
theorem kf_X8_24 : gt_Fr RX8 24 8 0 := ⟨_, _, _, rfl, by decide, gt_mem 131 (by decide +kernel) rfl, kin_X8⟩
theorem kp_X8_24 : gt_F RX8 24 8 0 .int false := ⟨_, _, _, tyX8, rfl, by decide, gt_mem 131 (by decide +kernel) rfl, tyX8_ok 0 (by decide), rfl, kin_X8, tyX8_ok, nmX8, (fun q => by cases q)⟩
theorem kf_X9_128 : gt_Fr RX9 128 8 0 := ⟨_, _, _, rfl, by decide, gt_mem 132 (by decide +kernel) rfl, kin_X8⟩
theorem kp_X9_128 : gt_F RX9 128 8 0 .int false := ⟨_, _, _, tyX8, rfl, by decide, gt_mem 132 (by decide +kernel) rfl, tyX8_ok 0 (by decide), rfl, kin_X8, tyX8_ok, nmX8, (fun q => by cases q)⟩
theorem kf_X8_28 : gt_Fr RX8 28 8 1 := ⟨_, _, _, rfl, by decide, gt_mem 133 (by decide +kernel) rfl, kin_X8⟩
theorem kp_X8_28 : gt_F RX8 28 8 1 .int false := ⟨_, _, _, tyX8, rfl, by decide, gt_mem 133 (by decide +kernel) rfl, tyX8_ok 1 (by decide), rfl, kin_X8, tyX8_ok, nmX8, (fun q => by cases q)⟩
theorem kf_X7_54 : gt_Fr RX7 54 8 1 := ⟨_, _, _, rfl, by decide, gt_mem 134 (by decide +kernel) rfl, kin_X8⟩
theorem kp_X7_54 : gt_F RX7 54 8 1 .int false := ⟨_, _, _, tyX8, rfl, by decide, gt_mem 134 (by decide +kernel) rfl, tyX8_ok 1 (by decide), rfl, kin_X8, tyX8_ok, nmX8, (fun q => by cases q)⟩
theorem kf_X9_149 : gt_Fr RX9 149 8 1 := ⟨_, _, _, rfl, by decide, gt_mem 135 (by decide +kernel) rfl, kin_X8⟩
theorem kp_X9_149 : gt_F RX9 149 8 1 .int false := ⟨_, _, _, tyX8, rfl, by decide, gt_mem 135 (by decide +kernel) rfl, tyX8_ok 1 (by decide), rfl, kin_X8, tyX8_ok, nmX8, (fun q => by cases q)⟩
theorem kf_X8_9 : gt_Fr RX8 9 8 2 := ⟨_, _, _, rfl, by decide, gt_mem 136 (by decide +kernel) rfl, kin_X8⟩
theorem kp_X8_9 : gt_F RX8 9 8 2 (.array .int) true := ⟨_, _, _, tyX8, rfl, by decide, gt_mem 136 (by decide +kernel) rfl, tyX8_ok 2 (by decide), rfl, kin_X8, tyX8_ok, nmX8, (fun _ => rfl)⟩
theorem kf_X5_65 : gt_Fr RX5 65 8 2 := ⟨_, _, _, rfl, by decide, gt_mem 137 (by decide +kernel) rfl, kin_X8⟩
theorem kf_X9_199 : gt_Fr RX9 199 8 2 := ⟨_, _, _, rfl, by decide, gt_mem 138 (by decide +kernel) rfl, kin_X8⟩
theorem kf_X8_15 : gt_Fr RX8 15 8 3 := ⟨_, _, _, rfl, by decide, gt_mem 139 (by decide +kernel) rfl, kin_X8⟩
theorem kp_X8_15 : gt_F RX8 15 8 3 (.array .int) true := ⟨_, _, _, tyX8, rfl, by decide, gt_mem 139 (by decide +kernel) rfl, tyX8_ok 3 (by decide), rfl, kin_X8, tyX8_ok, nmX8, (fun _ => rfl)⟩
theorem kf_X7_22 : gt_Fr RX7 22 8 3 := ⟨_, _, _, rfl, by decide, gt_mem 140 (by decide +kernel) rfl, kin_X8⟩
theorem kf_X1_39 : gt_Fr RX1 39 8 3 := ⟨_, _, _, rfl, by decide, gt_mem 141 (by decide +kernel) rfl, kin_X8⟩
theorem kf_X9_214 : gt_Fr RX9 214 8 3 := ⟨_, _, _, rfl, by decide, gt_mem 142 (by decide +kernel) rfl, kin_X8⟩
theorem kf_X8_18 : gt_Fr RX8 18 8 4 := ⟨_, _, _, rfl, by decide, gt_mem 143 (by decide +kernel) rfl, kin_X8⟩
theorem kp_X8_18 : gt_F RX8 18 8 4 (.array .int) true := ⟨_, _, _, tyX8, rfl, by decide, gt_mem 143 (by decide +kernel) rfl, tyX8_ok 4 (by decide), rfl, kin_X8, tyX8_ok, nmX8, (fun _ => rfl)⟩
theorem kf_X5_101 : gt_Fr RX5 101 8 4 := ⟨_, _, _, rfl, by decide, gt_mem 144 (by decide +kernel) rfl, kin_X8⟩
theorem kf_X9_211 : gt_Fr RX9 211 8 4 := ⟨_, _, _, rfl, by decide, gt_mem 145 (by decide +kernel) rfl, kin_X8⟩
theorem kf_X8_21 : gt_Fr RX8 21 8 5 := ⟨_, _, _, rfl, by decide, gt_mem 146 (by decide +kernel) rfl, kin_X8⟩
theorem kp_X8_21 : gt_F RX8 21 8 5 (.array .int) true := ⟨_, _, _, tyX8, rfl, by decide, gt_mem 146 (by decide +kernel) rfl, tyX8_ok 5 (by decide), rfl, kin_X8, tyX8_ok, nmX8, (fun _ => rfl)⟩
theorem kf_X9_226 : gt_Fr RX9 226 8 5 := ⟨_, _, _, rfl, by decide, gt_mem 147 (by decide +kernel) rfl, kin_X8⟩
theorem kf_X4_11 : gt_Fr RX4 11 4 0 := ⟨_, _, _, rfl, by decide, gt_mem 170 (by decide +kernel) rfl, kin_X4⟩
theorem kp_X4_11 : gt_F RX4 11 4 0 (.array (.object "GurdyTide$State")) true := ⟨_, _, _, tyX4, rfl, by decide, gt_mem 170 (by decide +kernel) rfl, tyX4_ok 0 (by decide), rfl, kin_X4, tyX4_ok, nmX4, (fun _ => rfl)⟩
theorem kf_X4_18 : gt_Fr RX4 18 4 1 := ⟨_, _, _, rfl, by decide, gt_mem 171 (by decide +kernel) rfl, kin_X4⟩
theorem kp_X4_18 : gt_F RX4 18 4 1 .int false := ⟨_, _, _, tyX4, rfl, by decide, gt_mem 171 (by decide +kernel) rfl, tyX4_ok 1 (by decide), rfl, kin_X4, tyX4_ok, nmX4, (fun q => by cases q)⟩
theorem kf_X4_26 : gt_Fr RX4 26 4 2 := ⟨_, _, _, rfl, by decide, gt_mem 172 (by decide +kernel) rfl, kin_X4⟩
theorem kp_X4_26 : gt_F RX4 26 4 2 .int false := ⟨_, _, _, tyX4, rfl, by decide, gt_mem 172 (by decide +kernel) rfl, tyX4_ok 2 (by decide), rfl, kin_X4, tyX4_ok, nmX4, (fun q => by cases q)⟩
theorem kf_X9_168 : gt_Fr RX9 168 4 2 := ⟨_, _, _, rfl, by decide, gt_mem 173 (by decide +kernel) rfl, kin_X4⟩
theorem kp_X9_168 : gt_F RX9 168 4 2 .int false := ⟨_, _, _, tyX4, rfl, by decide, gt_mem 173 (by decide +kernel) rfl, tyX4_ok 2 (by decide), rfl, kin_X4, tyX4_ok, nmX4, (fun q => by cases q)⟩
theorem kf_X1_9 : gt_Fr RX1 9 1 0 := ⟨_, _, _, rfl, by decide, gt_mem 189 (by decide +kernel) rfl, kin_X1⟩
theorem kp_X1_9 : gt_F RX1 9 1 0 .int false := ⟨_, _, _, tyX1, rfl, by decide, gt_mem 189 (by decide +kernel) rfl, tyX1_ok 0 (by decide), rfl, kin_X1, tyX1_ok, nmX1, (fun q => by cases q)⟩
theorem kf_X9_303 : gt_Fr RX9 303 1 0 := ⟨_, _, _, rfl, by decide, gt_mem 190 (by decide +kernel) rfl, kin_X1⟩
theorem kp_X9_303 : gt_F RX9 303 1 0 .int false := ⟨_, _, _, tyX1, rfl, by decide, gt_mem 190 (by decide +kernel) rfl, tyX1_ok 0 (by decide), rfl, kin_X1, tyX1_ok, nmX1, (fun q => by cases q)⟩
theorem kf_X3_36 : gt_Fr RX3 36 3 0 := ⟨_, _, _, rfl, by decide, gt_mem 200 (by decide +kernel) rfl, kin_X3⟩
theorem kp_X3_36 : gt_F RX3 36 3 0 .int false := ⟨_, _, _, tyX3, rfl, by decide, gt_mem 200 (by decide +kernel) rfl, tyX3_ok 0 (by decide), rfl, kin_X3, tyX3_ok, nmX3, (fun q => by cases q)⟩
theorem kf_X9_152 : gt_Fr RX9 152 3 0 := ⟨_, _, _, rfl, by decide, gt_mem 201 (by decide +kernel) rfl, kin_X3⟩
theorem kp_X9_152 : gt_F RX9 152 3 0 .int false := ⟨_, _, _, tyX3, rfl, by decide, gt_mem 201 (by decide +kernel) rfl, tyX3_ok 0 (by decide), rfl, kin_X3, tyX3_ok, nmX3, (fun q => by cases q)⟩
theorem kf_X3_40 : gt_Fr RX3 40 3 1 := ⟨_, _, _, rfl, by decide, gt_mem 202 (by decide +kernel) rfl, kin_X3⟩
theorem kp_X3_40 : gt_F RX3 40 3 1 .int false := ⟨_, _, _, tyX3, rfl, by decide, gt_mem 202 (by decide +kernel) rfl, tyX3_ok 1 (by decide), rfl, kin_X3, tyX3_ok, nmX3, (fun q => by cases q)⟩
theorem kf_X9_159 : gt_Fr RX9 159 3 1 := ⟨_, _, _, rfl, by decide, gt_mem 203 (by decide +kernel) rfl, kin_X3⟩
theorem kp_X9_159 : gt_F RX9 159 3 1 .int false := ⟨_, _, _, tyX3, rfl, by decide, gt_mem 203 (by decide +kernel) rfl, tyX3_ok 1 (by decide), rfl, kin_X3, tyX3_ok, nmX3, (fun q => by cases q)⟩
theorem kf_X3_43 : gt_Fr RX3 43 3 2 := ⟨_, _, _, rfl, by decide, gt_mem 204 (by decide +kernel) rfl, kin_X3⟩
theorem kp_X3_43 : gt_F RX3 43 3 2 .int false := ⟨_, _, _, tyX3, rfl, by decide, gt_mem 204 (by decide +kernel) rfl, tyX3_ok 2 (by decide), rfl, kin_X3, tyX3_ok, nmX3, (fun q => by cases q)⟩
theorem kf_X9_165 : gt_Fr RX9 165 3 2 := ⟨_, _, _, rfl, by decide, gt_mem 205 (by decide +kernel) rfl, kin_X3⟩
theorem kp_X9_165 : gt_F RX9 165 3 2 .int false := ⟨_, _, _, tyX3, rfl, by decide, gt_mem 205 (by decide +kernel) rfl, tyX3_ok 2 (by decide), rfl, kin_X3, tyX3_ok, nmX3, (fun q => by cases q)⟩
theorem kf_X3_9 : gt_Fr RX3 9 3 3 := ⟨_, _, _, rfl, by decide, gt_mem 206 (by decide +kernel) rfl, kin_X3⟩
theorem kp_X3_9 : gt_F RX3 9 3 3 (.array .int) true := ⟨_, _, _, tyX3, rfl, by decide, gt_mem 206 (by decide +kernel) rfl, tyX3_ok 3 (by decide), rfl, kin_X3, tyX3_ok, nmX3, (fun _ => rfl)⟩
theorem kf_X3_15 : gt_Fr RX3 15 3 4 := ⟨_, _, _, rfl, by decide, gt_mem 207 (by decide +kernel) rfl, kin_X3⟩
theorem kp_X3_15 : gt_F RX3 15 3 4 (.array .int) true := ⟨_, _, _, tyX3, rfl, by decide, gt_mem 207 (by decide +kernel) rfl, tyX3_ok 4 (by decide), rfl, kin_X3, tyX3_ok, nmX3, (fun _ => rfl)⟩
theorem kf_X3_18 : gt_Fr RX3 18 3 5 := ⟨_, _, _, rfl, by decide, gt_mem 208 (by decide +kernel) rfl, kin_X3⟩
theorem kp_X3_18 : gt_F RX3 18 3 5 (.array .int) true := ⟨_, _, _, tyX3, rfl, by decide, gt_mem 208 (by decide +kernel) rfl, tyX3_ok 5 (by decide), rfl, kin_X3, tyX3_ok, nmX3, (fun _ => rfl)⟩
theorem kf_X3_21 : gt_Fr RX3 21 3 6 := ⟨_, _, _, rfl, by decide, gt_mem 209 (by decide +kernel) rfl, kin_X3⟩
theorem kp_X3_21 : gt_F RX3 21 3 6 (.array .int) true := ⟨_, _, _, tyX3, rfl, by decide, gt_mem 209 (by decide +kernel) rfl, tyX3_ok 6 (by decide), rfl, kin_X3, tyX3_ok, nmX3, (fun _ => rfl)⟩
theorem kf_X3_24 : gt_Fr RX3 24 3 7 := ⟨_, _, _, rfl, by decide, gt_mem 210 (by decide +kernel) rfl, kin_X3⟩
theorem kp_X3_24 : gt_F RX3 24 3 7 (.array .int) true := ⟨_, _, _, tyX3, rfl, by decide, gt_mem 210 (by decide +kernel) rfl, tyX3_ok 7 (by decide), rfl, kin_X3, tyX3_ok, nmX3, (fun _ => rfl)⟩
theorem kf_X3_27 : gt_Fr RX3 27 3 8 := ⟨_, _, _, rfl, by decide, gt_mem 211 (by decide +kernel) rfl, kin_X3⟩
theorem kp_X3_27 : gt_F RX3 27 3 8 (.array .int) true := ⟨_, _, _, tyX3, rfl, by decide, gt_mem 211 (by decide +kernel) rfl, tyX3_ok 8 (by decide), rfl, kin_X3, tyX3_ok, nmX3, (fun _ => rfl)⟩
theorem kf_X3_30 : gt_Fr RX3 30 3 9 := ⟨_, _, _, rfl, by decide, gt_mem 212 (by decide +kernel) rfl, kin_X3⟩
theorem kp_X3_30 : gt_F RX3 30 3 9 (.array .int) true := ⟨_, _, _, tyX3, rfl, by decide, gt_mem 212 (by decide +kernel) rfl, tyX3_ok 9 (by decide), rfl, kin_X3, tyX3_ok, nmX3, (fun _ => rfl)⟩
theorem kf_X3_33 : gt_Fr RX3 33 3 10 := ⟨_, _, _, rfl, by decide, gt_mem 213 (by decide +kernel) rfl, kin_X3⟩
theorem kp_X3_33 : gt_F RX3 33 3 10 (.array .int) true := ⟨_, _, _, tyX3, rfl, by decide, gt_mem 213 (by decide +kernel) rfl, tyX3_ok 10 (by decide), rfl, kin_X3, tyX3_ok, nmX3, (fun _ => rfl)⟩
theorem kf_X5_9 : gt_Fr RX5 9 5 0 := ⟨_, _, _, rfl, by decide, gt_mem 245 (by decide +kernel) rfl, kin_X5⟩
theorem kp_X5_9 : gt_F RX5 9 5 0 (.array .int) true := ⟨_, _, _, tyX5, rfl, by decide, gt_mem 245 (by decide +kernel) rfl, tyX5_ok 0 (by decide), rfl, kin_X5, tyX5_ok, nmX5, (fun _ => rfl)⟩
theorem kf_X9_271 : gt_Fr RX9 271 5 0 := ⟨_, _, _, rfl, by decide, gt_mem 246 (by decide +kernel) rfl, kin_X5⟩
theorem kf_X5_15 : gt_Fr RX5 15 5 1 := ⟨_, _, _, rfl, by decide, gt_mem 247 (by decide +kernel) rfl, kin_X5⟩
theorem kp_X5_15 : gt_F RX5 15 5 1 (.array .int) true := ⟨_, _, _, tyX5, rfl, by decide, gt_mem 247 (by decide +kernel) rfl, tyX5_ok 1 (by decide), rfl, kin_X5, tyX5_ok, nmX5, (fun _ => rfl)⟩
theorem kf_X5_20 : gt_Fr RX5 20 5 2 := ⟨_, _, _, rfl, by decide, gt_mem 248 (by decide +kernel) rfl, kin_X5⟩
theorem kp_X5_20 : gt_F RX5 20 5 2 (.array (.array .int)) true := ⟨_, _, _, tyX5, rfl, by decide, gt_mem 248 (by decide +kernel) rfl, tyX5_ok 2 (by decide), rfl, kin_X5, tyX5_ok, nmX5, (fun _ => rfl)⟩
theorem kf_X5_23 : gt_Fr RX5 23 5 3 := ⟨_, _, _, rfl, by decide, gt_mem 249 (by decide +kernel) rfl, kin_X5⟩
theorem kp_X5_23 : gt_F RX5 23 5 3 (.array (.array .int)) true := ⟨_, _, _, tyX5, rfl, by decide, gt_mem 249 (by decide +kernel) rfl, tyX5_ok 3 (by decide), rfl, kin_X5, tyX5_ok, nmX5, (fun _ => rfl)⟩
theorem kf_X5_46 : gt_Fr RX5 46 5 4 := ⟨_, _, _, rfl, by decide, gt_mem 250 (by decide +kernel) rfl, kin_X5⟩
theorem kp_X5_46 : gt_F RX5 46 5 4 .int false := ⟨_, _, _, tyX5, rfl, by decide, gt_mem 250 (by decide +kernel) rfl, tyX5_ok 4 (by decide), rfl, kin_X5, tyX5_ok, nmX5, (fun q => by cases q)⟩
theorem kf_X5_35 : gt_Fr RX5 35 5 5 := ⟨_, _, _, rfl, by decide, gt_mem 251 (by decide +kernel) rfl, kin_X5⟩
theorem kp_X5_35 : gt_F RX5 35 5 5 .int false := ⟨_, _, _, tyX5, rfl, by decide, gt_mem 251 (by decide +kernel) rfl, tyX5_ok 5 (by decide), rfl, kin_X5, tyX5_ok, nmX5, (fun q => by cases q)⟩
theorem kf_X7_11 : gt_Fr RX7 11 7 0 := ⟨_, _, _, rfl, by decide, gt_mem 272 (by decide +kernel) rfl, kin_X7⟩
theorem kp_X7_11 : gt_F RX7 11 7 0 (.array (.array .int)) true := ⟨_, _, _, tyX7, rfl, by decide, gt_mem 272 (by decide +kernel) rfl, tyX7_ok 0 (by decide), rfl, kin_X7, tyX7_ok, nmX7, (fun _ => rfl)⟩
theorem kf_X2_10 : gt_Fr RX2 10 2 0 := ⟨_, _, _, rfl, by decide, gt_mem 283 (by decide +kernel) rfl, kin_X2⟩
theorem kp_X2_10 : gt_F RX2 10 2 0 (.object "GurdyTide$State") true := ⟨_, _, _, tyX2, rfl, by decide, gt_mem 283 (by decide +kernel) rfl, tyX2_ok 0 (by decide), rfl, kin_X2, tyX2_ok, nmX2, (fun _ => rfl)⟩
theorem kf_X9_306 : gt_Fr RX9 306 2 0 := ⟨_, _, _, rfl, by decide, gt_mem 284 (by decide +kernel) rfl, kin_X2⟩
theorem kf_X9_309 : gt_Fr RX9 309 2 1 := ⟨_, _, _, rfl, by decide, gt_mem 285 (by decide +kernel) rfl, kin_X2⟩
theorem kp_X9_309 : gt_F RX9 309 2 1 .int false := ⟨_, _, _, tyX2, rfl, by decide, gt_mem 285 (by decide +kernel) rfl, tyX2_ok 1 (by decide), rfl, kin_X2, tyX2_ok, nmX2, (fun q => by cases q)⟩
theorem kf_X9_109 : gt_Fr RX9 109 2 2 := ⟨_, _, _, rfl, by decide, gt_mem 286 (by decide +kernel) rfl, kin_X2⟩
theorem kp_X9_109 : gt_F RX9 109 2 2 .boolean false := ⟨_, _, _, tyX2, rfl, by decide, gt_mem 286 (by decide +kernel) rfl, tyX2_ok 2 (by decide), rfl, kin_X2, tyX2_ok, nmX2, (fun q => by cases q)⟩
theorem kf_X9_10 : gt_Fr RX9 10 9 0 := ⟨_, _, _, rfl, by decide, gt_mem 294 (by decide +kernel) rfl, kin_X9⟩
theorem kp_X9_10 : gt_F RX9 10 9 0 (.object "GurdyTide$Reader") true := ⟨_, _, _, tyX9, rfl, by decide, gt_mem 294 (by decide +kernel) rfl, tyX9_ok 0 (by decide), rfl, kin_X9, tyX9_ok, nmX9, (fun _ => rfl)⟩
theorem kf_X9_19 : gt_Fr RX9 19 9 1 := ⟨_, _, _, rfl, by decide, gt_mem 295 (by decide +kernel) rfl, kin_X9⟩
theorem kp_X9_19 : gt_F RX9 19 9 1 (.object "GurdyTide$Coast") false := ⟨_, _, _, tyX9, rfl, by decide, gt_mem 295 (by decide +kernel) rfl, tyX9_ok 1 (by decide), rfl, kin_X9, tyX9_ok, nmX9, (fun q => by cases q)⟩
theorem kf_X9_23 : gt_Fr RX9 23 9 2 := ⟨_, _, _, rfl, by decide, gt_mem 296 (by decide +kernel) rfl, kin_X9⟩
theorem kp_X9_23 : gt_F RX9 23 9 2 (.object "GurdyTide$Coast") false := ⟨_, _, _, tyX9, rfl, by decide, gt_mem 296 (by decide +kernel) rfl, tyX9_ok 2 (by decide), rfl, kin_X9, tyX9_ok, nmX9, (fun q => by cases q)⟩
theorem kf_X9_29 : gt_Fr RX9 29 9 3 := ⟨_, _, _, rfl, by decide, gt_mem 297 (by decide +kernel) rfl, kin_X9⟩
theorem kp_X9_29 : gt_F RX9 29 9 3 (.object "GurdyTide$State") true := ⟨_, _, _, tyX9, rfl, by decide, gt_mem 297 (by decide +kernel) rfl, tyX9_ok 3 (by decide), rfl, kin_X9, tyX9_ok, nmX9, (fun _ => rfl)⟩
theorem kf_X9_33 : gt_Fr RX9 33 9 4 := ⟨_, _, _, rfl, by decide, gt_mem 298 (by decide +kernel) rfl, kin_X9⟩
theorem kp_X9_33 : gt_F RX9 33 9 4 (.object "GurdyTide$State") true := ⟨_, _, _, tyX9, rfl, by decide, gt_mem 298 (by decide +kernel) rfl, tyX9_ok 4 (by decide), rfl, kin_X9, tyX9_ok, nmX9, (fun _ => rfl)⟩
theorem kf_X9_39 : gt_Fr RX9 39 9 5 := ⟨_, _, _, rfl, by decide, gt_mem 299 (by decide +kernel) rfl, kin_X9⟩
theorem kp_X9_39 : gt_F RX9 39 9 5 (.object "GurdyTide$Past") true := ⟨_, _, _, tyX9, rfl, by decide, gt_mem 299 (by decide +kernel) rfl, tyX9_ok 5 (by decide), rfl, kin_X9, tyX9_ok, nmX9, (fun _ => rfl)⟩
theorem kf_X9_45 : gt_Fr RX9 45 9 6 := ⟨_, _, _, rfl, by decide, gt_mem 300 (by decide +kernel) rfl, kin_X9⟩
theorem kp_X9_45 : gt_F RX9 45 9 6 (.array (.object "GurdyTide$Image")) true := ⟨_, _, _, tyX9, rfl, by decide, gt_mem 300 (by decide +kernel) rfl, tyX9_ok 6 (by decide), rfl, kin_X9, tyX9_ok, nmX9, (fun _ => rfl)⟩
theorem kf_X9_52 : gt_Fr RX9 52 9 7 := ⟨_, _, _, rfl, by decide, gt_mem 301 (by decide +kernel) rfl, kin_X9⟩
theorem kp_X9_52 : gt_F RX9 52 9 7 (.object "GurdyTide$Draws") true := ⟨_, _, _, tyX9, rfl, by decide, gt_mem 301 (by decide +kernel) rfl, tyX9_ok 7 (by decide), rfl, kin_X9, tyX9_ok, nmX9, (fun _ => rfl)⟩
theorem kf_X9_59 : gt_Fr RX9 59 9 8 := ⟨_, _, _, rfl, by decide, gt_mem 302 (by decide +kernel) rfl, kin_X9⟩
theorem kp_X9_59 : gt_F RX9 59 9 8 (.object "GurdyTide$Notes") true := ⟨_, _, _, tyX9, rfl, by decide, gt_mem 302 (by decide +kernel) rfl, tyX9_ok 8 (by decide), rfl, kin_X9, tyX9_ok, nmX9, (fun _ => rfl)⟩
theorem kf_X9_66 : gt_Fr RX9 66 9 9 := ⟨_, _, _, rfl, by decide, gt_mem 303 (by decide +kernel) rfl, kin_X9⟩
theorem kp_X9_66 : gt_F RX9 66 9 9 (.object "GurdyTide$Plan") true := ⟨_, _, _, tyX9, rfl, by decide, gt_mem 303 (by decide +kernel) rfl, tyX9_ok 9 (by decide), rfl, kin_X9, tyX9_ok, nmX9, (fun _ => rfl)⟩
theorem kf_X9_73 : gt_Fr RX9 73 9 10 := ⟨_, _, _, rfl, by decide, gt_mem 304 (by decide +kernel) rfl, kin_X9⟩
theorem kp_X9_73 : gt_F RX9 73 9 10 (.object "GurdyTide$Sleepers") true := ⟨_, _, _, tyX9, rfl, by decide, gt_mem 304 (by decide +kernel) rfl, tyX9_ok 10 (by decide), rfl, kin_X9, tyX9_ok, nmX9, (fun _ => rfl)⟩
theorem kf_X9_77 : gt_Fr RX9 77 9 11 := ⟨_, _, _, rfl, by decide, gt_mem 305 (by decide +kernel) rfl, kin_X9⟩
theorem kp_X9_77 : gt_F RX9 77 9 11 .int false := ⟨_, _, _, tyX9, rfl, by decide, gt_mem 305 (by decide +kernel) rfl, tyX9_ok 11 (by decide), rfl, kin_X9, tyX9_ok, nmX9, (fun q => by cases q)⟩
theorem kf_X10_7 : gt_Fr RX10 7 10 0 := ⟨_, _, _, rfl, by decide, gt_mem 817 (by decide +kernel) rfl, kin_X10⟩
theorem kp_X10_7 : gt_F RX10 7 10 0 (.array .int) true := ⟨_, _, _, tyX10, rfl, by decide, gt_mem 817 (by decide +kernel) rfl, tyX10_ok 0 (by decide), rfl, kin_X10, tyX10_ok, nmX10, (fun _ => rfl)⟩
theorem kf_X10_13 : gt_Fr RX10 13 10 1 := ⟨_, _, _, rfl, by decide, gt_mem 818 (by decide +kernel) rfl, kin_X10⟩
theorem kp_X10_13 : gt_F RX10 13 10 1 (.array .int) true := ⟨_, _, _, tyX10, rfl, by decide, gt_mem 818 (by decide +kernel) rfl, tyX10_ok 1 (by decide), rfl, kin_X10, tyX10_ok, nmX10, (fun _ => rfl)⟩
theorem kf_X10_16 : gt_Fr RX10 16 10 2 := ⟨_, _, _, rfl, by decide, gt_mem 819 (by decide +kernel) rfl, kin_X10⟩
theorem kp_X10_16 : gt_F RX10 16 10 2 (.array .int) true := ⟨_, _, _, tyX10, rfl, by decide, gt_mem 819 (by decide +kernel) rfl, tyX10_ok 2 (by decide), rfl, kin_X10, tyX10_ok, nmX10, (fun _ => rfl)⟩
theorem kf_X10_19 : gt_Fr RX10 19 10 3 := ⟨_, _, _, rfl, by decide, gt_mem 820 (by decide +kernel) rfl, kin_X10⟩
theorem kp_X10_19 : gt_F RX10 19 10 3 (.array .int) true := ⟨_, _, _, tyX10, rfl, by decide, gt_mem 820 (by decide +kernel) rfl, tyX10_ok 3 (by decide), rfl, kin_X10, tyX10_ok, nmX10, (fun _ => rfl)⟩
theorem kf_X10_22 : gt_Fr RX10 22 10 4 := ⟨_, _, _, rfl, by decide, gt_mem 821 (by decide +kernel) rfl, kin_X10⟩
theorem kp_X10_22 : gt_F RX10 22 10 4 (.array .int) true := ⟨_, _, _, tyX10, rfl, by decide, gt_mem 821 (by decide +kernel) rfl, tyX10_ok 4 (by decide), rfl, kin_X10, tyX10_ok, nmX10, (fun _ => rfl)⟩
theorem kf_X10_72 : gt_Fr RX10 72 10 5 := ⟨_, _, _, rfl, by decide, gt_mem 822 (by decide +kernel) rfl, kin_X10⟩
theorem kp_X10_72 : gt_F RX10 72 10 5 .int false := ⟨_, _, _, tyX10, rfl, by decide, gt_mem 822 (by decide +kernel) rfl, tyX10_ok 5 (by decide), rfl, kin_X10, tyX10_ok, nmX10, (fun q => by cases q)⟩
theorem kf_X10_25 : gt_Fr RX10 25 10 6 := ⟨_, _, _, rfl, by decide, gt_mem 823 (by decide +kernel) rfl, kin_X10⟩
theorem kp_X10_25 : gt_F RX10 25 10 6 (.array .int) true := ⟨_, _, _, tyX10, rfl, by decide, gt_mem 823 (by decide +kernel) rfl, tyX10_ok 6 (by decide), rfl, kin_X10, tyX10_ok, nmX10, (fun _ => rfl)⟩
theorem kf_X10_28 : gt_Fr RX10 28 10 7 := ⟨_, _, _, rfl, by decide, gt_mem 824 (by decide +kernel) rfl, kin_X10⟩
theorem kp_X10_28 : gt_F RX10 28 10 7 (.array .boolean) true := ⟨_, _, _, tyX10, rfl, by decide, gt_mem 824 (by decide +kernel) rfl, tyX10_ok 7 (by decide), rfl, kin_X10, tyX10_ok, nmX10, (fun _ => rfl)⟩
theorem kf_X10_237 : gt_Fr RX10 237 10 8 := ⟨_, _, _, rfl, by decide, gt_mem 825 (by decide +kernel) rfl, kin_X10⟩
theorem kp_X10_237 : gt_F RX10 237 10 8 .long false := ⟨_, _, _, tyX10, rfl, by decide, gt_mem 825 (by decide +kernel) rfl, tyX10_ok 8 (by decide), rfl, kin_X10, tyX10_ok, nmX10, (fun q => by cases q)⟩
theorem kf_X10_32 : gt_Fr RX10 32 10 9 := ⟨_, _, _, rfl, by decide, gt_mem 826 (by decide +kernel) rfl, kin_X10⟩
theorem kp_X10_32 : gt_F RX10 32 10 9 (.array .int) true := ⟨_, _, _, tyX10, rfl, by decide, gt_mem 826 (by decide +kernel) rfl, tyX10_ok 9 (by decide), rfl, kin_X10, tyX10_ok, nmX10, (fun _ => rfl)⟩
theorem kf_X10_87 : gt_Fr RX10 87 10 10 := ⟨_, _, _, rfl, by decide, gt_mem 827 (by decide +kernel) rfl, kin_X10⟩
theorem kp_X10_87 : gt_F RX10 87 10 10 .int false := ⟨_, _, _, tyX10, rfl, by decide, gt_mem 827 (by decide +kernel) rfl, tyX10_ok 10 (by decide), rfl, kin_X10, tyX10_ok, nmX10, (fun q => by cases q)⟩
theorem kf_X10_35 : gt_Fr RX10 35 10 11 := ⟨_, _, _, rfl, by decide, gt_mem 828 (by decide +kernel) rfl, kin_X10⟩
theorem kp_X10_35 : gt_F RX10 35 10 11 .int false := ⟨_, _, _, tyX10, rfl, by decide, gt_mem 828 (by decide +kernel) rfl, tyX10_ok 11 (by decide), rfl, kin_X10, tyX10_ok, nmX10, (fun q => by cases q)⟩
theorem kf_X10_39 : gt_Fr RX10 39 10 12 := ⟨_, _, _, rfl, by decide, gt_mem 829 (by decide +kernel) rfl, kin_X10⟩
theorem kp_X10_39 : gt_F RX10 39 10 12 (.array .int) true := ⟨_, _, _, tyX10, rfl, by decide, gt_mem 829 (by decide +kernel) rfl, tyX10_ok 12 (by decide), rfl, kin_X10, tyX10_ok, nmX10, (fun _ => rfl)⟩
theorem kf_X10_75 : gt_Fr RX10 75 10 13 := ⟨_, _, _, rfl, by decide, gt_mem 830 (by decide +kernel) rfl, kin_X10⟩
theorem kp_X10_75 : gt_F RX10 75 10 13 .int false := ⟨_, _, _, tyX10, rfl, by decide, gt_mem 830 (by decide +kernel) rfl, tyX10_ok 13 (by decide), rfl, kin_X10, tyX10_ok, nmX10, (fun q => by cases q)⟩
theorem kf_X10_42 : gt_Fr RX10 42 10 14 := ⟨_, _, _, rfl, by decide, gt_mem 831 (by decide +kernel) rfl, kin_X10⟩
theorem kp_X10_42 : gt_F RX10 42 10 14 (.array .int) true := ⟨_, _, _, tyX10, rfl, by decide, gt_mem 831 (by decide +kernel) rfl, tyX10_ok 14 (by decide), rfl, kin_X10, tyX10_ok, nmX10, (fun _ => rfl)⟩
theorem kf_X10_78 : gt_Fr RX10 78 10 15 := ⟨_, _, _, rfl, by decide, gt_mem 832 (by decide +kernel) rfl, kin_X10⟩
theorem kp_X10_78 : gt_F RX10 78 10 15 .int false := ⟨_, _, _, tyX10, rfl, by decide, gt_mem 832 (by decide +kernel) rfl, tyX10_ok 15 (by decide), rfl, kin_X10, tyX10_ok, nmX10, (fun q => by cases q)⟩
theorem kf_X10_45 : gt_Fr RX10 45 10 16 := ⟨_, _, _, rfl, by decide, gt_mem 833 (by decide +kernel) rfl, kin_X10⟩
theorem kp_X10_45 : gt_F RX10 45 10 16 (.array .int) true := ⟨_, _, _, tyX10, rfl, by decide, gt_mem 833 (by decide +kernel) rfl, tyX10_ok 16 (by decide), rfl, kin_X10, tyX10_ok, nmX10, (fun _ => rfl)⟩
theorem kf_X10_81 : gt_Fr RX10 81 10 17 := ⟨_, _, _, rfl, by decide, gt_mem 834 (by decide +kernel) rfl, kin_X10⟩
theorem kp_X10_81 : gt_F RX10 81 10 17 .int false := ⟨_, _, _, tyX10, rfl, by decide, gt_mem 834 (by decide +kernel) rfl, tyX10_ok 17 (by decide), rfl, kin_X10, tyX10_ok, nmX10, (fun q => by cases q)⟩
theorem kf_X10_91 : gt_Fr RX10 91 10 18 := ⟨_, _, _, rfl, by decide, gt_mem 835 (by decide +kernel) rfl, kin_X10⟩
theorem kp_X10_91 : gt_F RX10 91 10 18 .int false := ⟨_, _, _, tyX10, rfl, by decide, gt_mem 835 (by decide +kernel) rfl, tyX10_ok 18 (by decide), rfl, kin_X10, tyX10_ok, nmX10, (fun q => by cases q)⟩
theorem kf_X10_98 : gt_Fr RX10 98 10 19 := ⟨_, _, _, rfl, by decide, gt_mem 836 (by decide +kernel) rfl, kin_X10⟩
theorem kp_X10_98 : gt_F RX10 98 10 19 .int false := ⟨_, _, _, tyX10, rfl, by decide, gt_mem 836 (by decide +kernel) rfl, tyX10_ok 19 (by decide), rfl, kin_X10, tyX10_ok, nmX10, (fun q => by cases q)⟩
theorem kf_X10_101 : gt_Fr RX10 101 10 20 := ⟨_, _, _, rfl, by decide, gt_mem 837 (by decide +kernel) rfl, kin_X10⟩
theorem kp_X10_101 : gt_F RX10 101 10 20 .int false := ⟨_, _, _, tyX10, rfl, by decide, gt_mem 837 (by decide +kernel) rfl, tyX10_ok 20 (by decide), rfl, kin_X10, tyX10_ok, nmX10, (fun q => by cases q)⟩
theorem kf_X10_104 : gt_Fr RX10 104 10 21 := ⟨_, _, _, rfl, by decide, gt_mem 838 (by decide +kernel) rfl, kin_X10⟩
theorem kp_X10_104 : gt_F RX10 104 10 21 .int false := ⟨_, _, _, tyX10, rfl, by decide, gt_mem 838 (by decide +kernel) rfl, tyX10_ok 21 (by decide), rfl, kin_X10, tyX10_ok, nmX10, (fun q => by cases q)⟩
theorem kf_X10_107 : gt_Fr RX10 107 10 22 := ⟨_, _, _, rfl, by decide, gt_mem 839 (by decide +kernel) rfl, kin_X10⟩
theorem kp_X10_107 : gt_F RX10 107 10 22 .int false := ⟨_, _, _, tyX10, rfl, by decide, gt_mem 839 (by decide +kernel) rfl, tyX10_ok 22 (by decide), rfl, kin_X10, tyX10_ok, nmX10, (fun q => by cases q)⟩
theorem kf_X10_114 : gt_Fr RX10 114 10 23 := ⟨_, _, _, rfl, by decide, gt_mem 840 (by decide +kernel) rfl, kin_X10⟩
theorem kp_X10_114 : gt_F RX10 114 10 23 .int false := ⟨_, _, _, tyX10, rfl, by decide, gt_mem 840 (by decide +kernel) rfl, tyX10_ok 23 (by decide), rfl, kin_X10, tyX10_ok, nmX10, (fun q => by cases q)⟩
theorem kf_X10_48 : gt_Fr RX10 48 10 24 := ⟨_, _, _, rfl, by decide, gt_mem 841 (by decide +kernel) rfl, kin_X10⟩
theorem kp_X10_48 : gt_F RX10 48 10 24 (.array .int) true := ⟨_, _, _, tyX10, rfl, by decide, gt_mem 841 (by decide +kernel) rfl, tyX10_ok 24 (by decide), rfl, kin_X10, tyX10_ok, nmX10, (fun _ => rfl)⟩
theorem kf_X10_51 : gt_Fr RX10 51 10 25 := ⟨_, _, _, rfl, by decide, gt_mem 842 (by decide +kernel) rfl, kin_X10⟩
theorem kp_X10_51 : gt_F RX10 51 10 25 (.array .int) true := ⟨_, _, _, tyX10, rfl, by decide, gt_mem 842 (by decide +kernel) rfl, tyX10_ok 25 (by decide), rfl, kin_X10, tyX10_ok, nmX10, (fun _ => rfl)⟩
theorem kf_X10_260 : gt_Fr RX10 260 10 26 := ⟨_, _, _, rfl, by decide, gt_mem 843 (by decide +kernel) rfl, kin_X10⟩
theorem kp_X10_260 : gt_F RX10 260 10 26 .int false := ⟨_, _, _, tyX10, rfl, by decide, gt_mem 843 (by decide +kernel) rfl, tyX10_ok 26 (by decide), rfl, kin_X10, tyX10_ok, nmX10, (fun q => by cases q)⟩
theorem kf_X10_263 : gt_Fr RX10 263 10 27 := ⟨_, _, _, rfl, by decide, gt_mem 844 (by decide +kernel) rfl, kin_X10⟩
theorem kp_X10_263 : gt_F RX10 263 10 27 .int false := ⟨_, _, _, tyX10, rfl, by decide, gt_mem 844 (by decide +kernel) rfl, tyX10_ok 27 (by decide), rfl, kin_X10, tyX10_ok, nmX10, (fun q => by cases q)⟩
theorem kf_X10_54 : gt_Fr RX10 54 10 28 := ⟨_, _, _, rfl, by decide, gt_mem 845 (by decide +kernel) rfl, kin_X10⟩
theorem kp_X10_54 : gt_F RX10 54 10 28 (.array .int) true := ⟨_, _, _, tyX10, rfl, by decide, gt_mem 845 (by decide +kernel) rfl, tyX10_ok 28 (by decide), rfl, kin_X10, tyX10_ok, nmX10, (fun _ => rfl)⟩
theorem km_L_9 : Cond.methodLink RL 9 yX9_init ∈ gt_tbl := gt_mem 17 (by decide +kernel) rfl
theorem kv_X9_init : gt_I yX9_init cX9_init 2 0 := ⟨rfl, gt_mem 18 (by decide +kernel) rfl, gt_mem 1 (by decide +kernel) rfl, gt_mem 19 (by decide +kernel) rfl, ⟨by decide +kernel, by decide +kernel, by decide +kernel⟩, by decide⟩
theorem km_X9_1 : Cond.methodLink RX9 1 Lib.objectInit ∈ gt_tbl := gt_mem 20 (by decide +kernel) rfl
theorem kv_X6_init : gt_I yX6_init cX6_init 1 0 := ⟨rfl, gt_mem 26 (by decide +kernel) rfl, gt_mem 2 (by decide +kernel) rfl, gt_mem 27 (by decide +kernel) rfl, ⟨by decide +kernel, by decide +kernel, by decide +kernel⟩, by decide⟩
theorem km_X6_3 : Cond.methodLink RX6 3 Lib.objectInit ∈ gt_tbl := gt_mem 28 (by decide +kernel) rfl
theorem kv_X0_init : gt_I yX0_init cX0_init 1 0 := ⟨rfl, gt_mem 49 (by decide +kernel) rfl, gt_mem 3 (by decide +kernel) rfl, gt_mem 50 (by decide +kernel) rfl, ⟨by decide +kernel, by decide +kernel, by decide +kernel⟩, by decide⟩
theorem km_X0_3 : Cond.methodLink RX0 3 Lib.objectInit ∈ gt_tbl := gt_mem 51 (by decide +kernel) rfl
theorem kv_X8_init : gt_I yX8_init cX8_init 1 0 := ⟨rfl, gt_mem 128 (by decide +kernel) rfl, gt_mem 4 (by decide +kernel) rfl, gt_mem 129 (by decide +kernel) rfl, ⟨by decide +kernel, by decide +kernel, by decide +kernel⟩, by decide⟩
theorem km_X8_3 : Cond.methodLink RX8 3 Lib.objectInit ∈ gt_tbl := gt_mem 130 (by decide +kernel) rfl
theorem km_X9_38 : Cond.methodLink RX9 38 yX4_init ∈ gt_tbl := gt_mem 163 (by decide +kernel) rfl
theorem kv_X4_init : gt_I yX4_init cX4_init 2 0 := ⟨rfl, gt_mem 164 (by decide +kernel) rfl, gt_mem 5 (by decide +kernel) rfl, gt_mem 165 (by decide +kernel) rfl, ⟨by decide +kernel, by decide +kernel, by decide +kernel⟩, by decide⟩
theorem km_X4_3 : Cond.methodLink RX4 3 Lib.objectInit ∈ gt_tbl := gt_mem 166 (by decide +kernel) rfl
theorem kv_X1_init : gt_I yX1_init cX1_init 1 0 := ⟨rfl, gt_mem 186 (by decide +kernel) rfl, gt_mem 6 (by decide +kernel) rfl, gt_mem 187 (by decide +kernel) rfl, ⟨by decide +kernel, by decide +kernel, by decide +kernel⟩, by decide⟩
theorem km_X1_3 : Cond.methodLink RX1 3 Lib.objectInit ∈ gt_tbl := gt_mem 188 (by decide +kernel) rfl
theorem kv_X3_init : gt_I yX3_init cX3_init 1 0 := ⟨rfl, gt_mem 197 (by decide +kernel) rfl, gt_mem 7 (by decide +kernel) rfl, gt_mem 198 (by decide +kernel) rfl, ⟨by decide +kernel, by decide +kernel, by decide +kernel⟩, by decide⟩
theorem km_X3_3 : Cond.methodLink RX3 3 Lib.objectInit ∈ gt_tbl := gt_mem 199 (by decide +kernel) rfl
theorem kv_X5_init : gt_I yX5_init cX5_init 1 0 := ⟨rfl, gt_mem 240 (by decide +kernel) rfl, gt_mem 8 (by decide +kernel) rfl, gt_mem 241 (by decide +kernel) rfl, ⟨by decide +kernel, by decide +kernel, by decide +kernel⟩, by decide⟩
theorem km_X5_3 : Cond.methodLink RX5 3 Lib.objectInit ∈ gt_tbl := gt_mem 242 (by decide +kernel) rfl
theorem kv_X7_init : gt_I yX7_init cX7_init 1 0 := ⟨rfl, gt_mem 268 (by decide +kernel) rfl, gt_mem 9 (by decide +kernel) rfl, gt_mem 269 (by decide +kernel) rfl, ⟨by decide +kernel, by decide +kernel, by decide +kernel⟩, by decide⟩
theorem km_X7_3 : Cond.methodLink RX7 3 Lib.objectInit ∈ gt_tbl := gt_mem 270 (by decide +kernel) rfl
theorem kv_X2_init : gt_I yX2_init cX2_init 1 0 := ⟨rfl, gt_mem 278 (by decide +kernel) rfl, gt_mem 10 (by decide +kernel) rfl, gt_mem 279 (by decide +kernel) rfl, ⟨by decide +kernel, by decide +kernel, by decide +kernel⟩, by decide⟩
theorem km_X2_1 : Cond.methodLink RX2 1 Lib.objectInit ∈ gt_tbl := gt_mem 280 (by decide +kernel) rfl
theorem km_L_13 : Cond.methodLink RL 13 yX9_feed ∈ gt_tbl := gt_mem 331 (by decide +kernel) rfl
theorem kv_X9_feed : gt_V yX9_feed cX9_feed 2 (some .int) 1 := ⟨gt_mem 332 (by decide +kernel) rfl, gt_mem 333 (by decide +kernel) rfl, gt_mem 1 (by decide +kernel) rfl, gt_mem 334 (by decide +kernel) rfl, ⟨by decide +kernel, by decide +kernel, by decide +kernel⟩, by decide⟩
theorem km_X9_82 : Cond.methodLink RX9 82 yX9_within ∈ gt_tbl := gt_mem 335 (by decide +kernel) rfl
theorem kv_X9_within : gt_S yX9_within cX9_within 3 (some .boolean) 3 := ⟨gt_mem 336 (by decide +kernel) rfl, gt_mem 1 (by decide +kernel) rfl, gt_mem 337 (by decide +kernel) rfl, ⟨by decide +kernel, by decide +kernel, by decide +kernel⟩, by decide⟩
theorem kc_X9_86 : Cond.constant RX9 86 (-1000000002) ∈ gt_tbl := gt_mem 338 (by decide +kernel) rfl
theorem km_X9_87 : Cond.methodLink RX9 87 yX6_add ∈ gt_tbl := gt_mem 339 (by decide +kernel) rfl
theorem kv_X6_add : gt_V yX6_add cX6_add 2 (some .int) 1 := ⟨gt_mem 340 (by decide +kernel) rfl, gt_mem 341 (by decide +kernel) rfl, gt_mem 2 (by decide +kernel) rfl, gt_mem 342 (by decide +kernel) rfl, ⟨by decide +kernel, by decide +kernel, by decide +kernel⟩, by decide⟩
theorem kc_X6_22 : Cond.constant RX6 22 (-1000000004) ∈ gt_tbl := gt_mem 343 (by decide +kernel) rfl
theorem km_L_18 : Cond.methodLink RL 18 yX9_coast ∈ gt_tbl := gt_mem 344 (by decide +kernel) rfl
theorem kv_X9_coast : gt_V yX9_coast cX9_coast 4 (some .int) 0 := ⟨gt_mem 345 (by decide +kernel) rfl, gt_mem 346 (by decide +kernel) rfl, gt_mem 1 (by decide +kernel) rfl, gt_mem 347 (by decide +kernel) rfl, ⟨by decide +kernel, by decide +kernel, by decide +kernel⟩, by decide⟩
theorem km_X9_91 : Cond.methodLink RX9 91 yX6_readInto ∈ gt_tbl := gt_mem 348 (by decide +kernel) rfl
theorem kv_X6_readInto : gt_V yX6_readInto cX6_readInto 3 (some .int) 1 := ⟨gt_mem 349 (by decide +kernel) rfl, gt_mem 350 (by decide +kernel) rfl, gt_mem 2 (by decide +kernel) rfl, gt_mem 351 (by decide +kernel) rfl, ⟨by decide +kernel, by decide +kernel, by decide +kernel⟩, by decide⟩
theorem km_X6_29 : Cond.methodLink RX6 29 yX0_clear ∈ gt_tbl := gt_mem 352 (by decide +kernel) rfl
theorem kv_X0_clear : gt_V yX0_clear cX0_clear 1 none 0 := ⟨gt_mem 353 (by decide +kernel) rfl, gt_mem 354 (by decide +kernel) rfl, gt_mem 3 (by decide +kernel) rfl, gt_mem 355 (by decide +kernel) rfl, ⟨by decide +kernel, by decide +kernel, by decide +kernel⟩, by decide⟩
theorem km_X6_34 : Cond.methodLink RX6 34 yX6_moreComes ∈ gt_tbl := gt_mem 356 (by decide +kernel) rfl
theorem kv_X6_moreComes : gt_V yX6_moreComes cX6_moreComes 1 (some .boolean) 0 := ⟨gt_mem 358 (by decide +kernel) rfl, gt_memp (y := yX6_moreComes) (c := 5) 0 (by decide +kernel), gt_mem 2 (by decide +kernel) rfl, gt_mem 359 (by decide +kernel) rfl, ⟨by decide +kernel, by decide +kernel, by decide +kernel⟩, by decide⟩
theorem km_X6_38 : Cond.methodLink RX6 38 yX6_readCells ∈ gt_tbl := gt_mem 360 (by decide +kernel) rfl
theorem kv_X6_readCells : gt_V yX6_readCells cX6_readCells 3 none 1 := ⟨gt_mem 362 (by decide +kernel) rfl, gt_memp (y := yX6_readCells) (c := 5) 1 (by decide +kernel), gt_mem 2 (by decide +kernel) rfl, gt_mem 363 (by decide +kernel) rfl, ⟨by decide +kernel, by decide +kernel, by decide +kernel⟩, by decide⟩
theorem km_X6_45 : Cond.methodLink RX6 45 yX6_takeSign ∈ gt_tbl := gt_mem 364 (by decide +kernel) rfl
theorem kv_X6_takeSign : gt_V yX6_takeSign cX6_takeSign 2 none 1 := ⟨gt_mem 366 (by decide +kernel) rfl, gt_memp (y := yX6_takeSign) (c := 5) 2 (by decide +kernel), gt_mem 2 (by decide +kernel) rfl, gt_mem 367 (by decide +kernel) rfl, ⟨by decide +kernel, by decide +kernel, by decide +kernel⟩, by decide⟩
theorem km_X6_59 : Cond.methodLink RX6 59 yX6_nextIs ∈ gt_tbl := gt_mem 368 (by decide +kernel) rfl
theorem kv_X6_nextIs : gt_V yX6_nextIs cX6_nextIs 2 (some .boolean) 1 := ⟨gt_mem 370 (by decide +kernel) rfl, gt_memp (y := yX6_nextIs) (c := 5) 3 (by decide +kernel), gt_mem 2 (by decide +kernel) rfl, gt_mem 371 (by decide +kernel) rfl, ⟨by decide +kernel, by decide +kernel, by decide +kernel⟩, by decide⟩
theorem km_X6_63 : Cond.methodLink RX6 63 yX6_fail ∈ gt_tbl := gt_mem 372 (by decide +kernel) rfl
theorem kv_X6_fail : gt_V yX6_fail cX6_fail 3 none 2 := ⟨gt_mem 374 (by decide +kernel) rfl, gt_memp (y := yX6_fail) (c := 5) 4 (by decide +kernel), gt_mem 2 (by decide +kernel) rfl, gt_mem 375 (by decide +kernel) rfl, ⟨by decide +kernel, by decide +kernel, by decide +kernel⟩, by decide⟩
theorem km_X6_52 : Cond.methodLink RX6 52 yX6_takeNumber ∈ gt_tbl := gt_mem 376 (by decide +kernel) rfl
theorem kv_X6_takeNumber : gt_V yX6_takeNumber cX6_takeNumber 5 (some .int) 2 := ⟨gt_mem 378 (by decide +kernel) rfl, gt_memp (y := yX6_takeNumber) (c := 5) 5 (by decide +kernel), gt_mem 2 (by decide +kernel) rfl, gt_mem 379 (by decide +kernel) rfl, ⟨by decide +kernel, by decide +kernel, by decide +kernel⟩, by decide⟩
theorem km_X6_103 : Cond.methodLink RX6 103 yX6_isFigure ∈ gt_tbl := gt_mem 380 (by decide +kernel) rfl
theorem kv_X6_isFigure : gt_S yX6_isFigure cX6_isFigure 1 (some .boolean) 1 := ⟨gt_mem 381 (by decide +kernel) rfl, gt_mem 2 (by decide +kernel) rfl, gt_mem 382 (by decide +kernel) rfl, ⟨by decide +kernel, by decide +kernel, by decide +kernel⟩, by decide⟩
theorem km_X6_42 : Cond.methodLink RX6 42 yX6_readClause ∈ gt_tbl := gt_mem 383 (by decide +kernel) rfl
theorem kv_X6_readClause : gt_V yX6_readClause cX6_readClause 2 none 1 := ⟨gt_mem 385 (by decide +kernel) rfl, gt_memp (y := yX6_readClause) (c := 5) 6 (by decide +kernel), gt_mem 2 (by decide +kernel) rfl, gt_mem 386 (by decide +kernel) rfl, ⟨by decide +kernel, by decide +kernel, by decide +kernel⟩, by decide⟩
theorem km_X6_67 : Cond.methodLink RX6 67 yX6_readTower ∈ gt_tbl := gt_mem 387 (by decide +kernel) rfl
theorem kv_X6_readTower : gt_V yX6_readTower cX6_readTower 3 none 1 := ⟨gt_mem 389 (by decide +kernel) rfl, gt_memp (y := yX6_readTower) (c := 5) 7 (by decide +kernel), gt_mem 2 (by decide +kernel) rfl, gt_mem 390 (by decide +kernel) rfl, ⟨by decide +kernel, by decide +kernel, by decide +kernel⟩, by decide⟩
theorem km_X6_70 : Cond.methodLink RX6 70 yX6_readPlayer ∈ gt_tbl := gt_mem 391 (by decide +kernel) rfl
theorem kv_X6_readPlayer : gt_V yX6_readPlayer cX6_readPlayer 3 none 1 := ⟨gt_mem 393 (by decide +kernel) rfl, gt_memp (y := yX6_readPlayer) (c := 5) 8 (by decide +kernel), gt_mem 2 (by decide +kernel) rfl, gt_mem 394 (by decide +kernel) rfl, ⟨by decide +kernel, by decide +kernel, by decide +kernel⟩, by decide⟩
theorem km_X6_73 : Cond.methodLink RX6 73 yX6_readBoat ∈ gt_tbl := gt_mem 395 (by decide +kernel) rfl
theorem kv_X6_readBoat : gt_V yX6_readBoat cX6_readBoat 3 none 1 := ⟨gt_mem 397 (by decide +kernel) rfl, gt_memp (y := yX6_readBoat) (c := 5) 9 (by decide +kernel), gt_mem 2 (by decide +kernel) rfl, gt_mem 398 (by decide +kernel) rfl, ⟨by decide +kernel, by decide +kernel, by decide +kernel⟩, by decide⟩
theorem km_X9_95 : Cond.methodLink RX9 95 yX6_faultPlace ∈ gt_tbl := gt_mem 399 (by decide +kernel) rfl
theorem kv_X6_faultPlace : gt_V yX6_faultPlace cX6_faultPlace 1 (some .int) 0 := ⟨gt_mem 400 (by decide +kernel) rfl, gt_mem 401 (by decide +kernel) rfl, gt_mem 2 (by decide +kernel) rfl, gt_mem 402 (by decide +kernel) rfl, ⟨by decide +kernel, by decide +kernel, by decide +kernel⟩, by decide⟩
theorem km_X9_99 : Cond.methodLink RX9 99 yX8_begin ∈ gt_tbl := gt_mem 403 (by decide +kernel) rfl
theorem kv_X8_begin : gt_V yX8_begin cX8_begin 3 none 1 := ⟨gt_mem 404 (by decide +kernel) rfl, gt_mem 405 (by decide +kernel) rfl, gt_mem 4 (by decide +kernel) rfl, gt_mem 406 (by decide +kernel) rfl, ⟨by decide +kernel, by decide +kernel, by decide +kernel⟩, by decide⟩
theorem km_X8_31 : Cond.methodLink RX8 31 yJ7_fill_53178 ∈ gt_tbl := gt_mem 407 (by decide +kernel) rfl
theorem kv_J7_fill_53178 : gt_S yJ7_fill_53178 cJ7_fill_53178 4 none 2 := ⟨gt_mem 408 (by decide +kernel) rfl, gt_mem 12 (by decide +kernel) rfl, gt_mem 409 (by decide +kernel) rfl, ⟨by decide +kernel, by decide +kernel, by decide +kernel⟩, by decide⟩
theorem km_X9_103 : Cond.methodLink RX9 103 yX4_forget ∈ gt_tbl := gt_mem 410 (by decide +kernel) rfl
theorem kv_X4_forget : gt_V yX4_forget cX4_forget 1 none 0 := ⟨gt_mem 411 (by decide +kernel) rfl, gt_mem 412 (by decide +kernel) rfl, gt_mem 5 (by decide +kernel) rfl, gt_mem 413 (by decide +kernel) rfl, ⟨by decide +kernel, by decide +kernel, by decide +kernel⟩, by decide⟩
theorem km_X9_106 : Cond.methodLink RX9 106 yX3_clear ∈ gt_tbl := gt_mem 414 (by decide +kernel) rfl
theorem kv_X3_clear : gt_V yX3_clear cX3_clear 1 none 0 := ⟨gt_mem 415 (by decide +kernel) rfl, gt_mem 416 (by decide +kernel) rfl, gt_mem 7 (by decide +kernel) rfl, gt_mem 417 (by decide +kernel) rfl, ⟨by decide +kernel, by decide +kernel, by decide +kernel⟩, by decide⟩
theorem km_L_23 : Cond.methodLink RL 23 yX9_fault ∈ gt_tbl := gt_mem 418 (by decide +kernel) rfl
theorem kv_X9_fault : gt_V yX9_fault cX9_fault 1 (some .int) 0 := ⟨gt_mem 419 (by decide +kernel) rfl, gt_mem 420 (by decide +kernel) rfl, gt_mem 1 (by decide +kernel) rfl, gt_mem 421 (by decide +kernel) rfl, ⟨by decide +kernel, by decide +kernel, by decide +kernel⟩, by decide⟩
theorem km_L_27 : Cond.methodLink RL 27 yX9_told ∈ gt_tbl := gt_mem 422 (by decide +kernel) rfl
theorem kv_X9_told : gt_V yX9_told cX9_told 2 (some .int) 1 := ⟨gt_mem 423 (by decide +kernel) rfl, gt_mem 424 (by decide +kernel) rfl, gt_mem 1 (by decide +kernel) rfl, gt_mem 425 (by decide +kernel) rfl, ⟨by decide +kernel, by decide +kernel, by decide +kernel⟩, by decide⟩
theorem km_X9_125 : Cond.methodLink RX9 125 yX6_letters ∈ gt_tbl := gt_mem 426 (by decide +kernel) rfl
theorem kv_X6_letters : gt_V yX6_letters cX6_letters 1 (some .int) 0 := ⟨gt_mem 427 (by decide +kernel) rfl, gt_mem 428 (by decide +kernel) rfl, gt_mem 2 (by decide +kernel) rfl, gt_mem 429 (by decide +kernel) rfl, ⟨by decide +kernel, by decide +kernel, by decide +kernel⟩, by decide⟩
theorem km_X9_131 : Cond.methodLink RX9 131 yX8_slope ∈ gt_tbl := gt_mem 430 (by decide +kernel) rfl
theorem kv_X8_slope : gt_V yX8_slope cX8_slope 3 (some .int) 1 := ⟨gt_mem 431 (by decide +kernel) rfl, gt_mem 432 (by decide +kernel) rfl, gt_mem 4 (by decide +kernel) rfl, gt_mem 433 (by decide +kernel) rfl, ⟨by decide +kernel, by decide +kernel, by decide +kernel⟩, by decide⟩
theorem km_X8_113 : Cond.methodLink RX8 113 yX8_steepest ∈ gt_tbl := gt_mem 434 (by decide +kernel) rfl
theorem kv_X8_steepest : gt_V yX8_steepest cX8_steepest 6 (some .int) 1 := ⟨gt_mem 435 (by decide +kernel) rfl, gt_mem 436 (by decide +kernel) rfl, gt_mem 4 (by decide +kernel) rfl, gt_mem 437 (by decide +kernel) rfl, ⟨by decide +kernel, by decide +kernel, by decide +kernel⟩, by decide⟩
theorem km_X8_110 : Cond.methodLink RX8 110 yX8_unlikeness ∈ gt_tbl := gt_mem 438 (by decide +kernel) rfl
theorem kv_X8_unlikeness : gt_V yX8_unlikeness cX8_unlikeness 3 (some .int) 2 := ⟨gt_mem 440 (by decide +kernel) rfl, gt_memp (y := yX8_unlikeness) (c := 6) 10 (by decide +kernel), gt_mem 4 (by decide +kernel) rfl, gt_mem 441 (by decide +kernel) rfl, ⟨by decide +kernel, by decide +kernel, by decide +kernel⟩, by decide⟩
theorem km_X8_101 : Cond.methodLink RX8 101 yX8_seaAt ∈ gt_tbl := gt_mem 442 (by decide +kernel) rfl
theorem kv_X8_seaAt : gt_V yX8_seaAt cX8_seaAt 5 (some .int) 2 := ⟨gt_mem 443 (by decide +kernel) rfl, gt_mem 444 (by decide +kernel) rfl, gt_mem 4 (by decide +kernel) rfl, gt_mem 445 (by decide +kernel) rfl, ⟨by decide +kernel, by decide +kernel, by decide +kernel⟩, by decide⟩
theorem km_X8_98 : Cond.methodLink RX8 98 yX0_bears ∈ gt_tbl := gt_mem 446 (by decide +kernel) rfl
theorem kv_X0_bears : gt_V yX0_bears cX0_bears 4 (some .int) 3 := ⟨gt_mem 447 (by decide +kernel) rfl, gt_mem 448 (by decide +kernel) rfl, gt_mem 3 (by decide +kernel) rfl, gt_mem 449 (by decide +kernel) rfl, ⟨by decide +kernel, by decide +kernel, by decide +kernel⟩, by decide⟩
theorem km_X0_46 : Cond.methodLink RX0 46 Lib.Math.abs.name ∈ gt_tbl := gt_mem 450 (by decide +kernel) rfl
theorem km_X0_52 : Cond.methodLink RX0 52 Lib.Math.max.name ∈ gt_tbl := gt_mem 453 (by decide +kernel) rfl
theorem km_X8_117 : Cond.methodLink RX8 117 Lib.Math.abs.name ∈ gt_tbl := gt_mem 456 (by decide +kernel) rfl
theorem km_X9_134 : Cond.methodLink RX9 134 yX8_steepest ∈ gt_tbl := gt_mem 457 (by decide +kernel) rfl
theorem km_X9_137 : Cond.methodLink RX9 137 yX8_wet ∈ gt_tbl := gt_mem 458 (by decide +kernel) rfl
theorem kv_X8_wet : gt_V yX8_wet cX8_wet 4 (some .int) 1 := ⟨gt_mem 459 (by decide +kernel) rfl, gt_mem 460 (by decide +kernel) rfl, gt_mem 4 (by decide +kernel) rfl, gt_mem 461 (by decide +kernel) rfl, ⟨by decide +kernel, by decide +kernel, by decide +kernel⟩, by decide⟩
theorem km_X8_91 : Cond.methodLink RX8 91 yX8_depthAt ∈ gt_tbl := gt_mem 462 (by decide +kernel) rfl
theorem kv_X8_depthAt : gt_V yX8_depthAt cX8_depthAt 3 (some .int) 2 := ⟨gt_mem 463 (by decide +kernel) rfl, gt_mem 464 (by decide +kernel) rfl, gt_mem 4 (by decide +kernel) rfl, gt_mem 465 (by decide +kernel) rfl, ⟨by decide +kernel, by decide +kernel, by decide +kernel⟩, by decide⟩
theorem km_X8_82 : Cond.methodLink RX8 82 Lib.Math.max.name ∈ gt_tbl := gt_mem 466 (by decide +kernel) rfl
theorem km_X9_140 : Cond.methodLink RX9 140 yX8_aground ∈ gt_tbl := gt_mem 467 (by decide +kernel) rfl
theorem kv_X8_aground : gt_V yX8_aground cX8_aground 4 (some .int) 1 := ⟨gt_mem 468 (by decide +kernel) rfl, gt_mem 469 (by decide +kernel) rfl, gt_mem 4 (by decide +kernel) rfl, gt_mem 470 (by decide +kernel) rfl, ⟨by decide +kernel, by decide +kernel, by decide +kernel⟩, by decide⟩
theorem km_X9_143 : Cond.methodLink RX9 143 yX8_arrived ∈ gt_tbl := gt_mem 471 (by decide +kernel) rfl
theorem kv_X8_arrived : gt_V yX8_arrived cX8_arrived 4 (some .int) 1 := ⟨gt_mem 472 (by decide +kernel) rfl, gt_mem 473 (by decide +kernel) rfl, gt_mem 4 (by decide +kernel) rfl, gt_mem 474 (by decide +kernel) rfl, ⟨by decide +kernel, by decide +kernel, by decide +kernel⟩, by decide⟩
theorem km_X9_146 : Cond.methodLink RX9 146 yX8_sitting ∈ gt_tbl := gt_mem 475 (by decide +kernel) rfl
theorem kv_X8_sitting : gt_V yX8_sitting cX8_sitting 4 (some .int) 1 := ⟨gt_mem 476 (by decide +kernel) rfl, gt_mem 477 (by decide +kernel) rfl, gt_mem 4 (by decide +kernel) rfl, gt_mem 478 (by decide +kernel) rfl, ⟨by decide +kernel, by decide +kernel, by decide +kernel⟩, by decide⟩
theorem km_X9_155 : Cond.methodLink RX9 155 yX7_fitting ∈ gt_tbl := gt_mem 479 (by decide +kernel) rfl
theorem kv_X7_fitting : gt_V yX7_fitting cX7_fitting 7 (some .int) 4 := ⟨gt_mem 480 (by decide +kernel) rfl, gt_mem 481 (by decide +kernel) rfl, gt_mem 9 (by decide +kernel) rfl, gt_mem 482 (by decide +kernel) rfl, ⟨by decide +kernel, by decide +kernel, by decide +kernel⟩, by decide⟩
theorem km_X7_28 : Cond.methodLink RX7 28 yX7_fits ∈ gt_tbl := gt_mem 483 (by decide +kernel) rfl
theorem kv_X7_fits : gt_V yX7_fits cX7_fits 8 (some .boolean) 5 := ⟨gt_mem 485 (by decide +kernel) rfl, gt_memp (y := yX7_fits) (c := 1) 11 (by decide +kernel), gt_mem 9 (by decide +kernel) rfl, gt_mem 486 (by decide +kernel) rfl, ⟨by decide +kernel, by decide +kernel, by decide +kernel⟩, by decide⟩
theorem km_X7_32 : Cond.methodLink RX7 32 yX7_beginAsleep ∈ gt_tbl := gt_mem 487 (by decide +kernel) rfl
theorem kv_X7_beginAsleep : gt_V yX7_beginAsleep cX7_beginAsleep 4 none 3 := ⟨gt_mem 489 (by decide +kernel) rfl, gt_memp (y := yX7_beginAsleep) (c := 1) 12 (by decide +kernel), gt_mem 9 (by decide +kernel) rfl, gt_mem 490 (by decide +kernel) rfl, ⟨by decide +kernel, by decide +kernel, by decide +kernel⟩, by decide⟩
theorem km_X7_50 : Cond.methodLink RX7 50 yX8_copy ∈ gt_tbl := gt_mem 491 (by decide +kernel) rfl
theorem kv_X8_copy : gt_V yX8_copy cX8_copy 2 none 1 := ⟨gt_mem 492 (by decide +kernel) rfl, gt_mem 493 (by decide +kernel) rfl, gt_mem 4 (by decide +kernel) rfl, gt_mem 494 (by decide +kernel) rfl, ⟨by decide +kernel, by decide +kernel, by decide +kernel⟩, by decide⟩
theorem km_X8_45 : Cond.methodLink RX8 45 arraycopyName ∈ gt_tbl := gt_mem 495 (by decide +kernel) rfl
theorem km_X7_36 : Cond.methodLink RX7 36 yX3_lastMark ∈ gt_tbl := gt_mem 498 (by decide +kernel) rfl
theorem kv_X3_lastMark : gt_V yX3_lastMark cX3_lastMark 3 (some .int) 0 := ⟨gt_mem 499 (by decide +kernel) rfl, gt_mem 500 (by decide +kernel) rfl, gt_mem 7 (by decide +kernel) rfl, gt_mem 501 (by decide +kernel) rfl, ⟨by decide +kernel, by decide +kernel, by decide +kernel⟩, by decide⟩
theorem km_X3_47 : Cond.methodLink RX3 47 Lib.Math.max.name ∈ gt_tbl := gt_mem 502 (by decide +kernel) rfl
theorem km_X7_42 : Cond.methodLink RX7 42 yX8_wind ∈ gt_tbl := gt_mem 503 (by decide +kernel) rfl
theorem kv_X8_wind : gt_V yX8_wind cX8_wind 5 none 1 := ⟨gt_mem 504 (by decide +kernel) rfl, gt_mem 505 (by decide +kernel) rfl, gt_mem 4 (by decide +kernel) rfl, gt_mem 506 (by decide +kernel) rfl, ⟨by decide +kernel, by decide +kernel, by decide +kernel⟩, by decide⟩
theorem km_X8_62 : Cond.methodLink RX8 62 yX0_hasTower ∈ gt_tbl := gt_mem 507 (by decide +kernel) rfl
theorem kv_X0_hasTower : gt_V yX0_hasTower cX0_hasTower 2 (some .boolean) 1 := ⟨gt_mem 508 (by decide +kernel) rfl, gt_mem 509 (by decide +kernel) rfl, gt_mem 3 (by decide +kernel) rfl, gt_mem 510 (by decide +kernel) rfl, ⟨by decide +kernel, by decide +kernel, by decide +kernel⟩, by decide⟩
theorem km_X8_66 : Cond.methodLink RX8 66 yX8_sleeps ∈ gt_tbl := gt_mem 511 (by decide +kernel) rfl
theorem kv_X8_sleeps : gt_V yX8_sleeps cX8_sleeps 2 (some .boolean) 1 := ⟨gt_mem 512 (by decide +kernel) rfl, gt_mem 513 (by decide +kernel) rfl, gt_mem 4 (by decide +kernel) rfl, gt_mem 514 (by decide +kernel) rfl, ⟨by decide +kernel, by decide +kernel, by decide +kernel⟩, by decide⟩
theorem km_X8_72 : Cond.methodLink RX8 72 yX8_woundMore ∈ gt_tbl := gt_mem 515 (by decide +kernel) rfl
theorem kv_X8_woundMore : gt_S yX8_woundMore cX8_woundMore 3 (some .int) 3 := ⟨gt_mem 516 (by decide +kernel) rfl, gt_mem 4 (by decide +kernel) rfl, gt_mem 517 (by decide +kernel) rfl, ⟨by decide +kernel, by decide +kernel, by decide +kernel⟩, by decide⟩
theorem km_X8_76 : Cond.methodLink RX8 76 Lib.Math.min.name ∈ gt_tbl := gt_mem 518 (by decide +kernel) rfl
theorem km_X7_46 : Cond.methodLink RX7 46 yX3_marksAreSo ∈ gt_tbl := gt_mem 521 (by decide +kernel) rfl
theorem kv_X3_marksAreSo : gt_V yX3_marksAreSo cX3_marksAreSo 5 (some .boolean) 3 := ⟨gt_mem 522 (by decide +kernel) rfl, gt_mem 523 (by decide +kernel) rfl, gt_mem 7 (by decide +kernel) rfl, gt_mem 524 (by decide +kernel) rfl, ⟨by decide +kernel, by decide +kernel, by decide +kernel⟩, by decide⟩
theorem km_X3_53 : Cond.methodLink RX3 53 yX8_seaAt ∈ gt_tbl := gt_mem 525 (by decide +kernel) rfl
theorem km_X9_162 : Cond.methodLink RX9 162 yX3_guts ∈ gt_tbl := gt_mem 526 (by decide +kernel) rfl
theorem kv_X3_guts : gt_V yX3_guts cX3_guts 3 (some .int) 0 := ⟨gt_mem 527 (by decide +kernel) rfl, gt_mem 528 (by decide +kernel) rfl, gt_mem 7 (by decide +kernel) rfl, gt_mem 529 (by decide +kernel) rfl, ⟨by decide +kernel, by decide +kernel, by decide +kernel⟩, by decide⟩
theorem km_X3_59 : Cond.methodLink RX3 59 yX3_seenIsSo ∈ gt_tbl := gt_mem 530 (by decide +kernel) rfl
theorem kv_X3_seenIsSo : gt_V yX3_seenIsSo cX3_seenIsSo 3 (some .boolean) 1 := ⟨gt_mem 532 (by decide +kernel) rfl, gt_memp (y := yX3_seenIsSo) (c := 11) 13 (by decide +kernel), gt_mem 7 (by decide +kernel) rfl, gt_mem 533 (by decide +kernel) rfl, ⟨by decide +kernel, by decide +kernel, by decide +kernel⟩, by decide⟩
theorem km_L_31 : Cond.methodLink RL 31 yX9_cell ∈ gt_tbl := gt_mem 534 (by decide +kernel) rfl
theorem kv_X9_cell : gt_V yX9_cell cX9_cell 3 (some .int) 2 := ⟨gt_mem 535 (by decide +kernel) rfl, gt_mem 536 (by decide +kernel) rfl, gt_mem 1 (by decide +kernel) rfl, gt_mem 537 (by decide +kernel) rfl, ⟨by decide +kernel, by decide +kernel, by decide +kernel⟩, by decide⟩
theorem km_X9_171 : Cond.methodLink RX9 171 yX0_hasCell ∈ gt_tbl := gt_mem 538 (by decide +kernel) rfl
theorem kv_X0_hasCell : gt_V yX0_hasCell cX0_hasCell 2 (some .boolean) 1 := ⟨gt_mem 539 (by decide +kernel) rfl, gt_mem 540 (by decide +kernel) rfl, gt_mem 3 (by decide +kernel) rfl, gt_mem 541 (by decide +kernel) rfl, ⟨by decide +kernel, by decide +kernel, by decide +kernel⟩, by decide⟩
theorem kc_X9_175 : Cond.constant RX9 175 (-1000000001) ∈ gt_tbl := gt_mem 542 (by decide +kernel) rfl
theorem km_X9_180 : Cond.methodLink RX9 180 yX8_seaAt ∈ gt_tbl := gt_mem 543 (by decide +kernel) rfl
theorem km_X9_184 : Cond.methodLink RX9 184 yX8_depthAt ∈ gt_tbl := gt_mem 544 (by decide +kernel) rfl
theorem km_X9_187 : Cond.methodLink RX9 187 yX8_strongest ∈ gt_tbl := gt_mem 545 (by decide +kernel) rfl
theorem kv_X8_strongest : gt_V yX8_strongest cX8_strongest 7 (some .int) 2 := ⟨gt_mem 546 (by decide +kernel) rfl, gt_mem 547 (by decide +kernel) rfl, gt_mem 4 (by decide +kernel) rfl, gt_mem 548 (by decide +kernel) rfl, ⟨by decide +kernel, by decide +kernel, by decide +kernel⟩, by decide⟩
theorem km_L_36 : Cond.methodLink RL 36 yX9_tower ∈ gt_tbl := gt_mem 549 (by decide +kernel) rfl
theorem kv_X9_tower : gt_V yX9_tower cX9_tower 3 (some .int) 2 := ⟨gt_mem 550 (by decide +kernel) rfl, gt_mem 551 (by decide +kernel) rfl, gt_mem 1 (by decide +kernel) rfl, gt_mem 552 (by decide +kernel) rfl, ⟨by decide +kernel, by decide +kernel, by decide +kernel⟩, by decide⟩
theorem km_X9_190 : Cond.methodLink RX9 190 yX0_hasTower ∈ gt_tbl := gt_mem 553 (by decide +kernel) rfl
theorem km_X9_202 : Cond.methodLink RX9 202 yX8_sitterAt ∈ gt_tbl := gt_mem 554 (by decide +kernel) rfl
theorem kv_X8_sitterAt : gt_V yX8_sitterAt cX8_sitterAt 4 (some .int) 2 := ⟨gt_mem 555 (by decide +kernel) rfl, gt_mem 556 (by decide +kernel) rfl, gt_mem 4 (by decide +kernel) rfl, gt_mem 557 (by decide +kernel) rfl, ⟨by decide +kernel, by decide +kernel, by decide +kernel⟩, by decide⟩
theorem km_L_40 : Cond.methodLink RL 40 yX9_player ∈ gt_tbl := gt_mem 558 (by decide +kernel) rfl
theorem kv_X9_player : gt_V yX9_player cX9_player 3 (some .int) 2 := ⟨gt_mem 559 (by decide +kernel) rfl, gt_mem 560 (by decide +kernel) rfl, gt_mem 1 (by decide +kernel) rfl, gt_mem 561 (by decide +kernel) rfl, ⟨by decide +kernel, by decide +kernel, by decide +kernel⟩, by decide⟩
theorem km_X9_205 : Cond.methodLink RX9 205 yX0_hasPlayer ∈ gt_tbl := gt_mem 562 (by decide +kernel) rfl
theorem kv_X0_hasPlayer : gt_V yX0_hasPlayer cX0_hasPlayer 2 (some .boolean) 1 := ⟨gt_mem 563 (by decide +kernel) rfl, gt_mem 564 (by decide +kernel) rfl, gt_mem 3 (by decide +kernel) rfl, gt_mem 565 (by decide +kernel) rfl, ⟨by decide +kernel, by decide +kernel, by decide +kernel⟩, by decide⟩
theorem km_X9_217 : Cond.methodLink RX9 217 yX8_sleeps ∈ gt_tbl := gt_mem 566 (by decide +kernel) rfl
theorem km_L_44 : Cond.methodLink RL 44 yX9_boat ∈ gt_tbl := gt_mem 567 (by decide +kernel) rfl
theorem kv_X9_boat : gt_V yX9_boat cX9_boat 3 (some .int) 2 := ⟨gt_mem 568 (by decide +kernel) rfl, gt_mem 569 (by decide +kernel) rfl, gt_mem 1 (by decide +kernel) rfl, gt_mem 570 (by decide +kernel) rfl, ⟨by decide +kernel, by decide +kernel, by decide +kernel⟩, by decide⟩
theorem km_X9_220 : Cond.methodLink RX9 220 yX0_hasBoat ∈ gt_tbl := gt_mem 571 (by decide +kernel) rfl
theorem kv_X0_hasBoat : gt_V yX0_hasBoat cX0_hasBoat 2 (some .boolean) 1 := ⟨gt_mem 572 (by decide +kernel) rfl, gt_mem 573 (by decide +kernel) rfl, gt_mem 3 (by decide +kernel) rfl, gt_mem 574 (by decide +kernel) rfl, ⟨by decide +kernel, by decide +kernel, by decide +kernel⟩, by decide⟩
theorem km_L_48 : Cond.methodLink RL 48 yX9_hour ∈ gt_tbl := gt_mem 575 (by decide +kernel) rfl
theorem kv_X9_hour : gt_V yX9_hour cX9_hour 4 (some .int) 1 := ⟨gt_mem 576 (by decide +kernel) rfl, gt_mem 577 (by decide +kernel) rfl, gt_mem 1 (by decide +kernel) rfl, gt_mem 578 (by decide +kernel) rfl, ⟨by decide +kernel, by decide +kernel, by decide +kernel⟩, by decide⟩
theorem km_X9_235 : Cond.methodLink RX9 235 yX9_refusalOfHours ∈ gt_tbl := gt_mem 579 (by decide +kernel) rfl
theorem kv_X9_refusalOfHours : gt_V yX9_refusalOfHours cX9_refusalOfHours 2 (some .int) 1 := ⟨gt_mem 581 (by decide +kernel) rfl, gt_memp (y := yX9_refusalOfHours) (c := 12) 14 (by decide +kernel), gt_mem 1 (by decide +kernel) rfl, gt_mem 582 (by decide +kernel) rfl, ⟨by decide +kernel, by decide +kernel, by decide +kernel⟩, by decide⟩
theorem kc_X9_245 : Cond.constant RX9 245 (-1000000003) ∈ gt_tbl := gt_mem 583 (by decide +kernel) rfl
theorem kc_X9_310 : Cond.constant RX9 310 (-1000000004) ∈ gt_tbl := gt_mem 584 (by decide +kernel) rfl
theorem km_X9_238 : Cond.methodLink RX9 238 yX4_remember ∈ gt_tbl := gt_mem 585 (by decide +kernel) rfl
theorem kv_X4_remember : gt_V yX4_remember cX4_remember 2 none 1 := ⟨gt_mem 586 (by decide +kernel) rfl, gt_mem 587 (by decide +kernel) rfl, gt_mem 5 (by decide +kernel) rfl, gt_mem 588 (by decide +kernel) rfl, ⟨by decide +kernel, by decide +kernel, by decide +kernel⟩, by decide⟩
theorem km_X4_22 : Cond.methodLink RX4 22 yX8_copy ∈ gt_tbl := gt_mem 589 (by decide +kernel) rfl
theorem km_X4_29 : Cond.methodLink RX4 29 Lib.Math.min.name ∈ gt_tbl := gt_mem 590 (by decide +kernel) rfl
theorem km_X9_242 : Cond.methodLink RX9 242 yX8_passHour ∈ gt_tbl := gt_mem 591 (by decide +kernel) rfl
theorem kv_X8_passHour : gt_V yX8_passHour cX8_passHour 3 none 1 := ⟨gt_mem 592 (by decide +kernel) rfl, gt_mem 593 (by decide +kernel) rfl, gt_mem 4 (by decide +kernel) rfl, gt_mem 594 (by decide +kernel) rfl, ⟨by decide +kernel, by decide +kernel, by decide +kernel⟩, by decide⟩
theorem km_X8_54 : Cond.methodLink RX8 54 yX8_wind ∈ gt_tbl := gt_mem 595 (by decide +kernel) rfl
theorem km_X8_58 : Cond.methodLink RX8 58 yX8_sail ∈ gt_tbl := gt_mem 596 (by decide +kernel) rfl
theorem kv_X8_sail : gt_V yX8_sail cX8_sail 5 none 2 := ⟨gt_mem 597 (by decide +kernel) rfl, gt_mem 598 (by decide +kernel) rfl, gt_mem 4 (by decide +kernel) rfl, gt_mem 599 (by decide +kernel) rfl, ⟨by decide +kernel, by decide +kernel, by decide +kernel⟩, by decide⟩
theorem km_L_52 : Cond.methodLink RL 52 yX9_sit ∈ gt_tbl := gt_mem 600 (by decide +kernel) rfl
theorem kv_X9_sit : gt_V yX9_sit cX9_sit 4 (some .int) 2 := ⟨gt_mem 601 (by decide +kernel) rfl, gt_mem 602 (by decide +kernel) rfl, gt_mem 1 (by decide +kernel) rfl, gt_mem 603 (by decide +kernel) rfl, ⟨by decide +kernel, by decide +kernel, by decide +kernel⟩, by decide⟩
theorem km_L_56 : Cond.methodLink RL 56 yX9_rest ∈ gt_tbl := gt_mem 604 (by decide +kernel) rfl
theorem kv_X9_rest : gt_V yX9_rest cX9_rest 3 (some .int) 1 := ⟨gt_mem 605 (by decide +kernel) rfl, gt_mem 606 (by decide +kernel) rfl, gt_mem 1 (by decide +kernel) rfl, gt_mem 607 (by decide +kernel) rfl, ⟨by decide +kernel, by decide +kernel, by decide +kernel⟩, by decide⟩
theorem km_L_60 : Cond.methodLink RL 60 yX9_sleep ∈ gt_tbl := gt_mem 608 (by decide +kernel) rfl
theorem kv_X9_sleep : gt_V yX9_sleep cX9_sleep 4 (some .int) 2 := ⟨gt_mem 609 (by decide +kernel) rfl, gt_mem 610 (by decide +kernel) rfl, gt_mem 1 (by decide +kernel) rfl, gt_mem 611 (by decide +kernel) rfl, ⟨by decide +kernel, by decide +kernel, by decide +kernel⟩, by decide⟩
theorem km_X9_246 : Cond.methodLink RX9 246 yX8_setAsleep ∈ gt_tbl := gt_mem 612 (by decide +kernel) rfl
theorem kv_X8_setAsleep : gt_V yX8_setAsleep cX8_setAsleep 3 none 2 := ⟨gt_mem 613 (by decide +kernel) rfl, gt_mem 614 (by decide +kernel) rfl, gt_mem 4 (by decide +kernel) rfl, gt_mem 615 (by decide +kernel) rfl, ⟨by decide +kernel, by decide +kernel, by decide +kernel⟩, by decide⟩
theorem km_L_65 : Cond.methodLink RL 65 yX9_turn ∈ gt_tbl := gt_mem 616 (by decide +kernel) rfl
theorem kv_X9_turn : gt_V yX9_turn cX9_turn 4 (some .int) 2 := ⟨gt_mem 617 (by decide +kernel) rfl, gt_mem 618 (by decide +kernel) rfl, gt_mem 1 (by decide +kernel) rfl, gt_mem 619 (by decide +kernel) rfl, ⟨by decide +kernel, by decide +kernel, by decide +kernel⟩, by decide⟩
theorem km_L_69 : Cond.methodLink RL 69 yX9_send ∈ gt_tbl := gt_mem 620 (by decide +kernel) rfl
theorem kv_X9_send : gt_V yX9_send cX9_send 3 (some .int) 1 := ⟨gt_mem 621 (by decide +kernel) rfl, gt_mem 622 (by decide +kernel) rfl, gt_mem 1 (by decide +kernel) rfl, gt_mem 623 (by decide +kernel) rfl, ⟨by decide +kernel, by decide +kernel, by decide +kernel⟩, by decide⟩
theorem km_L_73 : Cond.methodLink RL 73 yX9_drift ∈ gt_tbl := gt_mem 624 (by decide +kernel) rfl
theorem kv_X9_drift : gt_V yX9_drift cX9_drift 4 (some .int) 1 := ⟨gt_mem 625 (by decide +kernel) rfl, gt_mem 626 (by decide +kernel) rfl, gt_mem 1 (by decide +kernel) rfl, gt_mem 627 (by decide +kernel) rfl, ⟨by decide +kernel, by decide +kernel, by decide +kernel⟩, by decide⟩
theorem km_X9_250 : Cond.methodLink RX9 250 yX1_stir ∈ gt_tbl := gt_mem 628 (by decide +kernel) rfl
theorem kv_X1_stir : gt_V yX1_stir cX1_stir 4 none 2 := ⟨gt_mem 629 (by decide +kernel) rfl, gt_mem 630 (by decide +kernel) rfl, gt_mem 6 (by decide +kernel) rfl, gt_mem 631 (by decide +kernel) rfl, ⟨by decide +kernel, by decide +kernel, by decide +kernel⟩, by decide⟩
theorem km_X1_29 : Cond.methodLink RX1 29 yX1_next ∈ gt_tbl := gt_mem 632 (by decide +kernel) rfl
theorem kv_X1_next : gt_V yX1_next cX1_next 2 (some .int) 1 := ⟨gt_mem 634 (by decide +kernel) rfl, gt_memp (y := yX1_next) (c := 1) 15 (by decide +kernel), gt_mem 6 (by decide +kernel) rfl, gt_mem 635 (by decide +kernel) rfl, ⟨by decide +kernel, by decide +kernel, by decide +kernel⟩, by decide⟩
theorem kc_X1_15 : Cond.constantLong RX1 15 1103515245 ∈ gt_tbl := gt_mem 636 (by decide +kernel) rfl
theorem kc_X1_17 : Cond.constantLong RX1 17 12345 ∈ gt_tbl := gt_mem 637 (by decide +kernel) rfl
theorem kc_X1_21 : Cond.constantLong RX1 21 2147483647 ∈ gt_tbl := gt_mem 638 (by decide +kernel) rfl
theorem kc_X1_23 : Cond.constant RX1 23 65536 ∈ gt_tbl := gt_mem 639 (by decide +kernel) rfl
theorem km_X1_33 : Cond.methodLink RX1 33 yX8_setAsleep ∈ gt_tbl := gt_mem 640 (by decide +kernel) rfl
theorem km_X1_43 : Cond.methodLink RX1 43 yX1_sitByDraw ∈ gt_tbl := gt_mem 641 (by decide +kernel) rfl
theorem kv_X1_sitByDraw : gt_V yX1_sitByDraw cX1_sitByDraw 5 none 3 := ⟨gt_mem 643 (by decide +kernel) rfl, gt_memp (y := yX1_sitByDraw) (c := 1) 16 (by decide +kernel), gt_mem 6 (by decide +kernel) rfl, gt_mem 644 (by decide +kernel) rfl, ⟨by decide +kernel, by decide +kernel, by decide +kernel⟩, by decide⟩
theorem km_X1_50 : Cond.methodLink RX1 50 yX8_sitterAt ∈ gt_tbl := gt_mem 645 (by decide +kernel) rfl
theorem km_L_77 : Cond.methodLink RL 77 yX9_undo ∈ gt_tbl := gt_mem 646 (by decide +kernel) rfl
theorem kv_X9_undo : gt_V yX9_undo cX9_undo 1 (some .int) 0 := ⟨gt_mem 647 (by decide +kernel) rfl, gt_mem 648 (by decide +kernel) rfl, gt_mem 1 (by decide +kernel) rfl, gt_mem 649 (by decide +kernel) rfl, ⟨by decide +kernel, by decide +kernel, by decide +kernel⟩, by decide⟩
theorem km_X9_254 : Cond.methodLink RX9 254 yX4_recall ∈ gt_tbl := gt_mem 650 (by decide +kernel) rfl
theorem kv_X4_recall : gt_V yX4_recall cX4_recall 2 none 1 := ⟨gt_mem 651 (by decide +kernel) rfl, gt_mem 652 (by decide +kernel) rfl, gt_mem 5 (by decide +kernel) rfl, gt_mem 653 (by decide +kernel) rfl, ⟨by decide +kernel, by decide +kernel, by decide +kernel⟩, by decide⟩
theorem km_L_81 : Cond.methodLink RL 81 yX9_sea ∈ gt_tbl := gt_mem 654 (by decide +kernel) rfl
theorem kv_X9_sea : gt_V yX9_sea cX9_sea 5 (some .int) 3 := ⟨gt_mem 655 (by decide +kernel) rfl, gt_mem 656 (by decide +kernel) rfl, gt_mem 1 (by decide +kernel) rfl, gt_mem 657 (by decide +kernel) rfl, ⟨by decide +kernel, by decide +kernel, by decide +kernel⟩, by decide⟩
theorem km_X9_257 : Cond.methodLink RX9 257 yX8_copy ∈ gt_tbl := gt_mem 658 (by decide +kernel) rfl
theorem km_X9_260 : Cond.methodLink RX9 260 yX8_wind ∈ gt_tbl := gt_mem 659 (by decide +kernel) rfl
theorem km_L_86 : Cond.methodLink RL 86 yX9_deepest ∈ gt_tbl := gt_mem 660 (by decide +kernel) rfl
theorem kv_X9_deepest : gt_V yX9_deepest cX9_deepest 8 (some .int) 3 := ⟨gt_mem 661 (by decide +kernel) rfl, gt_mem 662 (by decide +kernel) rfl, gt_mem 1 (by decide +kernel) rfl, gt_mem 663 (by decide +kernel) rfl, ⟨by decide +kernel, by decide +kernel, by decide +kernel⟩, by decide⟩
theorem km_L_90 : Cond.methodLink RL 90 yX9_comes ∈ gt_tbl := gt_mem 664 (by decide +kernel) rfl
theorem kv_X9_comes : gt_V yX9_comes cX9_comes 3 (some .int) 1 := ⟨gt_mem 665 (by decide +kernel) rfl, gt_mem 666 (by decide +kernel) rfl, gt_mem 1 (by decide +kernel) rfl, gt_mem 667 (by decide +kernel) rfl, ⟨by decide +kernel, by decide +kernel, by decide +kernel⟩, by decide⟩
theorem km_X9_263 : Cond.methodLink RX9 263 yX8_sail ∈ gt_tbl := gt_mem 668 (by decide +kernel) rfl
theorem km_L_94 : Cond.methodLink RL 94 yX9_seats ∈ gt_tbl := gt_mem 669 (by decide +kernel) rfl
theorem kv_X9_seats : gt_V yX9_seats cX9_seats 6 (some .int) 4 := ⟨gt_mem 670 (by decide +kernel) rfl, gt_mem 671 (by decide +kernel) rfl, gt_mem 1 (by decide +kernel) rfl, gt_mem 672 (by decide +kernel) rfl, ⟨by decide +kernel, by decide +kernel, by decide +kernel⟩, by decide⟩
theorem km_X9_267 : Cond.methodLink RX9 267 yX5_search ∈ gt_tbl := gt_mem 673 (by decide +kernel) rfl
theorem kv_X5_search : gt_V yX5_search cX5_search 8 (some .int) 5 := ⟨gt_mem 674 (by decide +kernel) rfl, gt_mem 675 (by decide +kernel) rfl, gt_mem 8 (by decide +kernel) rfl, gt_mem 676 (by decide +kernel) rfl, ⟨by decide +kernel, by decide +kernel, by decide +kernel⟩, by decide⟩
theorem km_X5_31 : Cond.methodLink RX5 31 yX5_seaIfAllRest ∈ gt_tbl := gt_mem 677 (by decide +kernel) rfl
theorem kv_X5_seaIfAllRest : gt_V yX5_seaIfAllRest cX5_seaIfAllRest 7 (some .int) 4 := ⟨gt_mem 679 (by decide +kernel) rfl, gt_memp (y := yX5_seaIfAllRest) (c := 6) 17 (by decide +kernel), gt_mem 8 (by decide +kernel) rfl, gt_mem 680 (by decide +kernel) rfl, ⟨by decide +kernel, by decide +kernel, by decide +kernel⟩, by decide⟩
theorem km_X5_70 : Cond.methodLink RX5 70 yX5_letDown ∈ gt_tbl := gt_mem 681 (by decide +kernel) rfl
theorem kv_X5_letDown : gt_S yX5_letDown cX5_letDown 2 (some .int) 2 := ⟨gt_mem 682 (by decide +kernel) rfl, gt_mem 8 (by decide +kernel) rfl, gt_mem 683 (by decide +kernel) rfl, ⟨by decide +kernel, by decide +kernel, by decide +kernel⟩, by decide⟩
theorem km_X5_77 : Cond.methodLink RX5 77 Lib.Math.max.name ∈ gt_tbl := gt_mem 684 (by decide +kernel) rfl
theorem km_X5_73 : Cond.methodLink RX5 73 yX0_bears ∈ gt_tbl := gt_mem 685 (by decide +kernel) rfl
theorem km_X5_39 : Cond.methodLink RX5 39 yX5_noteGains ∈ gt_tbl := gt_mem 686 (by decide +kernel) rfl
theorem kv_X5_noteGains : gt_V yX5_noteGains cX5_noteGains 9 none 4 := ⟨gt_mem 688 (by decide +kernel) rfl, gt_memp (y := yX5_noteGains) (c := 6) 18 (by decide +kernel), gt_mem 8 (by decide +kernel) rfl, gt_mem 689 (by decide +kernel) rfl, ⟨by decide +kernel, by decide +kernel, by decide +kernel⟩, by decide⟩
theorem km_X5_80 : Cond.methodLink RX5 80 yJ7_fill_53178 ∈ gt_tbl := gt_mem 690 (by decide +kernel) rfl
theorem km_X5_86 : Cond.methodLink RX5 86 yX5_woundBy ∈ gt_tbl := gt_mem 691 (by decide +kernel) rfl
theorem kv_X5_woundBy : gt_S yX5_woundBy cX5_woundBy 7 (some .int) 5 := ⟨gt_mem 692 (by decide +kernel) rfl, gt_mem 8 (by decide +kernel) rfl, gt_mem 693 (by decide +kernel) rfl, ⟨by decide +kernel, by decide +kernel, by decide +kernel⟩, by decide⟩
theorem km_X5_94 : Cond.methodLink RX5 94 yX8_sleeps ∈ gt_tbl := gt_mem 694 (by decide +kernel) rfl
theorem km_X5_55 : Cond.methodLink RX5 55 Lib.Math.min.name ∈ gt_tbl := gt_mem 695 (by decide +kernel) rfl
theorem km_X5_104 : Cond.methodLink RX5 104 yX8_woundMore ∈ gt_tbl := gt_mem 696 (by decide +kernel) rfl
theorem km_X5_90 : Cond.methodLink RX5 90 yX5_noteMostGain ∈ gt_tbl := gt_mem 697 (by decide +kernel) rfl
theorem kv_X5_noteMostGain : gt_V yX5_noteMostGain cX5_noteMostGain 4 none 2 := ⟨gt_mem 699 (by decide +kernel) rfl, gt_memp (y := yX5_noteMostGain) (c := 6) 19 (by decide +kernel), gt_mem 8 (by decide +kernel) rfl, gt_mem 700 (by decide +kernel) rfl, ⟨by decide +kernel, by decide +kernel, by decide +kernel⟩, by decide⟩
theorem kc_X5_45 : Cond.constant RX5 45 2147483647 ∈ gt_tbl := gt_mem 701 (by decide +kernel) rfl
theorem km_X5_61 : Cond.methodLink RX5 61 yX5_seatFrom ∈ gt_tbl := gt_mem 702 (by decide +kernel) rfl
theorem kv_X5_seatFrom : gt_S yX5_seatFrom cX5_seatFrom 8 none 7 := ⟨gt_mem 703 (by decide +kernel) rfl, gt_mem 8 (by decide +kernel) rfl, gt_mem 704 (by decide +kernel) rfl, ⟨by decide +kernel, by decide +kernel, by decide +kernel⟩, by decide⟩
theorem km_X5_107 : Cond.methodLink RX5 107 yX5_take ∈ gt_tbl := gt_mem 705 (by decide +kernel) rfl
theorem kv_X5_take : gt_V yX5_take cX5_take 3 none 2 := ⟨gt_mem 707 (by decide +kernel) rfl, gt_memp (y := yX5_take) (c := 6) 20 (by decide +kernel), gt_mem 8 (by decide +kernel) rfl, gt_mem 708 (by decide +kernel) rfl, ⟨by decide +kernel, by decide +kernel, by decide +kernel⟩, by decide⟩
theorem km_X5_110 : Cond.methodLink RX5 110 arraycopyName ∈ gt_tbl := gt_mem 709 (by decide +kernel) rfl
theorem km_L_99 : Cond.methodLink RL 99 yX9_leave ∈ gt_tbl := gt_mem 710 (by decide +kernel) rfl
theorem kv_X9_leave : gt_V yX9_leave cX9_leave 6 (some .int) 1 := ⟨gt_mem 711 (by decide +kernel) rfl, gt_mem 712 (by decide +kernel) rfl, gt_mem 1 (by decide +kernel) rfl, gt_mem 713 (by decide +kernel) rfl, ⟨by decide +kernel, by decide +kernel, by decide +kernel⟩, by decide⟩
theorem km_L_103 : Cond.methodLink RL 103 yX9_share ∈ gt_tbl := gt_mem 714 (by decide +kernel) rfl
theorem kv_X9_share : gt_V yX9_share cX9_share 6 (some .int) 2 := ⟨gt_mem 715 (by decide +kernel) rfl, gt_mem 716 (by decide +kernel) rfl, gt_mem 1 (by decide +kernel) rfl, gt_mem 717 (by decide +kernel) rfl, ⟨by decide +kernel, by decide +kernel, by decide +kernel⟩, by decide⟩
theorem km_X9_274 : Cond.methodLink RX9 274 yX8_dryGround ∈ gt_tbl := gt_mem 718 (by decide +kernel) rfl
theorem kv_X8_dryGround : gt_V yX8_dryGround cX8_dryGround 4 (some .int) 1 := ⟨gt_mem 719 (by decide +kernel) rfl, gt_mem 720 (by decide +kernel) rfl, gt_mem 4 (by decide +kernel) rfl, gt_mem 721 (by decide +kernel) rfl, ⟨by decide +kernel, by decide +kernel, by decide +kernel⟩, by decide⟩
theorem km_X9_277 : Cond.methodLink RX9 277 yX9_shareOf ∈ gt_tbl := gt_mem 722 (by decide +kernel) rfl
theorem kv_X9_shareOf : gt_V yX9_shareOf cX9_shareOf 4 (some .int) 3 := ⟨gt_mem 724 (by decide +kernel) rfl, gt_memp (y := yX9_shareOf) (c := 12) 21 (by decide +kernel), gt_mem 1 (by decide +kernel) rfl, gt_mem 725 (by decide +kernel) rfl, ⟨by decide +kernel, by decide +kernel, by decide +kernel⟩, by decide⟩
theorem km_L_107 : Cond.methodLink RL 107 yX9_calm ∈ gt_tbl := gt_mem 726 (by decide +kernel) rfl
theorem kv_X9_calm : gt_V yX9_calm cX9_calm 6 (some .int) 2 := ⟨gt_mem 727 (by decide +kernel) rfl, gt_mem 728 (by decide +kernel) rfl, gt_mem 1 (by decide +kernel) rfl, gt_mem 729 (by decide +kernel) rfl, ⟨by decide +kernel, by decide +kernel, by decide +kernel⟩, by decide⟩
theorem kc_X9_281 : Cond.constantLong RX9 281 1000000000 ∈ gt_tbl := gt_mem 730 (by decide +kernel) rfl
theorem kc_X9_283 : Cond.constantLong RX9 283 100 ∈ gt_tbl := gt_mem 731 (by decide +kernel) rfl
theorem km_L_111 : Cond.methodLink RL 111 yX9_mark ∈ gt_tbl := gt_mem 732 (by decide +kernel) rfl
theorem kv_X9_mark : gt_V yX9_mark cX9_mark 4 (some .int) 3 := ⟨gt_mem 733 (by decide +kernel) rfl, gt_mem 734 (by decide +kernel) rfl, gt_mem 1 (by decide +kernel) rfl, gt_mem 735 (by decide +kernel) rfl, ⟨by decide +kernel, by decide +kernel, by decide +kernel⟩, by decide⟩
theorem km_X9_285 : Cond.methodLink RX9 285 yX3_addMark ∈ gt_tbl := gt_mem 736 (by decide +kernel) rfl
theorem kv_X3_addMark : gt_V yX3_addMark cX3_addMark 4 (some .int) 3 := ⟨gt_mem 737 (by decide +kernel) rfl, gt_mem 738 (by decide +kernel) rfl, gt_mem 7 (by decide +kernel) rfl, gt_mem 739 (by decide +kernel) rfl, ⟨by decide +kernel, by decide +kernel, by decide +kernel⟩, by decide⟩
theorem kc_X3_46 : Cond.constant RX3 46 (-1000000004) ∈ gt_tbl := gt_mem 740 (by decide +kernel) rfl
theorem km_L_115 : Cond.methodLink RL 115 yX9_look ∈ gt_tbl := gt_mem 741 (by decide +kernel) rfl
theorem kv_X9_look : gt_V yX9_look cX9_look 2 (some .int) 0 := ⟨gt_mem 742 (by decide +kernel) rfl, gt_mem 743 (by decide +kernel) rfl, gt_mem 1 (by decide +kernel) rfl, gt_mem 744 (by decide +kernel) rfl, ⟨by decide +kernel, by decide +kernel, by decide +kernel⟩, by decide⟩
theorem km_X9_288 : Cond.methodLink RX9 288 yX7_bestMark ∈ gt_tbl := gt_mem 745 (by decide +kernel) rfl
theorem kv_X7_bestMark : gt_V yX7_bestMark cX7_bestMark 10 (some .int) 4 := ⟨gt_mem 746 (by decide +kernel) rfl, gt_mem 747 (by decide +kernel) rfl, gt_mem 9 (by decide +kernel) rfl, gt_mem 748 (by decide +kernel) rfl, ⟨by decide +kernel, by decide +kernel, by decide +kernel⟩, by decide⟩
theorem km_X7_57 : Cond.methodLink RX7 57 yX7_noteSeas ∈ gt_tbl := gt_mem 749 (by decide +kernel) rfl
theorem kv_X7_noteSeas : gt_V yX7_noteSeas cX7_noteSeas 6 none 3 := ⟨gt_mem 751 (by decide +kernel) rfl, gt_memp (y := yX7_noteSeas) (c := 1) 22 (by decide +kernel), gt_mem 9 (by decide +kernel) rfl, gt_mem 752 (by decide +kernel) rfl, ⟨by decide +kernel, by decide +kernel, by decide +kernel⟩, by decide⟩
theorem km_X7_68 : Cond.methodLink RX7 68 yX8_seaAt ∈ gt_tbl := gt_mem 753 (by decide +kernel) rfl
theorem km_X7_64 : Cond.methodLink RX7 64 yX7_mostAlike ∈ gt_tbl := gt_mem 754 (by decide +kernel) rfl
theorem kv_X7_mostAlike : gt_V yX7_mostAlike cX7_mostAlike 7 (some .int) 2 := ⟨gt_mem 756 (by decide +kernel) rfl, gt_memp (y := yX7_mostAlike) (c := 1) 23 (by decide +kernel), gt_mem 9 (by decide +kernel) rfl, gt_mem 757 (by decide +kernel) rfl, ⟨by decide +kernel, by decide +kernel, by decide +kernel⟩, by decide⟩
theorem km_X7_72 : Cond.methodLink RX7 72 Lib.Math.max.name ∈ gt_tbl := gt_mem 758 (by decide +kernel) rfl
theorem km_L_119 : Cond.methodLink RL 119 yX9_see ∈ gt_tbl := gt_mem 759 (by decide +kernel) rfl
theorem kv_X9_see : gt_V yX9_see cX9_see 4 (some .int) 3 := ⟨gt_mem 760 (by decide +kernel) rfl, gt_mem 761 (by decide +kernel) rfl, gt_mem 1 (by decide +kernel) rfl, gt_mem 762 (by decide +kernel) rfl, ⟨by decide +kernel, by decide +kernel, by decide +kernel⟩, by decide⟩
theorem km_X9_292 : Cond.methodLink RX9 292 yX3_addSeen ∈ gt_tbl := gt_mem 763 (by decide +kernel) rfl
theorem kv_X3_addSeen : gt_V yX3_addSeen cX3_addSeen 4 (some .int) 3 := ⟨gt_mem 764 (by decide +kernel) rfl, gt_mem 765 (by decide +kernel) rfl, gt_mem 7 (by decide +kernel) rfl, gt_mem 766 (by decide +kernel) rfl, ⟨by decide +kernel, by decide +kernel, by decide +kernel⟩, by decide⟩
theorem km_L_123 : Cond.methodLink RL 123 yX9_write ∈ gt_tbl := gt_mem 767 (by decide +kernel) rfl
theorem kv_X9_write : gt_V yX9_write cX9_write 3 (some .int) 2 := ⟨gt_mem 768 (by decide +kernel) rfl, gt_mem 769 (by decide +kernel) rfl, gt_mem 1 (by decide +kernel) rfl, gt_mem 770 (by decide +kernel) rfl, ⟨by decide +kernel, by decide +kernel, by decide +kernel⟩, by decide⟩
theorem km_X9_295 : Cond.methodLink RX9 295 yX3_addEntry ∈ gt_tbl := gt_mem 771 (by decide +kernel) rfl
theorem kv_X3_addEntry : gt_V yX3_addEntry cX3_addEntry 3 (some .int) 2 := ⟨gt_mem 772 (by decide +kernel) rfl, gt_mem 773 (by decide +kernel) rfl, gt_mem 7 (by decide +kernel) rfl, gt_mem 774 (by decide +kernel) rfl, ⟨by decide +kernel, by decide +kernel, by decide +kernel⟩, by decide⟩
theorem km_L_127 : Cond.methodLink RL 127 yX9_tear ∈ gt_tbl := gt_mem 775 (by decide +kernel) rfl
theorem kv_X9_tear : gt_V yX9_tear cX9_tear 2 (some .int) 0 := ⟨gt_mem 776 (by decide +kernel) rfl, gt_mem 777 (by decide +kernel) rfl, gt_mem 1 (by decide +kernel) rfl, gt_mem 778 (by decide +kernel) rfl, ⟨by decide +kernel, by decide +kernel, by decide +kernel⟩, by decide⟩
theorem km_L_131 : Cond.methodLink RL 131 yX9_judge ∈ gt_tbl := gt_mem 779 (by decide +kernel) rfl
theorem kv_X9_judge : gt_V yX9_judge cX9_judge 1 (some .int) 0 := ⟨gt_mem 780 (by decide +kernel) rfl, gt_mem 781 (by decide +kernel) rfl, gt_mem 1 (by decide +kernel) rfl, gt_mem 782 (by decide +kernel) rfl, ⟨by decide +kernel, by decide +kernel, by decide +kernel⟩, by decide⟩
theorem km_X9_299 : Cond.methodLink RX9 299 yX3_firstWrong ∈ gt_tbl := gt_mem 783 (by decide +kernel) rfl
theorem kv_X3_firstWrong : gt_V yX3_firstWrong cX3_firstWrong 4 (some .int) 2 := ⟨gt_mem 784 (by decide +kernel) rfl, gt_mem 785 (by decide +kernel) rfl, gt_mem 7 (by decide +kernel) rfl, gt_mem 786 (by decide +kernel) rfl, ⟨by decide +kernel, by decide +kernel, by decide +kernel⟩, by decide⟩
theorem km_L_135 : Cond.methodLink RL 135 yX9_seed ∈ gt_tbl := gt_mem 787 (by decide +kernel) rfl
theorem kv_X9_seed : gt_V yX9_seed cX9_seed 3 (some .int) 1 := ⟨gt_mem 788 (by decide +kernel) rfl, gt_mem 789 (by decide +kernel) rfl, gt_mem 1 (by decide +kernel) rfl, gt_mem 790 (by decide +kernel) rfl, ⟨by decide +kernel, by decide +kernel, by decide +kernel⟩, by decide⟩
theorem km_L_139 : Cond.methodLink RL 139 yX9_keep ∈ gt_tbl := gt_mem 791 (by decide +kernel) rfl
theorem kv_X9_keep : gt_V yX9_keep cX9_keep 2 (some .int) 1 := ⟨gt_mem 792 (by decide +kernel) rfl, gt_mem 793 (by decide +kernel) rfl, gt_mem 1 (by decide +kernel) rfl, gt_mem 794 (by decide +kernel) rfl, ⟨by decide +kernel, by decide +kernel, by decide +kernel⟩, by decide⟩
theorem km_L_143 : Cond.methodLink RL 143 yX9_goBack ∈ gt_tbl := gt_mem 795 (by decide +kernel) rfl
theorem kv_X9_goBack : gt_V yX9_goBack cX9_goBack 2 (some .int) 1 := ⟨gt_mem 796 (by decide +kernel) rfl, gt_mem 797 (by decide +kernel) rfl, gt_mem 1 (by decide +kernel) rfl, gt_mem 798 (by decide +kernel) rfl, ⟨by decide +kernel, by decide +kernel, by decide +kernel⟩, by decide⟩
theorem km_L_12 : Cond.methodLink RL 12 yX10_init ∈ gt_tbl := gt_mem 801 (by decide +kernel) rfl
theorem kv_X10_init : gt_I yX10_init cX10_init 1 0 := ⟨rfl, gt_mem 802 (by decide +kernel) rfl, gt_mem 11 (by decide +kernel) rfl, gt_mem 803 (by decide +kernel) rfl, ⟨by decide +kernel, by decide +kernel, by decide +kernel⟩, by decide⟩
theorem km_X10_1 : Cond.methodLink RX10 1 Lib.objectInit ∈ gt_tbl := gt_mem 804 (by decide +kernel) rfl
theorem km_X10_57 : Cond.methodLink RX10 57 yX10_begins ∈ gt_tbl := gt_mem 805 (by decide +kernel) rfl
theorem kv_X10_begins : gt_V yX10_begins cX10_begins 2 none 0 := ⟨gt_mem 807 (by decide +kernel) rfl, gt_memp (y := yX10_begins) (c := 29) 24 (by decide +kernel), gt_mem 11 (by decide +kernel) rfl, gt_mem 808 (by decide +kernel) rfl, ⟨by decide +kernel, by decide +kernel, by decide +kernel⟩, by decide⟩
theorem kc_X10_60 : Cond.constantLong RX10 60 12 ∈ gt_tbl := gt_mem 809 (by decide +kernel) rfl
theorem kc_X10_62 : Cond.constantLong RX10 62 17 ∈ gt_tbl := gt_mem 810 (by decide +kernel) rfl
theorem km_X10_64 : Cond.methodLink RX10 64 yX10_in ∈ gt_tbl := gt_mem 811 (by decide +kernel) rfl
theorem kv_X10_in : gt_S yX10_in cX10_in 6 (some .boolean) 3 := ⟨gt_mem 812 (by decide +kernel) rfl, gt_mem 11 (by decide +kernel) rfl, gt_mem 813 (by decide +kernel) rfl, ⟨by decide +kernel, by decide +kernel, by decide +kernel⟩, by decide⟩
theorem km_X10_68 : Cond.methodLink RX10 68 yX10_copies ∈ gt_tbl := gt_mem 814 (by decide +kernel) rfl
theorem kv_X10_copies : gt_S yX10_copies cX10_copies 6 none 5 := ⟨gt_mem 815 (by decide +kernel) rfl, gt_mem 11 (by decide +kernel) rfl, gt_mem 816 (by decide +kernel) rfl, ⟨by decide +kernel, by decide +kernel, by decide +kernel⟩, by decide⟩
theorem km_L_17 : Cond.methodLink RL 17 yX10_feed ∈ gt_tbl := gt_mem 906 (by decide +kernel) rfl
theorem kv_X10_feed : gt_V yX10_feed cX10_feed 2 (some .int) 1 := ⟨gt_mem 907 (by decide +kernel) rfl, gt_mem 908 (by decide +kernel) rfl, gt_mem 11 (by decide +kernel) rfl, gt_mem 909 (by decide +kernel) rfl, ⟨by decide +kernel, by decide +kernel, by decide +kernel⟩, by decide⟩
theorem kc_X10_84 : Cond.constantLong RX10 84 255 ∈ gt_tbl := gt_mem 910 (by decide +kernel) rfl
theorem kc_X10_86 : Cond.constant RX10 86 (-1000000002) ∈ gt_tbl := gt_mem 911 (by decide +kernel) rfl
theorem kc_X10_90 : Cond.constant RX10 90 (-1000000004) ∈ gt_tbl := gt_mem 912 (by decide +kernel) rfl
theorem km_L_22 : Cond.methodLink RL 22 yX10_coast ∈ gt_tbl := gt_mem 913 (by decide +kernel) rfl
theorem kv_X10_coast : gt_V yX10_coast cX10_coast 2 (some .int) 0 := ⟨gt_mem 914 (by decide +kernel) rfl, gt_mem 915 (by decide +kernel) rfl, gt_mem 11 (by decide +kernel) rfl, gt_mem 916 (by decide +kernel) rfl, ⟨by decide +kernel, by decide +kernel, by decide +kernel⟩, by decide⟩
theorem km_X10_117 : Cond.methodLink RX10 117 yX10_step ∈ gt_tbl := gt_mem 917 (by decide +kernel) rfl
theorem kv_X10_step : gt_V yX10_step cX10_step 1 none 0 := ⟨gt_mem 919 (by decide +kernel) rfl, gt_memp (y := yX10_step) (c := 29) 25 (by decide +kernel), gt_mem 11 (by decide +kernel) rfl, gt_mem 920 (by decide +kernel) rfl, ⟨by decide +kernel, by decide +kernel, by decide +kernel⟩, by decide⟩
theorem km_X10_94 : Cond.methodLink RX10 94 yX10_here ∈ gt_tbl := gt_mem 921 (by decide +kernel) rfl
theorem kv_X10_here : gt_V yX10_here cX10_here 1 (some .int) 0 := ⟨gt_mem 923 (by decide +kernel) rfl, gt_memp (y := yX10_here) (c := 29) 26 (by decide +kernel), gt_mem 11 (by decide +kernel) rfl, gt_mem 924 (by decide +kernel) rfl, ⟨by decide +kernel, by decide +kernel, by decide +kernel⟩, by decide⟩
theorem kc_X10_110 : Cond.constantLong RX10 110 48 ∈ gt_tbl := gt_mem 925 (by decide +kernel) rfl
theorem kc_X10_112 : Cond.constantLong RX10 112 57 ∈ gt_tbl := gt_mem 926 (by decide +kernel) rfl
theorem km_X10_144 : Cond.methodLink RX10 144 yX10_readsClause ∈ gt_tbl := gt_mem 927 (by decide +kernel) rfl
theorem kv_X10_readsClause : gt_V yX10_readsClause cX10_readsClause 1 (some .boolean) 0 := ⟨gt_mem 929 (by decide +kernel) rfl, gt_memp (y := yX10_readsClause) (c := 29) 27 (by decide +kernel), gt_mem 11 (by decide +kernel) rfl, gt_mem 930 (by decide +kernel) rfl, ⟨by decide +kernel, by decide +kernel, by decide +kernel⟩, by decide⟩
theorem km_X10_132 : Cond.methodLink RX10 132 yX10_readsCells ∈ gt_tbl := gt_mem 931 (by decide +kernel) rfl
theorem kv_X10_readsCells : gt_V yX10_readsCells cX10_readsCells 2 (some .boolean) 0 := ⟨gt_mem 933 (by decide +kernel) rfl, gt_memp (y := yX10_readsCells) (c := 29) 28 (by decide +kernel), gt_mem 11 (by decide +kernel) rfl, gt_mem 934 (by decide +kernel) rfl, ⟨by decide +kernel, by decide +kernel, by decide +kernel⟩, by decide⟩
theorem km_X10_120 : Cond.methodLink RX10 120 yX10_fails ∈ gt_tbl := gt_mem 935 (by decide +kernel) rfl
theorem kv_X10_fails : gt_V yX10_fails cX10_fails 2 (some .boolean) 1 := ⟨gt_mem 937 (by decide +kernel) rfl, gt_memp (y := yX10_fails) (c := 29) 29 (by decide +kernel), gt_mem 11 (by decide +kernel) rfl, gt_mem 938 (by decide +kernel) rfl, ⟨by decide +kernel, by decide +kernel, by decide +kernel⟩, by decide⟩
theorem km_X10_124 : Cond.methodLink RX10 124 yX10_number ∈ gt_tbl := gt_mem 939 (by decide +kernel) rfl
theorem kv_X10_number : gt_V yX10_number cX10_number 4 (some .boolean) 3 := ⟨gt_mem 941 (by decide +kernel) rfl, gt_memp (y := yX10_number) (c := 29) 30 (by decide +kernel), gt_mem 11 (by decide +kernel) rfl, gt_mem 942 (by decide +kernel) rfl, ⟨by decide +kernel, by decide +kernel, by decide +kernel⟩, by decide⟩
theorem km_X10_135 : Cond.methodLink RX10 135 yX10_readsTower ∈ gt_tbl := gt_mem 943 (by decide +kernel) rfl
theorem kv_X10_readsTower : gt_V yX10_readsTower cX10_readsTower 2 (some .boolean) 0 := ⟨gt_mem 945 (by decide +kernel) rfl, gt_memp (y := yX10_readsTower) (c := 29) 31 (by decide +kernel), gt_mem 11 (by decide +kernel) rfl, gt_mem 946 (by decide +kernel) rfl, ⟨by decide +kernel, by decide +kernel, by decide +kernel⟩, by decide⟩
theorem km_X10_128 : Cond.methodLink RX10 128 yX10_ends ∈ gt_tbl := gt_mem 947 (by decide +kernel) rfl
theorem kv_X10_ends : gt_V yX10_ends cX10_ends 1 (some .boolean) 0 := ⟨gt_mem 949 (by decide +kernel) rfl, gt_memp (y := yX10_ends) (c := 29) 32 (by decide +kernel), gt_mem 11 (by decide +kernel) rfl, gt_mem 950 (by decide +kernel) rfl, ⟨by decide +kernel, by decide +kernel, by decide +kernel⟩, by decide⟩
theorem km_X10_138 : Cond.methodLink RX10 138 yX10_readsPlayer ∈ gt_tbl := gt_mem 951 (by decide +kernel) rfl
theorem kv_X10_readsPlayer : gt_V yX10_readsPlayer cX10_readsPlayer 2 (some .boolean) 0 := ⟨gt_mem 953 (by decide +kernel) rfl, gt_memp (y := yX10_readsPlayer) (c := 29) 33 (by decide +kernel), gt_mem 11 (by decide +kernel) rfl, gt_mem 954 (by decide +kernel) rfl, ⟨by decide +kernel, by decide +kernel, by decide +kernel⟩, by decide⟩
theorem km_X10_141 : Cond.methodLink RX10 141 yX10_readsBoat ∈ gt_tbl := gt_mem 955 (by decide +kernel) rfl
theorem kv_X10_readsBoat : gt_V yX10_readsBoat cX10_readsBoat 2 (some .boolean) 0 := ⟨gt_mem 957 (by decide +kernel) rfl, gt_memp (y := yX10_readsBoat) (c := 29) 34 (by decide +kernel), gt_mem 11 (by decide +kernel) rfl, gt_mem 958 (by decide +kernel) rfl, ⟨by decide +kernel, by decide +kernel, by decide +kernel⟩, by decide⟩
theorem km_L_26 : Cond.methodLink RL 26 yX10_fault ∈ gt_tbl := gt_mem 959 (by decide +kernel) rfl
theorem kv_X10_fault : gt_V yX10_fault cX10_fault 1 (some .int) 0 := ⟨gt_mem 960 (by decide +kernel) rfl, gt_mem 961 (by decide +kernel) rfl, gt_mem 11 (by decide +kernel) rfl, gt_mem 962 (by decide +kernel) rfl, ⟨by decide +kernel, by decide +kernel, by decide +kernel⟩, by decide⟩
theorem km_L_30 : Cond.methodLink RL 30 yX10_told ∈ gt_tbl := gt_mem 963 (by decide +kernel) rfl
theorem kv_X10_told : gt_V yX10_told cX10_told 2 (some .int) 1 := ⟨gt_mem 964 (by decide +kernel) rfl, gt_mem 965 (by decide +kernel) rfl, gt_mem 11 (by decide +kernel) rfl, gt_mem 966 (by decide +kernel) rfl, ⟨by decide +kernel, by decide +kernel, by decide +kernel⟩, by decide⟩
theorem km_X10_169 : Cond.methodLink RX10 169 yX10_slopeOn ∈ gt_tbl := gt_mem 967 (by decide +kernel) rfl
theorem kv_X10_slopeOn : gt_V yX10_slopeOn cX10_slopeOn 3 (some .int) 1 := ⟨gt_mem 969 (by decide +kernel) rfl, gt_memp (y := yX10_slopeOn) (c := 29) 35 (by decide +kernel), gt_mem 11 (by decide +kernel) rfl, gt_mem 970 (by decide +kernel) rfl, ⟨by decide +kernel, by decide +kernel, by decide +kernel⟩, by decide⟩
theorem km_X10_162 : Cond.methodLink RX10 162 yX10_steepest ∈ gt_tbl := gt_mem 971 (by decide +kernel) rfl
theorem kv_X10_steepest : gt_V yX10_steepest cX10_steepest 4 (some .int) 1 := ⟨gt_mem 973 (by decide +kernel) rfl, gt_memp (y := yX10_steepest) (c := 29) 36 (by decide +kernel), gt_mem 11 (by decide +kernel) rfl, gt_mem 974 (by decide +kernel) rfl, ⟨by decide +kernel, by decide +kernel, by decide +kernel⟩, by decide⟩
theorem km_X10_159 : Cond.methodLink RX10 159 yX10_unlike ∈ gt_tbl := gt_mem 975 (by decide +kernel) rfl
theorem kv_X10_unlike : gt_V yX10_unlike cX10_unlike 4 (some .int) 2 := ⟨gt_mem 977 (by decide +kernel) rfl, gt_memp (y := yX10_unlike) (c := 29) 37 (by decide +kernel), gt_mem 11 (by decide +kernel) rfl, gt_mem 978 (by decide +kernel) rfl, ⟨by decide +kernel, by decide +kernel, by decide +kernel⟩, by decide⟩
theorem km_X10_155 : Cond.methodLink RX10 155 yX10_seaOn ∈ gt_tbl := gt_mem 979 (by decide +kernel) rfl
theorem kv_X10_seaOn : gt_V yX10_seaOn cX10_seaOn 5 (some .int) 2 := ⟨gt_mem 981 (by decide +kernel) rfl, gt_memp (y := yX10_seaOn) (c := 29) 38 (by decide +kernel), gt_mem 11 (by decide +kernel) rfl, gt_mem 982 (by decide +kernel) rfl, ⟨by decide +kernel, by decide +kernel, by decide +kernel⟩, by decide⟩
theorem km_X10_151 : Cond.methodLink RX10 151 yX10_bears ∈ gt_tbl := gt_mem 983 (by decide +kernel) rfl
theorem kv_X10_bears : gt_V yX10_bears cX10_bears 5 (some .int) 3 := ⟨gt_mem 985 (by decide +kernel) rfl, gt_memp (y := yX10_bears) (c := 29) 39 (by decide +kernel), gt_mem 11 (by decide +kernel) rfl, gt_mem 986 (by decide +kernel) rfl, ⟨by decide +kernel, by decide +kernel, by decide +kernel⟩, by decide⟩
theorem km_X10_147 : Cond.methodLink RX10 147 yX10_greater ∈ gt_tbl := gt_mem 987 (by decide +kernel) rfl
theorem kv_X10_greater : gt_S yX10_greater cX10_greater 2 (some .int) 2 := ⟨gt_mem 988 (by decide +kernel) rfl, gt_mem 11 (by decide +kernel) rfl, gt_mem 989 (by decide +kernel) rfl, ⟨by decide +kernel, by decide +kernel, by decide +kernel⟩, by decide⟩
theorem km_X10_172 : Cond.methodLink RX10 172 yX10_wet ∈ gt_tbl := gt_mem 990 (by decide +kernel) rfl
theorem kv_X10_wet : gt_V yX10_wet cX10_wet 3 (some .int) 0 := ⟨gt_mem 992 (by decide +kernel) rfl, gt_memp (y := yX10_wet) (c := 29) 40 (by decide +kernel), gt_mem 11 (by decide +kernel) rfl, gt_mem 993 (by decide +kernel) rfl, ⟨by decide +kernel, by decide +kernel, by decide +kernel⟩, by decide⟩
theorem km_X10_166 : Cond.methodLink RX10 166 yX10_depthOn ∈ gt_tbl := gt_mem 994 (by decide +kernel) rfl
theorem kv_X10_depthOn : gt_V yX10_depthOn cX10_depthOn 3 (some .int) 2 := ⟨gt_mem 996 (by decide +kernel) rfl, gt_memp (y := yX10_depthOn) (c := 29) 41 (by decide +kernel), gt_mem 11 (by decide +kernel) rfl, gt_mem 997 (by decide +kernel) rfl, ⟨by decide +kernel, by decide +kernel, by decide +kernel⟩, by decide⟩
theorem km_X10_175 : Cond.methodLink RX10 175 yX10_boats ∈ gt_tbl := gt_mem 998 (by decide +kernel) rfl
theorem kv_X10_boats : gt_V yX10_boats cX10_boats 5 (some .int) 1 := ⟨gt_mem 1000 (by decide +kernel) rfl, gt_memp (y := yX10_boats) (c := 29) 42 (by decide +kernel), gt_mem 11 (by decide +kernel) rfl, gt_mem 1001 (by decide +kernel) rfl, ⟨by decide +kernel, by decide +kernel, by decide +kernel⟩, by decide⟩
theorem km_X10_179 : Cond.methodLink RX10 179 yX10_whoSits ∈ gt_tbl := gt_mem 1002 (by decide +kernel) rfl
theorem kv_X10_whoSits : gt_V yX10_whoSits cX10_whoSits 3 (some .int) 0 := ⟨gt_mem 1004 (by decide +kernel) rfl, gt_memp (y := yX10_whoSits) (c := 29) 43 (by decide +kernel), gt_mem 11 (by decide +kernel) rfl, gt_mem 1005 (by decide +kernel) rfl, ⟨by decide +kernel, by decide +kernel, by decide +kernel⟩, by decide⟩
theorem km_X10_182 : Cond.methodLink RX10 182 yX10_slept ∈ gt_tbl := gt_mem 1006 (by decide +kernel) rfl
theorem kv_X10_slept : gt_V yX10_slept cX10_slept 5 (some .int) 0 := ⟨gt_mem 1008 (by decide +kernel) rfl, gt_memp (y := yX10_slept) (c := 29) 44 (by decide +kernel), gt_mem 11 (by decide +kernel) rfl, gt_mem 1009 (by decide +kernel) rfl, ⟨by decide +kernel, by decide +kernel, by decide +kernel⟩, by decide⟩
theorem km_X10_289 : Cond.methodLink RX10 289 yX10_layThen ∈ gt_tbl := gt_mem 1010 (by decide +kernel) rfl
theorem kv_X10_layThen : gt_V yX10_layThen cX10_layThen 4 none 1 := ⟨gt_mem 1012 (by decide +kernel) rfl, gt_memp (y := yX10_layThen) (c := 29) 45 (by decide +kernel), gt_mem 11 (by decide +kernel) rfl, gt_mem 1013 (by decide +kernel) rfl, ⟨by decide +kernel, by decide +kernel, by decide +kernel⟩, by decide⟩
theorem km_X10_257 : Cond.methodLink RX10 257 yX10_layAside ∈ gt_tbl := gt_mem 1014 (by decide +kernel) rfl
theorem kv_X10_layAside : gt_V yX10_layAside cX10_layAside 1 none 0 := ⟨gt_mem 1016 (by decide +kernel) rfl, gt_memp (y := yX10_layAside) (c := 29) 46 (by decide +kernel), gt_mem 11 (by decide +kernel) rfl, gt_mem 1017 (by decide +kernel) rfl, ⟨by decide +kernel, by decide +kernel, by decide +kernel⟩, by decide⟩
theorem km_X10_215 : Cond.methodLink RX10 215 yX10_winds ∈ gt_tbl := gt_mem 1018 (by decide +kernel) rfl
theorem kv_X10_winds : gt_V yX10_winds cX10_winds 5 none 1 := ⟨gt_mem 1020 (by decide +kernel) rfl, gt_memp (y := yX10_winds) (c := 29) 47 (by decide +kernel), gt_mem 11 (by decide +kernel) rfl, gt_mem 1021 (by decide +kernel) rfl, ⟨by decide +kernel, by decide +kernel, by decide +kernel⟩, by decide⟩
theorem km_X10_208 : Cond.methodLink RX10 208 yX10_has ∈ gt_tbl := gt_mem 1022 (by decide +kernel) rfl
theorem kv_X10_has : gt_S yX10_has cX10_has 2 (some .boolean) 2 := ⟨gt_mem 1023 (by decide +kernel) rfl, gt_mem 11 (by decide +kernel) rfl, gt_mem 1024 (by decide +kernel) rfl, ⟨by decide +kernel, by decide +kernel, by decide +kernel⟩, by decide⟩
theorem km_X10_212 : Cond.methodLink RX10 212 yX10_lesser ∈ gt_tbl := gt_mem 1025 (by decide +kernel) rfl
theorem kv_X10_lesser : gt_S yX10_lesser cX10_lesser 2 (some .int) 2 := ⟨gt_mem 1026 (by decide +kernel) rfl, gt_mem 11 (by decide +kernel) rfl, gt_mem 1027 (by decide +kernel) rfl, ⟨by decide +kernel, by decide +kernel, by decide +kernel⟩, by decide⟩
theorem km_X10_185 : Cond.methodLink RX10 185 yX10_guts ∈ gt_tbl := gt_mem 1028 (by decide +kernel) rfl
theorem kv_X10_guts : gt_V yX10_guts cX10_guts 5 (some .int) 0 := ⟨gt_mem 1030 (by decide +kernel) rfl, gt_memp (y := yX10_guts) (c := 29) 48 (by decide +kernel), gt_mem 11 (by decide +kernel) rfl, gt_mem 1031 (by decide +kernel) rfl, ⟨by decide +kernel, by decide +kernel, by decide +kernel⟩, by decide⟩
theorem km_L_35 : Cond.methodLink RL 35 yX10_cell ∈ gt_tbl := gt_mem 1032 (by decide +kernel) rfl
theorem kv_X10_cell : gt_V yX10_cell cX10_cell 3 (some .int) 2 := ⟨gt_mem 1033 (by decide +kernel) rfl, gt_mem 1034 (by decide +kernel) rfl, gt_mem 11 (by decide +kernel) rfl, gt_mem 1035 (by decide +kernel) rfl, ⟨by decide +kernel, by decide +kernel, by decide +kernel⟩, by decide⟩
theorem km_X10_188 : Cond.methodLink RX10 188 yX10_isCell ∈ gt_tbl := gt_mem 1036 (by decide +kernel) rfl
theorem kv_X10_isCell : gt_V yX10_isCell cX10_isCell 2 (some .boolean) 1 := ⟨gt_mem 1038 (by decide +kernel) rfl, gt_memp (y := yX10_isCell) (c := 29) 49 (by decide +kernel), gt_mem 11 (by decide +kernel) rfl, gt_mem 1039 (by decide +kernel) rfl, ⟨by decide +kernel, by decide +kernel, by decide +kernel⟩, by decide⟩
theorem kc_X10_191 : Cond.constant RX10 191 (-1000000001) ∈ gt_tbl := gt_mem 1040 (by decide +kernel) rfl
theorem km_X10_192 : Cond.methodLink RX10 192 yX10_strongest ∈ gt_tbl := gt_mem 1041 (by decide +kernel) rfl
theorem kv_X10_strongest : gt_V yX10_strongest cX10_strongest 4 (some .int) 1 := ⟨gt_mem 1043 (by decide +kernel) rfl, gt_memp (y := yX10_strongest) (c := 29) 50 (by decide +kernel), gt_mem 11 (by decide +kernel) rfl, gt_mem 1044 (by decide +kernel) rfl, ⟨by decide +kernel, by decide +kernel, by decide +kernel⟩, by decide⟩
theorem km_L_39 : Cond.methodLink RL 39 yX10_tower ∈ gt_tbl := gt_mem 1045 (by decide +kernel) rfl
theorem kv_X10_tower : gt_V yX10_tower cX10_tower 3 (some .int) 2 := ⟨gt_mem 1046 (by decide +kernel) rfl, gt_mem 1047 (by decide +kernel) rfl, gt_mem 11 (by decide +kernel) rfl, gt_mem 1048 (by decide +kernel) rfl, ⟨by decide +kernel, by decide +kernel, by decide +kernel⟩, by decide⟩
theorem km_X10_196 : Cond.methodLink RX10 196 yX10_isTower ∈ gt_tbl := gt_mem 1049 (by decide +kernel) rfl
theorem kv_X10_isTower : gt_V yX10_isTower cX10_isTower 2 (some .boolean) 1 := ⟨gt_mem 1051 (by decide +kernel) rfl, gt_memp (y := yX10_isTower) (c := 29) 51 (by decide +kernel), gt_mem 11 (by decide +kernel) rfl, gt_mem 1052 (by decide +kernel) rfl, ⟨by decide +kernel, by decide +kernel, by decide +kernel⟩, by decide⟩
theorem km_X10_199 : Cond.methodLink RX10 199 yX10_sitterOn ∈ gt_tbl := gt_mem 1053 (by decide +kernel) rfl
theorem kv_X10_sitterOn : gt_V yX10_sitterOn cX10_sitterOn 5 (some .int) 2 := ⟨gt_mem 1055 (by decide +kernel) rfl, gt_memp (y := yX10_sitterOn) (c := 29) 52 (by decide +kernel), gt_mem 11 (by decide +kernel) rfl, gt_mem 1056 (by decide +kernel) rfl, ⟨by decide +kernel, by decide +kernel, by decide +kernel⟩, by decide⟩
theorem km_L_43 : Cond.methodLink RL 43 yX10_player ∈ gt_tbl := gt_mem 1057 (by decide +kernel) rfl
theorem kv_X10_player : gt_V yX10_player cX10_player 3 (some .int) 2 := ⟨gt_mem 1058 (by decide +kernel) rfl, gt_mem 1059 (by decide +kernel) rfl, gt_mem 11 (by decide +kernel) rfl, gt_mem 1060 (by decide +kernel) rfl, ⟨by decide +kernel, by decide +kernel, by decide +kernel⟩, by decide⟩
theorem km_X10_202 : Cond.methodLink RX10 202 yX10_isPlayer ∈ gt_tbl := gt_mem 1061 (by decide +kernel) rfl
theorem kv_X10_isPlayer : gt_V yX10_isPlayer cX10_isPlayer 2 (some .boolean) 1 := ⟨gt_mem 1063 (by decide +kernel) rfl, gt_memp (y := yX10_isPlayer) (c := 29) 53 (by decide +kernel), gt_mem 11 (by decide +kernel) rfl, gt_mem 1064 (by decide +kernel) rfl, ⟨by decide +kernel, by decide +kernel, by decide +kernel⟩, by decide⟩
theorem km_L_47 : Cond.methodLink RL 47 yX10_boat ∈ gt_tbl := gt_mem 1065 (by decide +kernel) rfl
theorem kv_X10_boat : gt_V yX10_boat cX10_boat 3 (some .int) 2 := ⟨gt_mem 1066 (by decide +kernel) rfl, gt_mem 1067 (by decide +kernel) rfl, gt_mem 11 (by decide +kernel) rfl, gt_mem 1068 (by decide +kernel) rfl, ⟨by decide +kernel, by decide +kernel, by decide +kernel⟩, by decide⟩
theorem km_X10_205 : Cond.methodLink RX10 205 yX10_isBoat ∈ gt_tbl := gt_mem 1069 (by decide +kernel) rfl
theorem kv_X10_isBoat : gt_V yX10_isBoat cX10_isBoat 2 (some .boolean) 1 := ⟨gt_mem 1071 (by decide +kernel) rfl, gt_memp (y := yX10_isBoat) (c := 29) 54 (by decide +kernel), gt_mem 11 (by decide +kernel) rfl, gt_mem 1072 (by decide +kernel) rfl, ⟨by decide +kernel, by decide +kernel, by decide +kernel⟩, by decide⟩
theorem km_L_51 : Cond.methodLink RL 51 yX10_hour ∈ gt_tbl := gt_mem 1073 (by decide +kernel) rfl
theorem kv_X10_hour : gt_V yX10_hour cX10_hour 4 (some .int) 1 := ⟨gt_mem 1074 (by decide +kernel) rfl, gt_mem 1075 (by decide +kernel) rfl, gt_mem 11 (by decide +kernel) rfl, gt_mem 1076 (by decide +kernel) rfl, ⟨by decide +kernel, by decide +kernel, by decide +kernel⟩, by decide⟩
theorem km_X10_222 : Cond.methodLink RX10 222 yX10_refuses ∈ gt_tbl := gt_mem 1077 (by decide +kernel) rfl
theorem kv_X10_refuses : gt_V yX10_refuses cX10_refuses 2 (some .int) 1 := ⟨gt_mem 1079 (by decide +kernel) rfl, gt_memp (y := yX10_refuses) (c := 29) 55 (by decide +kernel), gt_mem 11 (by decide +kernel) rfl, gt_mem 1080 (by decide +kernel) rfl, ⟨by decide +kernel, by decide +kernel, by decide +kernel⟩, by decide⟩
theorem kc_X10_219 : Cond.constantLong RX10 219 60 ∈ gt_tbl := gt_mem 1081 (by decide +kernel) rfl
theorem kc_X10_221 : Cond.constant RX10 221 (-1000000003) ∈ gt_tbl := gt_mem 1082 (by decide +kernel) rfl
theorem km_X10_225 : Cond.methodLink RX10 225 yX10_remember ∈ gt_tbl := gt_mem 1083 (by decide +kernel) rfl
theorem kv_X10_remember : gt_V yX10_remember cX10_remember 2 none 0 := ⟨gt_mem 1085 (by decide +kernel) rfl, gt_memp (y := yX10_remember) (c := 29) 56 (by decide +kernel), gt_mem 11 (by decide +kernel) rfl, gt_mem 1086 (by decide +kernel) rfl, ⟨by decide +kernel, by decide +kernel, by decide +kernel⟩, by decide⟩
theorem km_X10_228 : Cond.methodLink RX10 228 yX10_hourGoes ∈ gt_tbl := gt_mem 1087 (by decide +kernel) rfl
theorem kv_X10_hourGoes : gt_V yX10_hourGoes cX10_hourGoes 6 none 1 := ⟨gt_mem 1089 (by decide +kernel) rfl, gt_memp (y := yX10_hourGoes) (c := 29) 57 (by decide +kernel), gt_mem 11 (by decide +kernel) rfl, gt_mem 1090 (by decide +kernel) rfl, ⟨by decide +kernel, by decide +kernel, by decide +kernel⟩, by decide⟩
theorem km_L_55 : Cond.methodLink RL 55 yX10_sit ∈ gt_tbl := gt_mem 1091 (by decide +kernel) rfl
theorem kv_X10_sit : gt_V yX10_sit cX10_sit 4 (some .int) 2 := ⟨gt_mem 1092 (by decide +kernel) rfl, gt_mem 1093 (by decide +kernel) rfl, gt_mem 11 (by decide +kernel) rfl, gt_mem 1094 (by decide +kernel) rfl, ⟨by decide +kernel, by decide +kernel, by decide +kernel⟩, by decide⟩
theorem km_L_59 : Cond.methodLink RL 59 yX10_rest ∈ gt_tbl := gt_mem 1095 (by decide +kernel) rfl
theorem kv_X10_rest : gt_V yX10_rest cX10_rest 3 (some .int) 1 := ⟨gt_mem 1096 (by decide +kernel) rfl, gt_mem 1097 (by decide +kernel) rfl, gt_mem 11 (by decide +kernel) rfl, gt_mem 1098 (by decide +kernel) rfl, ⟨by decide +kernel, by decide +kernel, by decide +kernel⟩, by decide⟩
theorem km_L_64 : Cond.methodLink RL 64 yX10_sleep ∈ gt_tbl := gt_mem 1099 (by decide +kernel) rfl
theorem kv_X10_sleep : gt_V yX10_sleep cX10_sleep 4 (some .int) 2 := ⟨gt_mem 1100 (by decide +kernel) rfl, gt_mem 1101 (by decide +kernel) rfl, gt_mem 11 (by decide +kernel) rfl, gt_mem 1102 (by decide +kernel) rfl, ⟨by decide +kernel, by decide +kernel, by decide +kernel⟩, by decide⟩
theorem km_X10_231 : Cond.methodLink RX10 231 yX10_sleeps ∈ gt_tbl := gt_mem 1103 (by decide +kernel) rfl
theorem kv_X10_sleeps : gt_V yX10_sleeps cX10_sleeps 3 none 2 := ⟨gt_mem 1105 (by decide +kernel) rfl, gt_memp (y := yX10_sleeps) (c := 29) 58 (by decide +kernel), gt_mem 11 (by decide +kernel) rfl, gt_mem 1106 (by decide +kernel) rfl, ⟨by decide +kernel, by decide +kernel, by decide +kernel⟩, by decide⟩
theorem km_L_68 : Cond.methodLink RL 68 yX10_turn ∈ gt_tbl := gt_mem 1107 (by decide +kernel) rfl
theorem kv_X10_turn : gt_V yX10_turn cX10_turn 4 (some .int) 2 := ⟨gt_mem 1108 (by decide +kernel) rfl, gt_mem 1109 (by decide +kernel) rfl, gt_mem 11 (by decide +kernel) rfl, gt_mem 1110 (by decide +kernel) rfl, ⟨by decide +kernel, by decide +kernel, by decide +kernel⟩, by decide⟩
theorem kc_X10_235 : Cond.constantLong RX10 235 99 ∈ gt_tbl := gt_mem 1111 (by decide +kernel) rfl
theorem km_L_72 : Cond.methodLink RL 72 yX10_send ∈ gt_tbl := gt_mem 1112 (by decide +kernel) rfl
theorem kv_X10_send : gt_V yX10_send cX10_send 3 (some .int) 1 := ⟨gt_mem 1113 (by decide +kernel) rfl, gt_mem 1114 (by decide +kernel) rfl, gt_mem 11 (by decide +kernel) rfl, gt_mem 1115 (by decide +kernel) rfl, ⟨by decide +kernel, by decide +kernel, by decide +kernel⟩, by decide⟩
theorem km_L_76 : Cond.methodLink RL 76 yX10_drift ∈ gt_tbl := gt_mem 1116 (by decide +kernel) rfl
theorem kv_X10_drift : gt_V yX10_drift cX10_drift 4 (some .int) 1 := ⟨gt_mem 1117 (by decide +kernel) rfl, gt_mem 1118 (by decide +kernel) rfl, gt_mem 11 (by decide +kernel) rfl, gt_mem 1119 (by decide +kernel) rfl, ⟨by decide +kernel, by decide +kernel, by decide +kernel⟩, by decide⟩
theorem km_X10_252 : Cond.methodLink RX10 252 yX10_draws ∈ gt_tbl := gt_mem 1120 (by decide +kernel) rfl
theorem kv_X10_draws : gt_V yX10_draws cX10_draws 4 none 0 := ⟨gt_mem 1122 (by decide +kernel) rfl, gt_memp (y := yX10_draws) (c := 29) 59 (by decide +kernel), gt_mem 11 (by decide +kernel) rfl, gt_mem 1123 (by decide +kernel) rfl, ⟨by decide +kernel, by decide +kernel, by decide +kernel⟩, by decide⟩
theorem km_X10_249 : Cond.methodLink RX10 249 yX10_draw ∈ gt_tbl := gt_mem 1124 (by decide +kernel) rfl
theorem kv_X10_draw : gt_V yX10_draw cX10_draw 2 (some .int) 1 := ⟨gt_mem 1126 (by decide +kernel) rfl, gt_memp (y := yX10_draw) (c := 29) 60 (by decide +kernel), gt_mem 11 (by decide +kernel) rfl, gt_mem 1127 (by decide +kernel) rfl, ⟨by decide +kernel, by decide +kernel, by decide +kernel⟩, by decide⟩
theorem kc_X10_241 : Cond.constantLong RX10 241 1103515245 ∈ gt_tbl := gt_mem 1128 (by decide +kernel) rfl
theorem kc_X10_243 : Cond.constantLong RX10 243 12345 ∈ gt_tbl := gt_mem 1129 (by decide +kernel) rfl
theorem kc_X10_245 : Cond.constantLong RX10 245 2147483648 ∈ gt_tbl := gt_mem 1130 (by decide +kernel) rfl
theorem kc_X10_247 : Cond.constantLong RX10 247 65536 ∈ gt_tbl := gt_mem 1131 (by decide +kernel) rfl
theorem km_L_80 : Cond.methodLink RL 80 yX10_undo ∈ gt_tbl := gt_mem 1132 (by decide +kernel) rfl
theorem kv_X10_undo : gt_V yX10_undo cX10_undo 1 (some .int) 0 := ⟨gt_mem 1133 (by decide +kernel) rfl, gt_mem 1134 (by decide +kernel) rfl, gt_mem 11 (by decide +kernel) rfl, gt_mem 1135 (by decide +kernel) rfl, ⟨by decide +kernel, by decide +kernel, by decide +kernel⟩, by decide⟩
theorem km_L_85 : Cond.methodLink RL 85 yX10_sea ∈ gt_tbl := gt_mem 1136 (by decide +kernel) rfl
theorem kv_X10_sea : gt_V yX10_sea cX10_sea 5 (some .int) 3 := ⟨gt_mem 1137 (by decide +kernel) rfl, gt_mem 1138 (by decide +kernel) rfl, gt_mem 11 (by decide +kernel) rfl, gt_mem 1139 (by decide +kernel) rfl, ⟨by decide +kernel, by decide +kernel, by decide +kernel⟩, by decide⟩
theorem kc_X10_255 : Cond.constantLong RX10 255 100 ∈ gt_tbl := gt_mem 1140 (by decide +kernel) rfl
theorem km_L_89 : Cond.methodLink RL 89 yX10_deepest ∈ gt_tbl := gt_mem 1141 (by decide +kernel) rfl
theorem kv_X10_deepest : gt_V yX10_deepest cX10_deepest 8 (some .int) 3 := ⟨gt_mem 1142 (by decide +kernel) rfl, gt_mem 1143 (by decide +kernel) rfl, gt_mem 11 (by decide +kernel) rfl, gt_mem 1144 (by decide +kernel) rfl, ⟨by decide +kernel, by decide +kernel, by decide +kernel⟩, by decide⟩
theorem km_L_93 : Cond.methodLink RL 93 yX10_comes ∈ gt_tbl := gt_mem 1145 (by decide +kernel) rfl
theorem kv_X10_comes : gt_V yX10_comes cX10_comes 3 (some .int) 1 := ⟨gt_mem 1146 (by decide +kernel) rfl, gt_mem 1147 (by decide +kernel) rfl, gt_mem 11 (by decide +kernel) rfl, gt_mem 1148 (by decide +kernel) rfl, ⟨by decide +kernel, by decide +kernel, by decide +kernel⟩, by decide⟩
theorem km_L_98 : Cond.methodLink RL 98 yX10_seats ∈ gt_tbl := gt_mem 1149 (by decide +kernel) rfl
theorem kv_X10_seats : gt_V yX10_seats cX10_seats 5 (some .int) 4 := ⟨gt_mem 1150 (by decide +kernel) rfl, gt_mem 1151 (by decide +kernel) rfl, gt_mem 11 (by decide +kernel) rfl, gt_mem 1152 (by decide +kernel) rfl, ⟨by decide +kernel, by decide +kernel, by decide +kernel⟩, by decide⟩
theorem kc_X10_277 : Cond.constantLong RX10 277 20 ∈ gt_tbl := gt_mem 1153 (by decide +kernel) rfl
theorem km_X10_279 : Cond.methodLink RX10 279 yX10_plans ∈ gt_tbl := gt_mem 1154 (by decide +kernel) rfl
theorem kv_X10_plans : gt_V yX10_plans cX10_plans 5 none 3 := ⟨gt_mem 1156 (by decide +kernel) rfl, gt_memp (y := yX10_plans) (c := 29) 61 (by decide +kernel), gt_mem 11 (by decide +kernel) rfl, gt_mem 1157 (by decide +kernel) rfl, ⟨by decide +kernel, by decide +kernel, by decide +kernel⟩, by decide⟩
theorem kc_X10_269 : Cond.constant RX10 269 100000000 ∈ gt_tbl := gt_mem 1158 (by decide +kernel) rfl
theorem km_X10_270 : Cond.methodLink RX10 270 yX10_weighs ∈ gt_tbl := gt_mem 1159 (by decide +kernel) rfl
theorem kv_X10_weighs : gt_V yX10_weighs cX10_weighs 8 none 3 := ⟨gt_mem 1161 (by decide +kernel) rfl, gt_memp (y := yX10_weighs) (c := 29) 62 (by decide +kernel), gt_mem 11 (by decide +kernel) rfl, gt_mem 1162 (by decide +kernel) rfl, ⟨by decide +kernel, by decide +kernel, by decide +kernel⟩, by decide⟩
theorem km_X10_274 : Cond.methodLink RX10 274 yX10_goesOn ∈ gt_tbl := gt_mem 1163 (by decide +kernel) rfl
theorem kv_X10_goesOn : gt_V yX10_goesOn cX10_goesOn 2 (some .int) 1 := ⟨gt_mem 1165 (by decide +kernel) rfl, gt_memp (y := yX10_goesOn) (c := 29) 63 (by decide +kernel), gt_mem 11 (by decide +kernel) rfl, gt_mem 1166 (by decide +kernel) rfl, ⟨by decide +kernel, by decide +kernel, by decide +kernel⟩, by decide⟩
theorem km_X10_266 : Cond.methodLink RX10 266 yX10_mayBe ∈ gt_tbl := gt_mem 1167 (by decide +kernel) rfl
theorem kv_X10_mayBe : gt_V yX10_mayBe cX10_mayBe 4 (some .boolean) 1 := ⟨gt_mem 1169 (by decide +kernel) rfl, gt_memp (y := yX10_mayBe) (c := 29) 64 (by decide +kernel), gt_mem 11 (by decide +kernel) rfl, gt_mem 1170 (by decide +kernel) rfl, ⟨by decide +kernel, by decide +kernel, by decide +kernel⟩, by decide⟩
theorem km_L_102 : Cond.methodLink RL 102 yX10_leave ∈ gt_tbl := gt_mem 1171 (by decide +kernel) rfl
theorem kv_X10_leave : gt_V yX10_leave cX10_leave 6 (some .int) 1 := ⟨gt_mem 1172 (by decide +kernel) rfl, gt_mem 1173 (by decide +kernel) rfl, gt_mem 11 (by decide +kernel) rfl, gt_mem 1174 (by decide +kernel) rfl, ⟨by decide +kernel, by decide +kernel, by decide +kernel⟩, by decide⟩
theorem km_L_106 : Cond.methodLink RL 106 yX10_share ∈ gt_tbl := gt_mem 1175 (by decide +kernel) rfl
theorem kv_X10_share : gt_V yX10_share cX10_share 5 (some .int) 2 := ⟨gt_mem 1176 (by decide +kernel) rfl, gt_mem 1177 (by decide +kernel) rfl, gt_mem 11 (by decide +kernel) rfl, gt_mem 1178 (by decide +kernel) rfl, ⟨by decide +kernel, by decide +kernel, by decide +kernel⟩, by decide⟩
theorem kc_X10_282 : Cond.constantLong RX10 282 999 ∈ gt_tbl := gt_mem 1179 (by decide +kernel) rfl
theorem km_X10_284 : Cond.methodLink RX10 284 yX10_shareOf ∈ gt_tbl := gt_mem 1180 (by decide +kernel) rfl
theorem kv_X10_shareOf : gt_V yX10_shareOf cX10_shareOf 5 (some .int) 2 := ⟨gt_mem 1182 (by decide +kernel) rfl, gt_memp (y := yX10_shareOf) (c := 29) 65 (by decide +kernel), gt_mem 11 (by decide +kernel) rfl, gt_mem 1183 (by decide +kernel) rfl, ⟨by decide +kernel, by decide +kernel, by decide +kernel⟩, by decide⟩
theorem km_L_110 : Cond.methodLink RL 110 yX10_calm ∈ gt_tbl := gt_mem 1184 (by decide +kernel) rfl
theorem kv_X10_calm : gt_V yX10_calm cX10_calm 6 (some .int) 2 := ⟨gt_mem 1185 (by decide +kernel) rfl, gt_mem 1186 (by decide +kernel) rfl, gt_mem 11 (by decide +kernel) rfl, gt_mem 1187 (by decide +kernel) rfl, ⟨by decide +kernel, by decide +kernel, by decide +kernel⟩, by decide⟩
theorem kc_X10_287 : Cond.constantLong RX10 287 1000000000 ∈ gt_tbl := gt_mem 1188 (by decide +kernel) rfl
theorem km_L_114 : Cond.methodLink RL 114 yX10_mark ∈ gt_tbl := gt_mem 1189 (by decide +kernel) rfl
theorem kv_X10_mark : gt_V yX10_mark cX10_mark 4 (some .int) 3 := ⟨gt_mem 1190 (by decide +kernel) rfl, gt_mem 1191 (by decide +kernel) rfl, gt_mem 11 (by decide +kernel) rfl, gt_mem 1192 (by decide +kernel) rfl, ⟨by decide +kernel, by decide +kernel, by decide +kernel⟩, by decide⟩
theorem km_L_118 : Cond.methodLink RL 118 yX10_look ∈ gt_tbl := gt_mem 1193 (by decide +kernel) rfl
theorem kv_X10_look : gt_V yX10_look cX10_look 7 (some .int) 0 := ⟨gt_mem 1194 (by decide +kernel) rfl, gt_mem 1195 (by decide +kernel) rfl, gt_mem 11 (by decide +kernel) rfl, gt_mem 1196 (by decide +kernel) rfl, ⟨by decide +kernel, by decide +kernel, by decide +kernel⟩, by decide⟩
theorem km_X10_293 : Cond.methodLink RX10 293 yX10_bits ∈ gt_tbl := gt_mem 1197 (by decide +kernel) rfl
theorem kv_X10_bits : gt_S yX10_bits cX10_bits 3 (some .int) 1 := ⟨gt_mem 1198 (by decide +kernel) rfl, gt_mem 11 (by decide +kernel) rfl, gt_mem 1199 (by decide +kernel) rfl, ⟨by decide +kernel, by decide +kernel, by decide +kernel⟩, by decide⟩
theorem km_X10_296 : Cond.methodLink RX10 296 yX10_greatestPart ∈ gt_tbl := gt_mem 1200 (by decide +kernel) rfl
theorem kv_X10_greatestPart : gt_V yX10_greatestPart cX10_greatestPart 7 (some .int) 2 := ⟨gt_mem 1202 (by decide +kernel) rfl, gt_memp (y := yX10_greatestPart) (c := 29) 66 (by decide +kernel), gt_mem 11 (by decide +kernel) rfl, gt_mem 1203 (by decide +kernel) rfl, ⟨by decide +kernel, by decide +kernel, by decide +kernel⟩, by decide⟩
theorem km_L_122 : Cond.methodLink RL 122 yX10_see ∈ gt_tbl := gt_mem 1204 (by decide +kernel) rfl
theorem kv_X10_see : gt_V yX10_see cX10_see 4 (some .int) 3 := ⟨gt_mem 1205 (by decide +kernel) rfl, gt_mem 1206 (by decide +kernel) rfl, gt_mem 11 (by decide +kernel) rfl, gt_mem 1207 (by decide +kernel) rfl, ⟨by decide +kernel, by decide +kernel, by decide +kernel⟩, by decide⟩
theorem kc_X10_299 : Cond.constantLong RX10 299 9 ∈ gt_tbl := gt_mem 1208 (by decide +kernel) rfl
theorem km_L_126 : Cond.methodLink RL 126 yX10_write ∈ gt_tbl := gt_mem 1209 (by decide +kernel) rfl
theorem kv_X10_write : gt_V yX10_write cX10_write 3 (some .int) 2 := ⟨gt_mem 1210 (by decide +kernel) rfl, gt_mem 1211 (by decide +kernel) rfl, gt_mem 11 (by decide +kernel) rfl, gt_mem 1212 (by decide +kernel) rfl, ⟨by decide +kernel, by decide +kernel, by decide +kernel⟩, by decide⟩
theorem km_L_130 : Cond.methodLink RL 130 yX10_tear ∈ gt_tbl := gt_mem 1213 (by decide +kernel) rfl
theorem kv_X10_tear : gt_V yX10_tear cX10_tear 2 (some .int) 0 := ⟨gt_mem 1214 (by decide +kernel) rfl, gt_mem 1215 (by decide +kernel) rfl, gt_mem 11 (by decide +kernel) rfl, gt_mem 1216 (by decide +kernel) rfl, ⟨by decide +kernel, by decide +kernel, by decide +kernel⟩, by decide⟩
theorem km_L_134 : Cond.methodLink RL 134 yX10_judge ∈ gt_tbl := gt_mem 1217 (by decide +kernel) rfl
theorem kv_X10_judge : gt_V yX10_judge cX10_judge 2 (some .int) 0 := ⟨gt_mem 1218 (by decide +kernel) rfl, gt_mem 1219 (by decide +kernel) rfl, gt_mem 11 (by decide +kernel) rfl, gt_mem 1220 (by decide +kernel) rfl, ⟨by decide +kernel, by decide +kernel, by decide +kernel⟩, by decide⟩
theorem km_L_138 : Cond.methodLink RL 138 yX10_seed ∈ gt_tbl := gt_mem 1221 (by decide +kernel) rfl
theorem kv_X10_seed : gt_V yX10_seed cX10_seed 3 (some .int) 1 := ⟨gt_mem 1222 (by decide +kernel) rfl, gt_mem 1223 (by decide +kernel) rfl, gt_mem 11 (by decide +kernel) rfl, gt_mem 1224 (by decide +kernel) rfl, ⟨by decide +kernel, by decide +kernel, by decide +kernel⟩, by decide⟩
theorem km_L_142 : Cond.methodLink RL 142 yX10_keep ∈ gt_tbl := gt_mem 1225 (by decide +kernel) rfl
theorem kv_X10_keep : gt_V yX10_keep cX10_keep 2 (some .int) 1 := ⟨gt_mem 1226 (by decide +kernel) rfl, gt_mem 1227 (by decide +kernel) rfl, gt_mem 11 (by decide +kernel) rfl, gt_mem 1228 (by decide +kernel) rfl, ⟨by decide +kernel, by decide +kernel, by decide +kernel⟩, by decide⟩
theorem km_L_146 : Cond.methodLink RL 146 yX10_goBack ∈ gt_tbl := gt_mem 1229 (by decide +kernel) rfl
theorem kv_X10_goBack : gt_V yX10_goBack cX10_goBack 2 (some .int) 1 := ⟨gt_mem 1230 (by decide +kernel) rfl, gt_mem 1231 (by decide +kernel) rfl, gt_mem 11 (by decide +kernel) rfl, gt_mem 1232 (by decide +kernel) rfl, ⟨by decide +kernel, by decide +kernel, by decide +kernel⟩, by decide⟩
theorem kmath_max : Cond.static Lib.Math.max.name ∈ gt_tbl ∧ Cond.initialized "java/lang/Math" ∈ gt_tbl ∧ Cond.code Lib.Math.max.name Lib.Math.max.code 2 (some .int) ∈ gt_tbl := ⟨gt_mem 454 (by decide +kernel) rfl, gt_mem 13 (by decide +kernel) rfl, gt_mem 455 (by decide +kernel) rfl⟩
theorem kmath_min : Cond.static Lib.Math.min.name ∈ gt_tbl ∧ Cond.initialized "java/lang/Math" ∈ gt_tbl ∧ Cond.code Lib.Math.min.name Lib.Math.min.code 2 (some .int) ∈ gt_tbl := ⟨gt_mem 519 (by decide +kernel) rfl, gt_mem 13 (by decide +kernel) rfl, gt_mem 520 (by decide +kernel) rfl⟩
theorem kmath_abs : Cond.static Lib.Math.abs.name ∈ gt_tbl ∧ Cond.initialized "java/lang/Math" ∈ gt_tbl ∧ Cond.code Lib.Math.abs.name Lib.Math.abs.code 1 (some .int) ∈ gt_tbl := ⟨gt_mem 451 (by decide +kernel) rfl, gt_mem 13 (by decide +kernel) rfl, gt_mem 452 (by decide +kernel) rfl⟩
theorem kcopy : Cond.native arraycopyName ∈ gt_tbl ∧ Cond.static arraycopyName ∈ gt_tbl ∧ Cond.initialized "java/lang/System" ∈ gt_tbl := ⟨gt_mem 497 (by decide +kernel) rfl, gt_mem 496 (by decide +kernel) rfl, gt_mem 14 (by decide +kernel) rfl⟩
theorem kcopy_w : nativeFrameWords "java/lang/System" "arraycopy" 5 + 11 ≤ 32 := by decide +kernel
theorem kobj : Cond.instanceMethod Lib.objectInit ∈ gt_tbl ∧ Cond.code Lib.objectInit ⟨#[0xb1]⟩ 1 none ∈ gt_tbl := ⟨gt_mem 21 (by decide +kernel) rfl, gt_mem 22 (by decide +kernel) rfl⟩
theorem karrI : Cond.arrayClass .int ∈ gt_tbl := gt_mem 45 (by decide +kernel) rfl
theorem karrZ : Cond.arrayClass .boolean ∈ gt_tbl := gt_mem 905 (by decide +kernel) rfl
theorem kl_L_7 : Cond.classLink RL 7 "GurdyTide" ∈ gt_tbl := gt_mem 15 (by decide +kernel) rfl
theorem kn_L_7 : gt_Nw RL 7 9 12 [.null, .null, .null, .null, .null, .null, .null, .null, .null, .null, .null, .int 0] := ⟨_, _, tyX9, rfl, kl_L_7, gt_mem 16 (by decide +kernel) rfl, gt_mem 1 (by decide +kernel) rfl, kin_X9, tyX9_ok, by decide +kernel⟩
theorem kl_X9_7 : Cond.classLink RX9 7 "GurdyTide$Reader" ∈ gt_tbl := gt_mem 23 (by decide +kernel) rfl
theorem kn_X9_7 : gt_Nw RX9 7 6 5 [.null, .int 0, .int 0, .int 0, .int 0] := ⟨_, _, tyX6, rfl, kl_X9_7, gt_mem 24 (by decide +kernel) rfl, gt_mem 2 (by decide +kernel) rfl, kin_X6, tyX6_ok, by decide +kernel⟩
theorem kl_X9_16 : Cond.classLink RX9 16 "GurdyTide$Coast" ∈ gt_tbl := gt_mem 46 (by decide +kernel) rfl
theorem kn_X9_16 : gt_Nw RX9 16 0 11 [.int 0, .int 0, .int 0, .int 0, .null, .null, .null, .null, .null, .null, .null] := ⟨_, _, tyX0, rfl, kl_X9_16, gt_mem 47 (by decide +kernel) rfl, gt_mem 3 (by decide +kernel) rfl, kin_X0, tyX0_ok, by decide +kernel⟩
theorem kl_X9_26 : Cond.classLink RX9 26 "GurdyTide$State" ∈ gt_tbl := gt_mem 125 (by decide +kernel) rfl
theorem kn_X9_26 : gt_Nw RX9 26 8 6 [.int 0, .int 0, .null, .null, .null, .null] := ⟨_, _, tyX8, rfl, kl_X9_26, gt_mem 126 (by decide +kernel) rfl, gt_mem 4 (by decide +kernel) rfl, kin_X8, tyX8_ok, by decide +kernel⟩
theorem kl_X9_36 : Cond.classLink RX9 36 "GurdyTide$Past" ∈ gt_tbl := gt_mem 161 (by decide +kernel) rfl
theorem kn_X9_36 : gt_Nw RX9 36 4 3 [.null, .int 0, .int 0] := ⟨_, _, tyX4, rfl, kl_X9_36, gt_mem 162 (by decide +kernel) rfl, gt_mem 5 (by decide +kernel) rfl, kin_X4, tyX4_ok, by decide +kernel⟩
theorem kl_X4_9 : Cond.classLink RX4 9 "GurdyTide$State" ∈ gt_tbl := gt_mem 167 (by decide +kernel) rfl
theorem kn_X4_9 : gt_Nw RX4 9 8 6 [.int 0, .int 0, .null, .null, .null, .null] := ⟨_, _, tyX8, rfl, kl_X4_9, gt_mem 126 (by decide +kernel) rfl, gt_mem 4 (by decide +kernel) rfl, kin_X8, tyX8_ok, by decide +kernel⟩
theorem kl_X9_43 : Cond.classLink RX9 43 "GurdyTide$Image" ∈ gt_tbl := gt_mem 181 (by decide +kernel) rfl
theorem kn_X9_43 : gt_Nw RX9 43 2 3 [.null, .int 0, .int 0] := ⟨_, _, tyX2, rfl, kl_X9_43, gt_mem 276 (by decide +kernel) rfl, gt_mem 10 (by decide +kernel) rfl, kin_X2, tyX2_ok, by decide +kernel⟩
theorem kl_X9_49 : Cond.classLink RX9 49 "GurdyTide$Draws" ∈ gt_tbl := gt_mem 183 (by decide +kernel) rfl
theorem kn_X9_49 : gt_Nw RX9 49 1 1 [.int 0] := ⟨_, _, tyX1, rfl, kl_X9_49, gt_mem 184 (by decide +kernel) rfl, gt_mem 6 (by decide +kernel) rfl, kin_X1, tyX1_ok, by decide +kernel⟩
theorem kl_X9_56 : Cond.classLink RX9 56 "GurdyTide$Notes" ∈ gt_tbl := gt_mem 194 (by decide +kernel) rfl
theorem kn_X9_56 : gt_Nw RX9 56 3 11 [.int 0, .int 0, .int 0, .null, .null, .null, .null, .null, .null, .null, .null] := ⟨_, _, tyX3, rfl, kl_X9_56, gt_mem 195 (by decide +kernel) rfl, gt_mem 7 (by decide +kernel) rfl, kin_X3, tyX3_ok, by decide +kernel⟩
theorem kl_X9_63 : Cond.classLink RX9 63 "GurdyTide$Plan" ∈ gt_tbl := gt_mem 237 (by decide +kernel) rfl
theorem kn_X9_63 : gt_Nw RX9 63 5 6 [.null, .null, .null, .null, .int 0, .int 0] := ⟨_, _, tyX5, rfl, kl_X9_63, gt_mem 238 (by decide +kernel) rfl, gt_mem 8 (by decide +kernel) rfl, kin_X5, tyX5_ok, by decide +kernel⟩
theorem kl_X5_18 : Cond.classLink RX5 18 "[[I" ∈ gt_tbl := gt_mem 243 (by decide +kernel) rfl
theorem kl_X9_70 : Cond.classLink RX9 70 "GurdyTide$Sleepers" ∈ gt_tbl := gt_mem 265 (by decide +kernel) rfl
theorem kn_X9_70 : gt_Nw RX9 70 7 1 [.null] := ⟨_, _, tyX7, rfl, kl_X9_70, gt_mem 266 (by decide +kernel) rfl, gt_mem 9 (by decide +kernel) rfl, kin_X7, tyX7_ok, by decide +kernel⟩
theorem kl_X7_9 : Cond.classLink RX7 9 "[[I" ∈ gt_tbl := gt_mem 271 (by decide +kernel) rfl
theorem kl_X2_7 : Cond.classLink RX2 7 "GurdyTide$State" ∈ gt_tbl := gt_mem 281 (by decide +kernel) rfl
theorem kn_X2_7 : gt_Nw RX2 7 8 6 [.int 0, .int 0, .null, .null, .null, .null] := ⟨_, _, tyX8, rfl, kl_X2_7, gt_mem 126 (by decide +kernel) rfl, gt_mem 4 (by decide +kernel) rfl, kin_X8, tyX8_ok, by decide +kernel⟩
theorem kl_L_10 : Cond.classLink RL 10 "GurdyTideModel" ∈ gt_tbl := gt_mem 799 (by decide +kernel) rfl
theorem kn_L_10 : gt_Nw RL 10 10 29 [.null, .null, .null, .null, .null, .int 0, .null, .null, .long 0, .null, .int 0, .int 0, .null, .int 0, .null, .int 0, .null, .int 0, .int 0, .int 0, .int 0, .int 0, .int 0, .int 0, .null, .null, .int 0, .int 0, .null] := ⟨_, _, tyX10, rfl, kl_L_10, gt_mem 800 (by decide +kernel) rfl, gt_mem 11 (by decide +kernel) rfl, kin_X10, tyX10_ok, by decide +kernel⟩
end
