section
-- ===== PART A: goes FIRST, ahead of the names: the tables' words, and 'selects' of the private methods out of them =====
/-- a private method of a class that the tables say can be made, by its rows of tables_1 -/
def lw_okq (q : MethodName × Nat) : Prop := (q.1.cls ≠ "java/lang/invoke/MethodHandle" ∧ q.1.cls ≠ "java/lang/invoke/VarHandle") ∧ Cond.instantiable q.1.cls q.2 ∈ tables_1 ∧ Cond.privateMethod q.1 ∈ tables_1 ∧ Cond.instanceMethod q.1 ∈ tables_1
theorem lw_p0 : lw_okq (⟨"GurdyTide$Reader", "moreComes", "()Z"⟩, 5) := ⟨⟨by decide +kernel, by decide +kernel⟩, List.mem_of_getElem? (i := 24) (by decide +kernel), List.mem_of_getElem? (i := 357) (by decide +kernel), List.mem_of_getElem? (i := 358) (by decide +kernel)⟩
theorem lw_p1 : lw_okq (⟨"GurdyTide$Reader", "readCells", "(LGurdyTide$Coast;)V"⟩, 5) := ⟨⟨by decide +kernel, by decide +kernel⟩, List.mem_of_getElem? (i := 24) (by decide +kernel), List.mem_of_getElem? (i := 361) (by decide +kernel), List.mem_of_getElem? (i := 362) (by decide +kernel)⟩
theorem lw_p2 : lw_okq (⟨"GurdyTide$Reader", "takeSign", "(I)V"⟩, 5) := ⟨⟨by decide +kernel, by decide +kernel⟩, List.mem_of_getElem? (i := 24) (by decide +kernel), List.mem_of_getElem? (i := 365) (by decide +kernel), List.mem_of_getElem? (i := 366) (by decide +kernel)⟩
theorem lw_p3 : lw_okq (⟨"GurdyTide$Reader", "nextIs", "(I)Z"⟩, 5) := ⟨⟨by decide +kernel, by decide +kernel⟩, List.mem_of_getElem? (i := 24) (by decide +kernel), List.mem_of_getElem? (i := 369) (by decide +kernel), List.mem_of_getElem? (i := 370) (by decide +kernel)⟩
theorem lw_p4 : lw_okq (⟨"GurdyTide$Reader", "fail", "(II)V"⟩, 5) := ⟨⟨by decide +kernel, by decide +kernel⟩, List.mem_of_getElem? (i := 24) (by decide +kernel), List.mem_of_getElem? (i := 373) (by decide +kernel), List.mem_of_getElem? (i := 374) (by decide +kernel)⟩
theorem lw_p5 : lw_okq (⟨"GurdyTide$Reader", "takeNumber", "(II)I"⟩, 5) := ⟨⟨by decide +kernel, by decide +kernel⟩, List.mem_of_getElem? (i := 24) (by decide +kernel), List.mem_of_getElem? (i := 377) (by decide +kernel), List.mem_of_getElem? (i := 378) (by decide +kernel)⟩
theorem lw_p6 : lw_okq (⟨"GurdyTide$Reader", "readClause", "(LGurdyTide$Coast;)V"⟩, 5) := ⟨⟨by decide +kernel, by decide +kernel⟩, List.mem_of_getElem? (i := 24) (by decide +kernel), List.mem_of_getElem? (i := 384) (by decide +kernel), List.mem_of_getElem? (i := 385) (by decide +kernel)⟩
theorem lw_p7 : lw_okq (⟨"GurdyTide$Reader", "readTower", "(LGurdyTide$Coast;)V"⟩, 5) := ⟨⟨by decide +kernel, by decide +kernel⟩, List.mem_of_getElem? (i := 24) (by decide +kernel), List.mem_of_getElem? (i := 388) (by decide +kernel), List.mem_of_getElem? (i := 389) (by decide +kernel)⟩
theorem lw_p8 : lw_okq (⟨"GurdyTide$Reader", "readPlayer", "(LGurdyTide$Coast;)V"⟩, 5) := ⟨⟨by decide +kernel, by decide +kernel⟩, List.mem_of_getElem? (i := 24) (by decide +kernel), List.mem_of_getElem? (i := 392) (by decide +kernel), List.mem_of_getElem? (i := 393) (by decide +kernel)⟩
theorem lw_p9 : lw_okq (⟨"GurdyTide$Reader", "readBoat", "(LGurdyTide$Coast;)V"⟩, 5) := ⟨⟨by decide +kernel, by decide +kernel⟩, List.mem_of_getElem? (i := 24) (by decide +kernel), List.mem_of_getElem? (i := 396) (by decide +kernel), List.mem_of_getElem? (i := 397) (by decide +kernel)⟩
theorem lw_p10 : lw_okq (⟨"GurdyTide$State", "unlikeness", "(LGurdyTide$Coast;I)I"⟩, 6) := ⟨⟨by decide +kernel, by decide +kernel⟩, List.mem_of_getElem? (i := 126) (by decide +kernel), List.mem_of_getElem? (i := 439) (by decide +kernel), List.mem_of_getElem? (i := 440) (by decide +kernel)⟩
theorem lw_p11 : lw_okq (⟨"GurdyTide$Sleepers", "fits", "(ILGurdyTide$Coast;LGurdyTide$State;LGurdyTide$Notes;LGurdyTide$State;)Z"⟩, 1) := ⟨⟨by decide +kernel, by decide +kernel⟩, List.mem_of_getElem? (i := 266) (by decide +kernel), List.mem_of_getElem? (i := 484) (by decide +kernel), List.mem_of_getElem? (i := 485) (by decide +kernel)⟩
theorem lw_p12 : lw_okq (⟨"GurdyTide$Sleepers", "beginAsleep", "(ILGurdyTide$State;LGurdyTide$State;)V"⟩, 1) := ⟨⟨by decide +kernel, by decide +kernel⟩, List.mem_of_getElem? (i := 266) (by decide +kernel), List.mem_of_getElem? (i := 488) (by decide +kernel), List.mem_of_getElem? (i := 489) (by decide +kernel)⟩
theorem lw_p13 : lw_okq (⟨"GurdyTide$Notes", "seenIsSo", "(I)Z"⟩, 11) := ⟨⟨by decide +kernel, by decide +kernel⟩, List.mem_of_getElem? (i := 195) (by decide +kernel), List.mem_of_getElem? (i := 531) (by decide +kernel), List.mem_of_getElem? (i := 532) (by decide +kernel)⟩
theorem lw_p14 : lw_okq (⟨"GurdyTide", "refusalOfHours", "(I)I"⟩, 12) := ⟨⟨by decide +kernel, by decide +kernel⟩, List.mem_of_getElem? (i := 16) (by decide +kernel), List.mem_of_getElem? (i := 580) (by decide +kernel), List.mem_of_getElem? (i := 581) (by decide +kernel)⟩
theorem lw_p15 : lw_okq (⟨"GurdyTide$Draws", "next", "(I)I"⟩, 1) := ⟨⟨by decide +kernel, by decide +kernel⟩, List.mem_of_getElem? (i := 184) (by decide +kernel), List.mem_of_getElem? (i := 633) (by decide +kernel), List.mem_of_getElem? (i := 634) (by decide +kernel)⟩
def lw_privs_1 : List (MethodName × Nat) := [(⟨"GurdyTide$Reader", "moreComes", "()Z"⟩, 5), (⟨"GurdyTide$Reader", "readCells", "(LGurdyTide$Coast;)V"⟩, 5), (⟨"GurdyTide$Reader", "takeSign", "(I)V"⟩, 5), (⟨"GurdyTide$Reader", "nextIs", "(I)Z"⟩, 5), (⟨"GurdyTide$Reader", "fail", "(II)V"⟩, 5), (⟨"GurdyTide$Reader", "takeNumber", "(II)I"⟩, 5), (⟨"GurdyTide$Reader", "readClause", "(LGurdyTide$Coast;)V"⟩, 5), (⟨"GurdyTide$Reader", "readTower", "(LGurdyTide$Coast;)V"⟩, 5), (⟨"GurdyTide$Reader", "readPlayer", "(LGurdyTide$Coast;)V"⟩, 5), (⟨"GurdyTide$Reader", "readBoat", "(LGurdyTide$Coast;)V"⟩, 5), (⟨"GurdyTide$State", "unlikeness", "(LGurdyTide$Coast;I)I"⟩, 6), (⟨"GurdyTide$Sleepers", "fits", "(ILGurdyTide$Coast;LGurdyTide$State;LGurdyTide$Notes;LGurdyTide$State;)Z"⟩, 1), (⟨"GurdyTide$Sleepers", "beginAsleep", "(ILGurdyTide$State;LGurdyTide$State;)V"⟩, 1), (⟨"GurdyTide$Notes", "seenIsSo", "(I)Z"⟩, 11), (⟨"GurdyTide", "refusalOfHours", "(I)I"⟩, 12), (⟨"GurdyTide$Draws", "next", "(I)I"⟩, 1)]
theorem lw_r1 : ∀ q ∈ lw_privs_1, lw_okq q := List.forall_mem_cons.mpr ⟨lw_p0, List.forall_mem_cons.mpr ⟨lw_p1, List.forall_mem_cons.mpr ⟨lw_p2, List.forall_mem_cons.mpr ⟨lw_p3, List.forall_mem_cons.mpr ⟨lw_p4, List.forall_mem_cons.mpr ⟨lw_p5, List.forall_mem_cons.mpr ⟨lw_p6, List.forall_mem_cons.mpr ⟨lw_p7, List.forall_mem_cons.mpr ⟨lw_p8, List.forall_mem_cons.mpr ⟨lw_p9, List.forall_mem_cons.mpr ⟨lw_p10, List.forall_mem_cons.mpr ⟨lw_p11, List.forall_mem_cons.mpr ⟨lw_p12, List.forall_mem_cons.mpr ⟨lw_p13, List.forall_mem_cons.mpr ⟨lw_p14, List.forall_mem_cons.mpr ⟨lw_p15, fun _ h => absurd h List.not_mem_nil⟩⟩⟩⟩⟩⟩⟩⟩⟩⟩⟩⟩⟩⟩⟩⟩
theorem lw_p16 : lw_okq (⟨"GurdyTide$Draws", "sitByDraw", "(LGurdyTide$Coast;LGurdyTide$State;I)V"⟩, 1) := ⟨⟨by decide +kernel, by decide +kernel⟩, List.mem_of_getElem? (i := 184) (by decide +kernel), List.mem_of_getElem? (i := 642) (by decide +kernel), List.mem_of_getElem? (i := 643) (by decide +kernel)⟩
theorem lw_p17 : lw_okq (⟨"GurdyTide$Plan", "seaIfAllRest", "(LGurdyTide$Coast;LGurdyTide$State;II)I"⟩, 6) := ⟨⟨by decide +kernel, by decide +kernel⟩, List.mem_of_getElem? (i := 238) (by decide +kernel), List.mem_of_getElem? (i := 678) (by decide +kernel), List.mem_of_getElem? (i := 679) (by decide +kernel)⟩
theorem lw_p18 : lw_okq (⟨"GurdyTide$Plan", "noteGains", "(LGurdyTide$Coast;LGurdyTide$State;II)V"⟩, 6) := ⟨⟨by decide +kernel, by decide +kernel⟩, List.mem_of_getElem? (i := 238) (by decide +kernel), List.mem_of_getElem? (i := 687) (by decide +kernel), List.mem_of_getElem? (i := 688) (by decide +kernel)⟩
theorem lw_p19 : lw_okq (⟨"GurdyTide$Plan", "noteMostGain", "(II)V"⟩, 6) := ⟨⟨by decide +kernel, by decide +kernel⟩, List.mem_of_getElem? (i := 238) (by decide +kernel), List.mem_of_getElem? (i := 698) (by decide +kernel), List.mem_of_getElem? (i := 699) (by decide +kernel)⟩
theorem lw_p20 : lw_okq (⟨"GurdyTide$Plan", "take", "(II)V"⟩, 6) := ⟨⟨by decide +kernel, by decide +kernel⟩, List.mem_of_getElem? (i := 238) (by decide +kernel), List.mem_of_getElem? (i := 706) (by decide +kernel), List.mem_of_getElem? (i := 707) (by decide +kernel)⟩
theorem lw_p21 : lw_okq (⟨"GurdyTide", "shareOf", "(III)I"⟩, 12) := ⟨⟨by decide +kernel, by decide +kernel⟩, List.mem_of_getElem? (i := 16) (by decide +kernel), List.mem_of_getElem? (i := 723) (by decide +kernel), List.mem_of_getElem? (i := 724) (by decide +kernel)⟩
theorem lw_p22 : lw_okq (⟨"GurdyTide$Sleepers", "noteSeas", "(ILGurdyTide$Coast;LGurdyTide$State;)V"⟩, 1) := ⟨⟨by decide +kernel, by decide +kernel⟩, List.mem_of_getElem? (i := 266) (by decide +kernel), List.mem_of_getElem? (i := 750) (by decide +kernel), List.mem_of_getElem? (i := 751) (by decide +kernel)⟩
theorem lw_p23 : lw_okq (⟨"GurdyTide$Sleepers", "mostAlike", "(II)I"⟩, 1) := ⟨⟨by decide +kernel, by decide +kernel⟩, List.mem_of_getElem? (i := 266) (by decide +kernel), List.mem_of_getElem? (i := 755) (by decide +kernel), List.mem_of_getElem? (i := 756) (by decide +kernel)⟩
theorem lw_p24 : lw_okq (⟨"GurdyTideModel", "begins", "()V"⟩, 29) := ⟨⟨by decide +kernel, by decide +kernel⟩, List.mem_of_getElem? (i := 800) (by decide +kernel), List.mem_of_getElem? (i := 806) (by decide +kernel), List.mem_of_getElem? (i := 807) (by decide +kernel)⟩
theorem lw_p25 : lw_okq (⟨"GurdyTideModel", "step", "()V"⟩, 29) := ⟨⟨by decide +kernel, by decide +kernel⟩, List.mem_of_getElem? (i := 800) (by decide +kernel), List.mem_of_getElem? (i := 918) (by decide +kernel), List.mem_of_getElem? (i := 919) (by decide +kernel)⟩
theorem lw_p26 : lw_okq (⟨"GurdyTideModel", "here", "()I"⟩, 29) := ⟨⟨by decide +kernel, by decide +kernel⟩, List.mem_of_getElem? (i := 800) (by decide +kernel), List.mem_of_getElem? (i := 922) (by decide +kernel), List.mem_of_getElem? (i := 923) (by decide +kernel)⟩
theorem lw_p27 : lw_okq (⟨"GurdyTideModel", "readsClause", "()Z"⟩, 29) := ⟨⟨by decide +kernel, by decide +kernel⟩, List.mem_of_getElem? (i := 800) (by decide +kernel), List.mem_of_getElem? (i := 928) (by decide +kernel), List.mem_of_getElem? (i := 929) (by decide +kernel)⟩
theorem lw_p28 : lw_okq (⟨"GurdyTideModel", "readsCells", "()Z"⟩, 29) := ⟨⟨by decide +kernel, by decide +kernel⟩, List.mem_of_getElem? (i := 800) (by decide +kernel), List.mem_of_getElem? (i := 932) (by decide +kernel), List.mem_of_getElem? (i := 933) (by decide +kernel)⟩
theorem lw_p29 : lw_okq (⟨"GurdyTideModel", "fails", "(I)Z"⟩, 29) := ⟨⟨by decide +kernel, by decide +kernel⟩, List.mem_of_getElem? (i := 800) (by decide +kernel), List.mem_of_getElem? (i := 936) (by decide +kernel), List.mem_of_getElem? (i := 937) (by decide +kernel)⟩
theorem lw_p30 : lw_okq (⟨"GurdyTideModel", "number", "(III)Z"⟩, 29) := ⟨⟨by decide +kernel, by decide +kernel⟩, List.mem_of_getElem? (i := 800) (by decide +kernel), List.mem_of_getElem? (i := 940) (by decide +kernel), List.mem_of_getElem? (i := 941) (by decide +kernel)⟩
theorem lw_p31 : lw_okq (⟨"GurdyTideModel", "readsTower", "()Z"⟩, 29) := ⟨⟨by decide +kernel, by decide +kernel⟩, List.mem_of_getElem? (i := 800) (by decide +kernel), List.mem_of_getElem? (i := 944) (by decide +kernel), List.mem_of_getElem? (i := 945) (by decide +kernel)⟩
def lw_privs_2 : List (MethodName × Nat) := [(⟨"GurdyTide$Draws", "sitByDraw", "(LGurdyTide$Coast;LGurdyTide$State;I)V"⟩, 1), (⟨"GurdyTide$Plan", "seaIfAllRest", "(LGurdyTide$Coast;LGurdyTide$State;II)I"⟩, 6), (⟨"GurdyTide$Plan", "noteGains", "(LGurdyTide$Coast;LGurdyTide$State;II)V"⟩, 6), (⟨"GurdyTide$Plan", "noteMostGain", "(II)V"⟩, 6), (⟨"GurdyTide$Plan", "take", "(II)V"⟩, 6), (⟨"GurdyTide", "shareOf", "(III)I"⟩, 12), (⟨"GurdyTide$Sleepers", "noteSeas", "(ILGurdyTide$Coast;LGurdyTide$State;)V"⟩, 1), (⟨"GurdyTide$Sleepers", "mostAlike", "(II)I"⟩, 1), (⟨"GurdyTideModel", "begins", "()V"⟩, 29), (⟨"GurdyTideModel", "step", "()V"⟩, 29), (⟨"GurdyTideModel", "here", "()I"⟩, 29), (⟨"GurdyTideModel", "readsClause", "()Z"⟩, 29), (⟨"GurdyTideModel", "readsCells", "()Z"⟩, 29), (⟨"GurdyTideModel", "fails", "(I)Z"⟩, 29), (⟨"GurdyTideModel", "number", "(III)Z"⟩, 29), (⟨"GurdyTideModel", "readsTower", "()Z"⟩, 29)]
theorem lw_r2 : ∀ q ∈ lw_privs_2, lw_okq q := List.forall_mem_cons.mpr ⟨lw_p16, List.forall_mem_cons.mpr ⟨lw_p17, List.forall_mem_cons.mpr ⟨lw_p18, List.forall_mem_cons.mpr ⟨lw_p19, List.forall_mem_cons.mpr ⟨lw_p20, List.forall_mem_cons.mpr ⟨lw_p21, List.forall_mem_cons.mpr ⟨lw_p22, List.forall_mem_cons.mpr ⟨lw_p23, List.forall_mem_cons.mpr ⟨lw_p24, List.forall_mem_cons.mpr ⟨lw_p25, List.forall_mem_cons.mpr ⟨lw_p26, List.forall_mem_cons.mpr ⟨lw_p27, List.forall_mem_cons.mpr ⟨lw_p28, List.forall_mem_cons.mpr ⟨lw_p29, List.forall_mem_cons.mpr ⟨lw_p30, List.forall_mem_cons.mpr ⟨lw_p31, fun _ h => absurd h List.not_mem_nil⟩⟩⟩⟩⟩⟩⟩⟩⟩⟩⟩⟩⟩⟩⟩⟩
theorem lw_p32 : lw_okq (⟨"GurdyTideModel", "ends", "()Z"⟩, 29) := ⟨⟨by decide +kernel, by decide +kernel⟩, List.mem_of_getElem? (i := 800) (by decide +kernel), List.mem_of_getElem? (i := 948) (by decide +kernel), List.mem_of_getElem? (i := 949) (by decide +kernel)⟩
theorem lw_p33 : lw_okq (⟨"GurdyTideModel", "readsPlayer", "()Z"⟩, 29) := ⟨⟨by decide +kernel, by decide +kernel⟩, List.mem_of_getElem? (i := 800) (by decide +kernel), List.mem_of_getElem? (i := 952) (by decide +kernel), List.mem_of_getElem? (i := 953) (by decide +kernel)⟩
theorem lw_p34 : lw_okq (⟨"GurdyTideModel", "readsBoat", "()Z"⟩, 29) := ⟨⟨by decide +kernel, by decide +kernel⟩, List.mem_of_getElem? (i := 800) (by decide +kernel), List.mem_of_getElem? (i := 956) (by decide +kernel), List.mem_of_getElem? (i := 957) (by decide +kernel)⟩
theorem lw_p35 : lw_okq (⟨"GurdyTideModel", "slopeOn", "([I)I"⟩, 29) := ⟨⟨by decide +kernel, by decide +kernel⟩, List.mem_of_getElem? (i := 800) (by decide +kernel), List.mem_of_getElem? (i := 968) (by decide +kernel), List.mem_of_getElem? (i := 969) (by decide +kernel)⟩
theorem lw_p36 : lw_okq (⟨"GurdyTideModel", "steepest", "([I)I"⟩, 29) := ⟨⟨by decide +kernel, by decide +kernel⟩, List.mem_of_getElem? (i := 800) (by decide +kernel), List.mem_of_getElem? (i := 972) (by decide +kernel), List.mem_of_getElem? (i := 973) (by decide +kernel)⟩
theorem lw_p37 : lw_okq (⟨"GurdyTideModel", "unlike", "([II)I"⟩, 29) := ⟨⟨by decide +kernel, by decide +kernel⟩, List.mem_of_getElem? (i := 800) (by decide +kernel), List.mem_of_getElem? (i := 976) (by decide +kernel), List.mem_of_getElem? (i := 977) (by decide +kernel)⟩
theorem lw_p38 : lw_okq (⟨"GurdyTideModel", "seaOn", "([II)I"⟩, 29) := ⟨⟨by decide +kernel, by decide +kernel⟩, List.mem_of_getElem? (i := 800) (by decide +kernel), List.mem_of_getElem? (i := 980) (by decide +kernel), List.mem_of_getElem? (i := 981) (by decide +kernel)⟩
theorem lw_p39 : lw_okq (⟨"GurdyTideModel", "bears", "([III)I"⟩, 29) := ⟨⟨by decide +kernel, by decide +kernel⟩, List.mem_of_getElem? (i := 800) (by decide +kernel), List.mem_of_getElem? (i := 984) (by decide +kernel), List.mem_of_getElem? (i := 985) (by decide +kernel)⟩
theorem lw_p40 : lw_okq (⟨"GurdyTideModel", "wet", "()I"⟩, 29) := ⟨⟨by decide +kernel, by decide +kernel⟩, List.mem_of_getElem? (i := 800) (by decide +kernel), List.mem_of_getElem? (i := 991) (by decide +kernel), List.mem_of_getElem? (i := 992) (by decide +kernel)⟩
theorem lw_p41 : lw_okq (⟨"GurdyTideModel", "depthOn", "([II)I"⟩, 29) := ⟨⟨by decide +kernel, by decide +kernel⟩, List.mem_of_getElem? (i := 800) (by decide +kernel), List.mem_of_getElem? (i := 995) (by decide +kernel), List.mem_of_getElem? (i := 996) (by decide +kernel)⟩
theorem lw_p42 : lw_okq (⟨"GurdyTideModel", "boats", "(Z)I"⟩, 29) := ⟨⟨by decide +kernel, by decide +kernel⟩, List.mem_of_getElem? (i := 800) (by decide +kernel), List.mem_of_getElem? (i := 999) (by decide +kernel), List.mem_of_getElem? (i := 1000) (by decide +kernel)⟩
theorem lw_p43 : lw_okq (⟨"GurdyTideModel", "whoSits", "()I"⟩, 29) := ⟨⟨by decide +kernel, by decide +kernel⟩, List.mem_of_getElem? (i := 800) (by decide +kernel), List.mem_of_getElem? (i := 1003) (by decide +kernel), List.mem_of_getElem? (i := 1004) (by decide +kernel)⟩
theorem lw_p44 : lw_okq (⟨"GurdyTideModel", "slept", "()I"⟩, 29) := ⟨⟨by decide +kernel, by decide +kernel⟩, List.mem_of_getElem? (i := 800) (by decide +kernel), List.mem_of_getElem? (i := 1007) (by decide +kernel), List.mem_of_getElem? (i := 1008) (by decide +kernel)⟩
theorem lw_p45 : lw_okq (⟨"GurdyTideModel", "layThen", "(I)V"⟩, 29) := ⟨⟨by decide +kernel, by decide +kernel⟩, List.mem_of_getElem? (i := 800) (by decide +kernel), List.mem_of_getElem? (i := 1011) (by decide +kernel), List.mem_of_getElem? (i := 1012) (by decide +kernel)⟩
theorem lw_p46 : lw_okq (⟨"GurdyTideModel", "layAside", "()V"⟩, 29) := ⟨⟨by decide +kernel, by decide +kernel⟩, List.mem_of_getElem? (i := 800) (by decide +kernel), List.mem_of_getElem? (i := 1015) (by decide +kernel), List.mem_of_getElem? (i := 1016) (by decide +kernel)⟩
theorem lw_p47 : lw_okq (⟨"GurdyTideModel", "winds", "([I)V"⟩, 29) := ⟨⟨by decide +kernel, by decide +kernel⟩, List.mem_of_getElem? (i := 800) (by decide +kernel), List.mem_of_getElem? (i := 1019) (by decide +kernel), List.mem_of_getElem? (i := 1020) (by decide +kernel)⟩
def lw_privs_3 : List (MethodName × Nat) := [(⟨"GurdyTideModel", "ends", "()Z"⟩, 29), (⟨"GurdyTideModel", "readsPlayer", "()Z"⟩, 29), (⟨"GurdyTideModel", "readsBoat", "()Z"⟩, 29), (⟨"GurdyTideModel", "slopeOn", "([I)I"⟩, 29), (⟨"GurdyTideModel", "steepest", "([I)I"⟩, 29), (⟨"GurdyTideModel", "unlike", "([II)I"⟩, 29), (⟨"GurdyTideModel", "seaOn", "([II)I"⟩, 29), (⟨"GurdyTideModel", "bears", "([III)I"⟩, 29), (⟨"GurdyTideModel", "wet", "()I"⟩, 29), (⟨"GurdyTideModel", "depthOn", "([II)I"⟩, 29), (⟨"GurdyTideModel", "boats", "(Z)I"⟩, 29), (⟨"GurdyTideModel", "whoSits", "()I"⟩, 29), (⟨"GurdyTideModel", "slept", "()I"⟩, 29), (⟨"GurdyTideModel", "layThen", "(I)V"⟩, 29), (⟨"GurdyTideModel", "layAside", "()V"⟩, 29), (⟨"GurdyTideModel", "winds", "([I)V"⟩, 29)]
theorem lw_r3 : ∀ q ∈ lw_privs_3, lw_okq q := List.forall_mem_cons.mpr ⟨lw_p32, List.forall_mem_cons.mpr ⟨lw_p33, List.forall_mem_cons.mpr ⟨lw_p34, List.forall_mem_cons.mpr ⟨lw_p35, List.forall_mem_cons.mpr ⟨lw_p36, List.forall_mem_cons.mpr ⟨lw_p37, List.forall_mem_cons.mpr ⟨lw_p38, List.forall_mem_cons.mpr ⟨lw_p39, List.forall_mem_cons.mpr ⟨lw_p40, List.forall_mem_cons.mpr ⟨lw_p41, List.forall_mem_cons.mpr ⟨lw_p42, List.forall_mem_cons.mpr ⟨lw_p43, List.forall_mem_cons.mpr ⟨lw_p44, List.forall_mem_cons.mpr ⟨lw_p45, List.forall_mem_cons.mpr ⟨lw_p46, List.forall_mem_cons.mpr ⟨lw_p47, fun _ h => absurd h List.not_mem_nil⟩⟩⟩⟩⟩⟩⟩⟩⟩⟩⟩⟩⟩⟩⟩⟩
theorem lw_p48 : lw_okq (⟨"GurdyTideModel", "guts", "()I"⟩, 29) := ⟨⟨by decide +kernel, by decide +kernel⟩, List.mem_of_getElem? (i := 800) (by decide +kernel), List.mem_of_getElem? (i := 1029) (by decide +kernel), List.mem_of_getElem? (i := 1030) (by decide +kernel)⟩
theorem lw_p49 : lw_okq (⟨"GurdyTideModel", "isCell", "(I)Z"⟩, 29) := ⟨⟨by decide +kernel, by decide +kernel⟩, List.mem_of_getElem? (i := 800) (by decide +kernel), List.mem_of_getElem? (i := 1037) (by decide +kernel), List.mem_of_getElem? (i := 1038) (by decide +kernel)⟩
theorem lw_p50 : lw_okq (⟨"GurdyTideModel", "strongest", "(I)I"⟩, 29) := ⟨⟨by decide +kernel, by decide +kernel⟩, List.mem_of_getElem? (i := 800) (by decide +kernel), List.mem_of_getElem? (i := 1042) (by decide +kernel), List.mem_of_getElem? (i := 1043) (by decide +kernel)⟩
theorem lw_p51 : lw_okq (⟨"GurdyTideModel", "isTower", "(I)Z"⟩, 29) := ⟨⟨by decide +kernel, by decide +kernel⟩, List.mem_of_getElem? (i := 800) (by decide +kernel), List.mem_of_getElem? (i := 1050) (by decide +kernel), List.mem_of_getElem? (i := 1051) (by decide +kernel)⟩
theorem lw_p52 : lw_okq (⟨"GurdyTideModel", "sitterOn", "([II)I"⟩, 29) := ⟨⟨by decide +kernel, by decide +kernel⟩, List.mem_of_getElem? (i := 800) (by decide +kernel), List.mem_of_getElem? (i := 1054) (by decide +kernel), List.mem_of_getElem? (i := 1055) (by decide +kernel)⟩
theorem lw_p53 : lw_okq (⟨"GurdyTideModel", "isPlayer", "(I)Z"⟩, 29) := ⟨⟨by decide +kernel, by decide +kernel⟩, List.mem_of_getElem? (i := 800) (by decide +kernel), List.mem_of_getElem? (i := 1062) (by decide +kernel), List.mem_of_getElem? (i := 1063) (by decide +kernel)⟩
theorem lw_p54 : lw_okq (⟨"GurdyTideModel", "isBoat", "(I)Z"⟩, 29) := ⟨⟨by decide +kernel, by decide +kernel⟩, List.mem_of_getElem? (i := 800) (by decide +kernel), List.mem_of_getElem? (i := 1070) (by decide +kernel), List.mem_of_getElem? (i := 1071) (by decide +kernel)⟩
theorem lw_p55 : lw_okq (⟨"GurdyTideModel", "refuses", "(I)I"⟩, 29) := ⟨⟨by decide +kernel, by decide +kernel⟩, List.mem_of_getElem? (i := 800) (by decide +kernel), List.mem_of_getElem? (i := 1078) (by decide +kernel), List.mem_of_getElem? (i := 1079) (by decide +kernel)⟩
theorem lw_p56 : lw_okq (⟨"GurdyTideModel", "remember", "()V"⟩, 29) := ⟨⟨by decide +kernel, by decide +kernel⟩, List.mem_of_getElem? (i := 800) (by decide +kernel), List.mem_of_getElem? (i := 1084) (by decide +kernel), List.mem_of_getElem? (i := 1085) (by decide +kernel)⟩
theorem lw_p57 : lw_okq (⟨"GurdyTideModel", "hourGoes", "([I)V"⟩, 29) := ⟨⟨by decide +kernel, by decide +kernel⟩, List.mem_of_getElem? (i := 800) (by decide +kernel), List.mem_of_getElem? (i := 1088) (by decide +kernel), List.mem_of_getElem? (i := 1089) (by decide +kernel)⟩
theorem lw_p58 : lw_okq (⟨"GurdyTideModel", "sleeps", "(IZ)V"⟩, 29) := ⟨⟨by decide +kernel, by decide +kernel⟩, List.mem_of_getElem? (i := 800) (by decide +kernel), List.mem_of_getElem? (i := 1104) (by decide +kernel), List.mem_of_getElem? (i := 1105) (by decide +kernel)⟩
theorem lw_p59 : lw_okq (⟨"GurdyTideModel", "draws", "()V"⟩, 29) := ⟨⟨by decide +kernel, by decide +kernel⟩, List.mem_of_getElem? (i := 800) (by decide +kernel), List.mem_of_getElem? (i := 1121) (by decide +kernel), List.mem_of_getElem? (i := 1122) (by decide +kernel)⟩
theorem lw_p60 : lw_okq (⟨"GurdyTideModel", "draw", "(I)I"⟩, 29) := ⟨⟨by decide +kernel, by decide +kernel⟩, List.mem_of_getElem? (i := 800) (by decide +kernel), List.mem_of_getElem? (i := 1125) (by decide +kernel), List.mem_of_getElem? (i := 1126) (by decide +kernel)⟩
theorem lw_p61 : lw_okq (⟨"GurdyTideModel", "plans", "(III)V"⟩, 29) := ⟨⟨by decide +kernel, by decide +kernel⟩, List.mem_of_getElem? (i := 800) (by decide +kernel), List.mem_of_getElem? (i := 1155) (by decide +kernel), List.mem_of_getElem? (i := 1156) (by decide +kernel)⟩
theorem lw_p62 : lw_okq (⟨"GurdyTideModel", "weighs", "(III)V"⟩, 29) := ⟨⟨by decide +kernel, by decide +kernel⟩, List.mem_of_getElem? (i := 800) (by decide +kernel), List.mem_of_getElem? (i := 1160) (by decide +kernel), List.mem_of_getElem? (i := 1161) (by decide +kernel)⟩
theorem lw_p63 : lw_okq (⟨"GurdyTideModel", "goesOn", "(I)I"⟩, 29) := ⟨⟨by decide +kernel, by decide +kernel⟩, List.mem_of_getElem? (i := 800) (by decide +kernel), List.mem_of_getElem? (i := 1164) (by decide +kernel), List.mem_of_getElem? (i := 1165) (by decide +kernel)⟩
def lw_privs_4 : List (MethodName × Nat) := [(⟨"GurdyTideModel", "guts", "()I"⟩, 29), (⟨"GurdyTideModel", "isCell", "(I)Z"⟩, 29), (⟨"GurdyTideModel", "strongest", "(I)I"⟩, 29), (⟨"GurdyTideModel", "isTower", "(I)Z"⟩, 29), (⟨"GurdyTideModel", "sitterOn", "([II)I"⟩, 29), (⟨"GurdyTideModel", "isPlayer", "(I)Z"⟩, 29), (⟨"GurdyTideModel", "isBoat", "(I)Z"⟩, 29), (⟨"GurdyTideModel", "refuses", "(I)I"⟩, 29), (⟨"GurdyTideModel", "remember", "()V"⟩, 29), (⟨"GurdyTideModel", "hourGoes", "([I)V"⟩, 29), (⟨"GurdyTideModel", "sleeps", "(IZ)V"⟩, 29), (⟨"GurdyTideModel", "draws", "()V"⟩, 29), (⟨"GurdyTideModel", "draw", "(I)I"⟩, 29), (⟨"GurdyTideModel", "plans", "(III)V"⟩, 29), (⟨"GurdyTideModel", "weighs", "(III)V"⟩, 29), (⟨"GurdyTideModel", "goesOn", "(I)I"⟩, 29)]
theorem lw_r4 : ∀ q ∈ lw_privs_4, lw_okq q := List.forall_mem_cons.mpr ⟨lw_p48, List.forall_mem_cons.mpr ⟨lw_p49, List.forall_mem_cons.mpr ⟨lw_p50, List.forall_mem_cons.mpr ⟨lw_p51, List.forall_mem_cons.mpr ⟨lw_p52, List.forall_mem_cons.mpr ⟨lw_p53, List.forall_mem_cons.mpr ⟨lw_p54, List.forall_mem_cons.mpr ⟨lw_p55, List.forall_mem_cons.mpr ⟨lw_p56, List.forall_mem_cons.mpr ⟨lw_p57, List.forall_mem_cons.mpr ⟨lw_p58, List.forall_mem_cons.mpr ⟨lw_p59, List.forall_mem_cons.mpr ⟨lw_p60, List.forall_mem_cons.mpr ⟨lw_p61, List.forall_mem_cons.mpr ⟨lw_p62, List.forall_mem_cons.mpr ⟨lw_p63, fun _ h => absurd h List.not_mem_nil⟩⟩⟩⟩⟩⟩⟩⟩⟩⟩⟩⟩⟩⟩⟩⟩
theorem lw_p64 : lw_okq (⟨"GurdyTideModel", "mayBe", "(I)Z"⟩, 29) := ⟨⟨by decide +kernel, by decide +kernel⟩, List.mem_of_getElem? (i := 800) (by decide +kernel), List.mem_of_getElem? (i := 1168) (by decide +kernel), List.mem_of_getElem? (i := 1169) (by decide +kernel)⟩
theorem lw_p65 : lw_okq (⟨"GurdyTideModel", "shareOf", "(II)I"⟩, 29) := ⟨⟨by decide +kernel, by decide +kernel⟩, List.mem_of_getElem? (i := 800) (by decide +kernel), List.mem_of_getElem? (i := 1181) (by decide +kernel), List.mem_of_getElem? (i := 1182) (by decide +kernel)⟩
theorem lw_p66 : lw_okq (⟨"GurdyTideModel", "greatestPart", "(II)I"⟩, 29) := ⟨⟨by decide +kernel, by decide +kernel⟩, List.mem_of_getElem? (i := 800) (by decide +kernel), List.mem_of_getElem? (i := 1201) (by decide +kernel), List.mem_of_getElem? (i := 1202) (by decide +kernel)⟩
def lw_privs_5 : List (MethodName × Nat) := [(⟨"GurdyTideModel", "mayBe", "(I)Z"⟩, 29), (⟨"GurdyTideModel", "shareOf", "(II)I"⟩, 29), (⟨"GurdyTideModel", "greatestPart", "(II)I"⟩, 29)]
theorem lw_r5 : ∀ q ∈ lw_privs_5, lw_okq q := List.forall_mem_cons.mpr ⟨lw_p64, List.forall_mem_cons.mpr ⟨lw_p65, List.forall_mem_cons.mpr ⟨lw_p66, fun _ h => absurd h List.not_mem_nil⟩⟩⟩
def lw_privs : List (MethodName × Nat) := lw_privs_1 ++ (lw_privs_2 ++ (lw_privs_3 ++ (lw_privs_4 ++ (lw_privs_5))))
def lw_tbl : List Cond := k2_sels lw_privs ++ tables_1
theorem lw_privs_ok : ∀ q ∈ lw_privs, lw_okq q := by
  show ∀ q ∈ lw_privs_1 ++ (lw_privs_2 ++ (lw_privs_3 ++ (lw_privs_4 ++ (lw_privs_5)))), lw_okq q
  exact List.forall_mem_append.mpr ⟨lw_r1, List.forall_mem_append.mpr ⟨lw_r2, List.forall_mem_append.mpr ⟨lw_r3, List.forall_mem_append.mpr ⟨lw_r4, lw_r5⟩⟩⟩⟩
end
section
def RX0 : String := "GurdyTide$Coast"
def TX0 : u_T := fun k => match k with
  | 0 => ("GurdyTide$Coast", "cells", "I", false)
  | 1 => ("GurdyTide$Coast", "towers", "I", false)
  | 2 => ("GurdyTide$Coast", "players", "I", false)
  | 3 => ("GurdyTide$Coast", "boats", "I", false)
  | 4 => ("GurdyTide$Coast", "ground", "[I", true)
  | 5 => ("GurdyTide$Coast", "towerCell", "[I", true)
  | 6 => ("GurdyTide$Coast", "fall", "[I", true)
  | 7 => ("GurdyTide$Coast", "arm", "[I", true)
  | 8 => ("GurdyTide$Coast", "draught", "[I", true)
  | 9 => ("GurdyTide$Coast", "from", "[I", true)
  | _ => ("GurdyTide$Coast", "to", "[I", true)
def tyX0 : Nat → FieldType := fun k => match k with
  | 0 => .int
  | 1 => .int
  | 2 => .int
  | 3 => .int
  | 4 => .array .int
  | 5 => .array .int
  | 6 => .array .int
  | 7 => .array .int
  | 8 => .array .int
  | 9 => .array .int
  | _ => .array .int
abbrev wsX00 : List Cond := u_ws RX0 TX0 11
theorem nmX0 : ∀ a, a < 11 → ∀ b, b < 11 → a ≠ b → (TX0 a).2.1 ≠ (TX0 b).2.1 := by decide +kernel
theorem tyX0_ok : ∀ k, k < 11 → parseFieldDescriptor (TX0 k).2.2.1 = some (tyX0 k) := by decide +kernel
abbrev cX0_init : ByteArray := prog_2_method_1_code
def yX0_init : MethodName := ⟨RX0, "<init>", "()V"⟩
abbrev cX0_clear : ByteArray := prog_2_method_2_code
def yX0_clear : MethodName := ⟨RX0, "clear", "()V"⟩
abbrev cX0_hasCell : ByteArray := prog_2_method_3_code
def yX0_hasCell : MethodName := ⟨RX0, "hasCell", "(I)Z"⟩
abbrev cX0_hasTower : ByteArray := prog_2_method_4_code
def yX0_hasTower : MethodName := ⟨RX0, "hasTower", "(I)Z"⟩
abbrev cX0_hasPlayer : ByteArray := prog_2_method_5_code
def yX0_hasPlayer : MethodName := ⟨RX0, "hasPlayer", "(I)Z"⟩
abbrev cX0_hasBoat : ByteArray := prog_2_method_6_code
def yX0_hasBoat : MethodName := ⟨RX0, "hasBoat", "(I)Z"⟩
abbrev cX0_bears : ByteArray := prog_2_method_7_code
def yX0_bears : MethodName := ⟨RX0, "bears", "(III)I"⟩
def RX1 : String := "GurdyTide$Draws"
def TX1 : u_T := fun k => match k with
  | _ => ("GurdyTide$Draws", "seed", "I", false)
def tyX1 : Nat → FieldType := fun k => match k with
  | _ => .int
abbrev wsX10 : List Cond := u_ws RX1 TX1 1
theorem nmX1 : ∀ a, a < 1 → ∀ b, b < 1 → a ≠ b → (TX1 a).2.1 ≠ (TX1 b).2.1 := by decide +kernel
theorem tyX1_ok : ∀ k, k < 1 → parseFieldDescriptor (TX1 k).2.2.1 = some (tyX1 k) := by decide +kernel
abbrev cX1_init : ByteArray := prog_3_method_1_code
def yX1_init : MethodName := ⟨RX1, "<init>", "()V"⟩
abbrev cX1_next : ByteArray := prog_3_method_2_code
def yX1_next : MethodName := ⟨RX1, "next", "(I)I"⟩
abbrev cX1_stir : ByteArray := prog_3_method_3_code
def yX1_stir : MethodName := ⟨RX1, "stir", "(LGurdyTide$Coast;LGurdyTide$State;)V"⟩
abbrev cX1_sitByDraw : ByteArray := prog_3_method_4_code
def yX1_sitByDraw : MethodName := ⟨RX1, "sitByDraw", "(LGurdyTide$Coast;LGurdyTide$State;I)V"⟩
def RX2 : String := "GurdyTide$Image"
def TX2 : u_T := fun k => match k with
  | 0 => ("GurdyTide$Image", "state", "LGurdyTide$State;", true)
  | 1 => ("GurdyTide$Image", "seed", "I", false)
  | _ => ("GurdyTide$Image", "kept", "Z", false)
def tyX2 : Nat → FieldType := fun k => match k with
  | 0 => .object "GurdyTide$State"
  | 1 => .int
  | _ => .boolean
abbrev wsX20 : List Cond := u_ws RX2 TX2 3
theorem nmX2 : ∀ a, a < 3 → ∀ b, b < 3 → a ≠ b → (TX2 a).2.1 ≠ (TX2 b).2.1 := by decide +kernel
theorem tyX2_ok : ∀ k, k < 3 → parseFieldDescriptor (TX2 k).2.2.1 = some (tyX2 k) := by decide +kernel
abbrev cX2_init : ByteArray := prog_4_method_1_code
def yX2_init : MethodName := ⟨RX2, "<init>", "()V"⟩
def RX3 : String := "GurdyTide$Notes"
def TX3 : u_T := fun k => match k with
  | 0 => ("GurdyTide$Notes", "marks", "I", false)
  | 1 => ("GurdyTide$Notes", "seen", "I", false)
  | 2 => ("GurdyTide$Notes", "entries", "I", false)
  | 3 => ("GurdyTide$Notes", "markCell", "[I", true)
  | 4 => ("GurdyTide$Notes", "markHours", "[I", true)
  | 5 => ("GurdyTide$Notes", "markSea", "[I", true)
  | 6 => ("GurdyTide$Notes", "seenWound", "[I", true)
  | 7 => ("GurdyTide$Notes", "seenFar", "[I", true)
  | 8 => ("GurdyTide$Notes", "seenBorne", "[I", true)
  | 9 => ("GurdyTide$Notes", "entryCell", "[I", true)
  | _ => ("GurdyTide$Notes", "entrySea", "[I", true)
def tyX3 : Nat → FieldType := fun k => match k with
  | 0 => .int
  | 1 => .int
  | 2 => .int
  | 3 => .array .int
  | 4 => .array .int
  | 5 => .array .int
  | 6 => .array .int
  | 7 => .array .int
  | 8 => .array .int
  | 9 => .array .int
  | _ => .array .int
abbrev wsX30 : List Cond := u_ws RX3 TX3 11
theorem nmX3 : ∀ a, a < 11 → ∀ b, b < 11 → a ≠ b → (TX3 a).2.1 ≠ (TX3 b).2.1 := by decide +kernel
theorem tyX3_ok : ∀ k, k < 11 → parseFieldDescriptor (TX3 k).2.2.1 = some (tyX3 k) := by decide +kernel
abbrev cX3_init : ByteArray := prog_5_method_1_code
def yX3_init : MethodName := ⟨RX3, "<init>", "()V"⟩
abbrev cX3_clear : ByteArray := prog_5_method_2_code
def yX3_clear : MethodName := ⟨RX3, "clear", "()V"⟩
abbrev cX3_addMark : ByteArray := prog_5_method_3_code
def yX3_addMark : MethodName := ⟨RX3, "addMark", "(III)I"⟩
abbrev cX3_addSeen : ByteArray := prog_5_method_4_code
def yX3_addSeen : MethodName := ⟨RX3, "addSeen", "(III)I"⟩
abbrev cX3_addEntry : ByteArray := prog_5_method_5_code
def yX3_addEntry : MethodName := ⟨RX3, "addEntry", "(II)I"⟩
abbrev cX3_lastMark : ByteArray := prog_5_method_6_code
def yX3_lastMark : MethodName := ⟨RX3, "lastMark", "()I"⟩
abbrev cX3_marksAreSo : ByteArray := prog_5_method_7_code
def yX3_marksAreSo : MethodName := ⟨RX3, "marksAreSo", "(ILGurdyTide$Coast;LGurdyTide$State;)Z"⟩
abbrev cX3_guts : ByteArray := prog_5_method_8_code
def yX3_guts : MethodName := ⟨RX3, "guts", "()I"⟩
abbrev cX3_seenIsSo : ByteArray := prog_5_method_9_code
def yX3_seenIsSo : MethodName := ⟨RX3, "seenIsSo", "(I)Z"⟩
abbrev cX3_firstWrong : ByteArray := prog_5_method_10_code
def yX3_firstWrong : MethodName := ⟨RX3, "firstWrong", "(LGurdyTide$Coast;LGurdyTide$State;)I"⟩
def RX4 : String := "GurdyTide$Past"
def TX4 : u_T := fun k => match k with
  | 0 => ("GurdyTide$Past", "ring", "[LGurdyTide$State;", true)
  | 1 => ("GurdyTide$Past", "next", "I", false)
  | _ => ("GurdyTide$Past", "count", "I", false)
def tyX4 : Nat → FieldType := fun k => match k with
  | 0 => .array (.object "GurdyTide$State")
  | 1 => .int
  | _ => .int
abbrev wsX40 : List Cond := u_ws RX4 TX4 3
theorem nmX4 : ∀ a, a < 3 → ∀ b, b < 3 → a ≠ b → (TX4 a).2.1 ≠ (TX4 b).2.1 := by decide +kernel
theorem tyX4_ok : ∀ k, k < 3 → parseFieldDescriptor (TX4 k).2.2.1 = some (tyX4 k) := by decide +kernel
abbrev cX4_init : ByteArray := prog_6_method_1_code
def yX4_init : MethodName := ⟨RX4, "<init>", "()V"⟩
abbrev cX4_remember : ByteArray := prog_6_method_2_code
def yX4_remember : MethodName := ⟨RX4, "remember", "(LGurdyTide$State;)V"⟩
abbrev cX4_recall : ByteArray := prog_6_method_3_code
def yX4_recall : MethodName := ⟨RX4, "recall", "(LGurdyTide$State;)V"⟩
abbrev cX4_forget : ByteArray := prog_6_method_4_code
def yX4_forget : MethodName := ⟨RX4, "forget", "()V"⟩
def RX5 : String := "GurdyTide$Plan"
def TX5 : u_T := fun k => match k with
  | 0 => ("GurdyTide$Plan", "best", "[I", true)
  | 1 => ("GurdyTide$Plan", "tried", "[I", true)
  | 2 => ("GurdyTide$Plan", "gain", "[[I", true)
  | 3 => ("GurdyTide$Plan", "mostGain", "[[I", true)
  | 4 => ("GurdyTide$Plan", "leastArms", "I", false)
  | _ => ("GurdyTide$Plan", "need", "I", false)
def tyX5 : Nat → FieldType := fun k => match k with
  | 0 => .array .int
  | 1 => .array .int
  | 2 => .array (.array .int)
  | 3 => .array (.array .int)
  | 4 => .int
  | _ => .int
abbrev wsX50 : List Cond := u_ws RX5 TX5 6
theorem nmX5 : ∀ a, a < 6 → ∀ b, b < 6 → a ≠ b → (TX5 a).2.1 ≠ (TX5 b).2.1 := by decide +kernel
theorem tyX5_ok : ∀ k, k < 6 → parseFieldDescriptor (TX5 k).2.2.1 = some (tyX5 k) := by decide +kernel
abbrev cX5_init : ByteArray := prog_7_method_1_code
def yX5_init : MethodName := ⟨RX5, "<init>", "()V"⟩
abbrev cX5_search : ByteArray := prog_7_method_2_code
def yX5_search : MethodName := ⟨RX5, "search", "(LGurdyTide$Coast;LGurdyTide$State;III)I"⟩
abbrev cX5_seaIfAllRest : ByteArray := prog_7_method_3_code
def yX5_seaIfAllRest : MethodName := ⟨RX5, "seaIfAllRest", "(LGurdyTide$Coast;LGurdyTide$State;II)I"⟩
abbrev cX5_letDown : ByteArray := prog_7_method_4_code
def yX5_letDown : MethodName := ⟨RX5, "letDown", "(II)I"⟩
abbrev cX5_noteGains : ByteArray := prog_7_method_5_code
def yX5_noteGains : MethodName := ⟨RX5, "noteGains", "(LGurdyTide$Coast;LGurdyTide$State;II)V"⟩
abbrev cX5_noteMostGain : ByteArray := prog_7_method_6_code
def yX5_noteMostGain : MethodName := ⟨RX5, "noteMostGain", "(II)V"⟩
abbrev cX5_woundBy : ByteArray := prog_7_method_7_code
def yX5_woundBy : MethodName := ⟨RX5, "woundBy", "(LGurdyTide$Coast;LGurdyTide$State;III)I"⟩
abbrev cX5_seatFrom : ByteArray := prog_7_method_8_code
def yX5_seatFrom : MethodName := ⟨RX5, "seatFrom", "(LGurdyTide$Plan;LGurdyTide$Coast;IIIII)V"⟩
abbrev cX5_take : ByteArray := prog_7_method_9_code
def yX5_take : MethodName := ⟨RX5, "take", "(II)V"⟩
def RX6 : String := "GurdyTide$Reader"
def TX6 : u_T := fun k => match k with
  | 0 => ("GurdyTide$Reader", "text", "[I", true)
  | 1 => ("GurdyTide$Reader", "length", "I", false)
  | 2 => ("GurdyTide$Reader", "at", "I", false)
  | 3 => ("GurdyTide$Reader", "kind", "I", false)
  | _ => ("GurdyTide$Reader", "place", "I", false)
def tyX6 : Nat → FieldType := fun k => match k with
  | 0 => .array .int
  | 1 => .int
  | 2 => .int
  | 3 => .int
  | _ => .int
abbrev wsX60 : List Cond := u_ws RX6 TX6 5
theorem nmX6 : ∀ a, a < 5 → ∀ b, b < 5 → a ≠ b → (TX6 a).2.1 ≠ (TX6 b).2.1 := by decide +kernel
theorem tyX6_ok : ∀ k, k < 5 → parseFieldDescriptor (TX6 k).2.2.1 = some (tyX6 k) := by decide +kernel
abbrev cX6_init : ByteArray := prog_8_method_1_code
def yX6_init : MethodName := ⟨RX6, "<init>", "()V"⟩
abbrev cX6_letters : ByteArray := prog_8_method_2_code
def yX6_letters : MethodName := ⟨RX6, "letters", "()I"⟩
abbrev cX6_faultPlace : ByteArray := prog_8_method_3_code
def yX6_faultPlace : MethodName := ⟨RX6, "faultPlace", "()I"⟩
abbrev cX6_add : ByteArray := prog_8_method_4_code
def yX6_add : MethodName := ⟨RX6, "add", "(I)I"⟩
abbrev cX6_readInto : ByteArray := prog_8_method_5_code
def yX6_readInto : MethodName := ⟨RX6, "readInto", "(LGurdyTide$Coast;)I"⟩
abbrev cX6_readCells : ByteArray := prog_8_method_6_code
def yX6_readCells : MethodName := ⟨RX6, "readCells", "(LGurdyTide$Coast;)V"⟩
abbrev cX6_readClause : ByteArray := prog_8_method_7_code
def yX6_readClause : MethodName := ⟨RX6, "readClause", "(LGurdyTide$Coast;)V"⟩
abbrev cX6_readTower : ByteArray := prog_8_method_8_code
def yX6_readTower : MethodName := ⟨RX6, "readTower", "(LGurdyTide$Coast;)V"⟩
abbrev cX6_readPlayer : ByteArray := prog_8_method_9_code
def yX6_readPlayer : MethodName := ⟨RX6, "readPlayer", "(LGurdyTide$Coast;)V"⟩
abbrev cX6_readBoat : ByteArray := prog_8_method_10_code
def yX6_readBoat : MethodName := ⟨RX6, "readBoat", "(LGurdyTide$Coast;)V"⟩
abbrev cX6_moreComes : ByteArray := prog_8_method_11_code
def yX6_moreComes : MethodName := ⟨RX6, "moreComes", "()Z"⟩
abbrev cX6_nextIs : ByteArray := prog_8_method_12_code
def yX6_nextIs : MethodName := ⟨RX6, "nextIs", "(I)Z"⟩
abbrev cX6_takeSign : ByteArray := prog_8_method_13_code
def yX6_takeSign : MethodName := ⟨RX6, "takeSign", "(I)V"⟩
abbrev cX6_isFigure : ByteArray := prog_8_method_14_code
def yX6_isFigure : MethodName := ⟨RX6, "isFigure", "(I)Z"⟩
abbrev cX6_takeNumber : ByteArray := prog_8_method_15_code
def yX6_takeNumber : MethodName := ⟨RX6, "takeNumber", "(II)I"⟩
abbrev cX6_fail : ByteArray := prog_8_method_16_code
def yX6_fail : MethodName := ⟨RX6, "fail", "(II)V"⟩
def RX7 : String := "GurdyTide$Sleepers"
def TX7 : u_T := fun k => match k with
  | _ => ("GurdyTide$Sleepers", "seas", "[[I", true)
def tyX7 : Nat → FieldType := fun k => match k with
  | _ => .array (.array .int)
abbrev wsX70 : List Cond := u_ws RX7 TX7 1
theorem nmX7 : ∀ a, a < 1 → ∀ b, b < 1 → a ≠ b → (TX7 a).2.1 ≠ (TX7 b).2.1 := by decide +kernel
theorem tyX7_ok : ∀ k, k < 1 → parseFieldDescriptor (TX7 k).2.2.1 = some (tyX7 k) := by decide +kernel
abbrev cX7_init : ByteArray := prog_9_method_1_code
def yX7_init : MethodName := ⟨RX7, "<init>", "()V"⟩
abbrev cX7_fitting : ByteArray := prog_9_method_2_code
def yX7_fitting : MethodName := ⟨RX7, "fitting", "(LGurdyTide$Coast;LGurdyTide$State;LGurdyTide$Notes;LGurdyTide$State;)I"⟩
abbrev cX7_fits : ByteArray := prog_9_method_3_code
def yX7_fits : MethodName := ⟨RX7, "fits", "(ILGurdyTide$Coast;LGurdyTide$State;LGurdyTide$Notes;LGurdyTide$State;)Z"⟩
abbrev cX7_beginAsleep : ByteArray := prog_9_method_4_code
def yX7_beginAsleep : MethodName := ⟨RX7, "beginAsleep", "(ILGurdyTide$State;LGurdyTide$State;)V"⟩
abbrev cX7_bestMark : ByteArray := prog_9_method_5_code
def yX7_bestMark : MethodName := ⟨RX7, "bestMark", "(ILGurdyTide$Coast;LGurdyTide$State;LGurdyTide$State;)I"⟩
abbrev cX7_noteSeas : ByteArray := prog_9_method_6_code
def yX7_noteSeas : MethodName := ⟨RX7, "noteSeas", "(ILGurdyTide$Coast;LGurdyTide$State;)V"⟩
abbrev cX7_mostAlike : ByteArray := prog_9_method_7_code
def yX7_mostAlike : MethodName := ⟨RX7, "mostAlike", "(II)I"⟩
def RX8 : String := "GurdyTide$State"
def TX8 : u_T := fun k => match k with
  | 0 => ("GurdyTide$State", "hours", "I", false)
  | 1 => ("GurdyTide$State", "asleep", "I", false)
  | 2 => ("GurdyTide$State", "wound", "[I", true)
  | 3 => ("GurdyTide$State", "seat", "[I", true)
  | 4 => ("GurdyTide$State", "tired", "[I", true)
  | _ => ("GurdyTide$State", "place", "[I", true)
def tyX8 : Nat → FieldType := fun k => match k with
  | 0 => .int
  | 1 => .int
  | 2 => .array .int
  | 3 => .array .int
  | 4 => .array .int
  | _ => .array .int
abbrev wsX80 : List Cond := u_ws RX8 TX8 6
theorem nmX8 : ∀ a, a < 6 → ∀ b, b < 6 → a ≠ b → (TX8 a).2.1 ≠ (TX8 b).2.1 := by decide +kernel
theorem tyX8_ok : ∀ k, k < 6 → parseFieldDescriptor (TX8 k).2.2.1 = some (tyX8 k) := by decide +kernel
abbrev cX8_init : ByteArray := prog_10_method_1_code
def yX8_init : MethodName := ⟨RX8, "<init>", "()V"⟩
abbrev cX8_begin : ByteArray := prog_10_method_2_code
def yX8_begin : MethodName := ⟨RX8, "begin", "(LGurdyTide$Coast;)V"⟩
abbrev cX8_copy : ByteArray := prog_10_method_3_code
def yX8_copy : MethodName := ⟨RX8, "copy", "(LGurdyTide$State;)V"⟩
abbrev cX8_sleeps : ByteArray := prog_10_method_4_code
def yX8_sleeps : MethodName := ⟨RX8, "sleeps", "(I)Z"⟩
abbrev cX8_setAsleep : ByteArray := prog_10_method_5_code
def yX8_setAsleep : MethodName := ⟨RX8, "setAsleep", "(IZ)V"⟩
abbrev cX8_sitterAt : ByteArray := prog_10_method_6_code
def yX8_sitterAt : MethodName := ⟨RX8, "sitterAt", "(LGurdyTide$Coast;I)I"⟩
abbrev cX8_sitting : ByteArray := prog_10_method_7_code
def yX8_sitting : MethodName := ⟨RX8, "sitting", "(LGurdyTide$Coast;)I"⟩
abbrev cX8_passHour : ByteArray := prog_10_method_8_code
def yX8_passHour : MethodName := ⟨RX8, "passHour", "(LGurdyTide$Coast;)V"⟩
abbrev cX8_wind : ByteArray := prog_10_method_9_code
def yX8_wind : MethodName := ⟨RX8, "wind", "(LGurdyTide$Coast;)V"⟩
abbrev cX8_woundMore : ByteArray := prog_10_method_10_code
def yX8_woundMore : MethodName := ⟨RX8, "woundMore", "(III)I"⟩
abbrev cX8_sail : ByteArray := prog_10_method_11_code
def yX8_sail : MethodName := ⟨RX8, "sail", "(LGurdyTide$Coast;I)V"⟩
abbrev cX8_aground : ByteArray := prog_10_method_12_code
def yX8_aground : MethodName := ⟨RX8, "aground", "(LGurdyTide$Coast;)I"⟩
abbrev cX8_arrived : ByteArray := prog_10_method_13_code
def yX8_arrived : MethodName := ⟨RX8, "arrived", "(LGurdyTide$Coast;)I"⟩
abbrev cX8_seaAt : ByteArray := prog_10_method_14_code
def yX8_seaAt : MethodName := ⟨RX8, "seaAt", "(LGurdyTide$Coast;I)I"⟩
abbrev cX8_depthAt : ByteArray := prog_10_method_15_code
def yX8_depthAt : MethodName := ⟨RX8, "depthAt", "(LGurdyTide$Coast;I)I"⟩
abbrev cX8_wet : ByteArray := prog_10_method_16_code
def yX8_wet : MethodName := ⟨RX8, "wet", "(LGurdyTide$Coast;)I"⟩
abbrev cX8_dryGround : ByteArray := prog_10_method_17_code
def yX8_dryGround : MethodName := ⟨RX8, "dryGround", "(LGurdyTide$Coast;)I"⟩
abbrev cX8_strongest : ByteArray := prog_10_method_18_code
def yX8_strongest : MethodName := ⟨RX8, "strongest", "(LGurdyTide$Coast;I)I"⟩
abbrev cX8_steepest : ByteArray := prog_10_method_19_code
def yX8_steepest : MethodName := ⟨RX8, "steepest", "(LGurdyTide$Coast;)I"⟩
abbrev cX8_slope : ByteArray := prog_10_method_20_code
def yX8_slope : MethodName := ⟨RX8, "slope", "(LGurdyTide$Coast;)I"⟩
abbrev cX8_unlikeness : ByteArray := prog_10_method_21_code
def yX8_unlikeness : MethodName := ⟨RX8, "unlikeness", "(LGurdyTide$Coast;I)I"⟩
def RX9 : String := "GurdyTide"
def TX9 : u_T := fun k => match k with
  | 0 => ("GurdyTide", "reader", "LGurdyTide$Reader;", true)
  | 1 => ("GurdyTide", "coast", "LGurdyTide$Coast;", false)
  | 2 => ("GurdyTide", "spare", "LGurdyTide$Coast;", false)
  | 3 => ("GurdyTide", "now", "LGurdyTide$State;", true)
  | 4 => ("GurdyTide", "trial", "LGurdyTide$State;", true)
  | 5 => ("GurdyTide", "past", "LGurdyTide$Past;", true)
  | 6 => ("GurdyTide", "images", "[LGurdyTide$Image;", true)
  | 7 => ("GurdyTide", "draws", "LGurdyTide$Draws;", true)
  | 8 => ("GurdyTide", "notes", "LGurdyTide$Notes;", true)
  | 9 => ("GurdyTide", "plan", "LGurdyTide$Plan;", true)
  | 10 => ("GurdyTide", "sleepers", "LGurdyTide$Sleepers;", true)
  | _ => ("GurdyTide", "faultAt", "I", false)
def tyX9 : Nat → FieldType := fun k => match k with
  | 0 => .object "GurdyTide$Reader"
  | 1 => .object "GurdyTide$Coast"
  | 2 => .object "GurdyTide$Coast"
  | 3 => .object "GurdyTide$State"
  | 4 => .object "GurdyTide$State"
  | 5 => .object "GurdyTide$Past"
  | 6 => .array (.object "GurdyTide$Image")
  | 7 => .object "GurdyTide$Draws"
  | 8 => .object "GurdyTide$Notes"
  | 9 => .object "GurdyTide$Plan"
  | 10 => .object "GurdyTide$Sleepers"
  | _ => .int
abbrev wsX90 : List Cond := u_ws RX9 TX9 12
theorem nmX9 : ∀ a, a < 12 → ∀ b, b < 12 → a ≠ b → (TX9 a).2.1 ≠ (TX9 b).2.1 := by decide +kernel
theorem tyX9_ok : ∀ k, k < 12 → parseFieldDescriptor (TX9 k).2.2.1 = some (tyX9 k) := by decide +kernel
abbrev cX9_init : ByteArray := prog_1_method_1_code
def yX9_init : MethodName := ⟨RX9, "<init>", "()V"⟩
abbrev cX9_feed : ByteArray := prog_1_method_2_code
def yX9_feed : MethodName := ⟨RX9, "feed", "(I)I"⟩
abbrev cX9_coast : ByteArray := prog_1_method_3_code
def yX9_coast : MethodName := ⟨RX9, "coast", "()I"⟩
abbrev cX9_fault : ByteArray := prog_1_method_4_code
def yX9_fault : MethodName := ⟨RX9, "fault", "()I"⟩
abbrev cX9_told : ByteArray := prog_1_method_5_code
def yX9_told : MethodName := ⟨RX9, "told", "(I)I"⟩
abbrev cX9_cell : ByteArray := prog_1_method_6_code
def yX9_cell : MethodName := ⟨RX9, "cell", "(II)I"⟩
abbrev cX9_tower : ByteArray := prog_1_method_7_code
def yX9_tower : MethodName := ⟨RX9, "tower", "(II)I"⟩
abbrev cX9_player : ByteArray := prog_1_method_8_code
def yX9_player : MethodName := ⟨RX9, "player", "(II)I"⟩
abbrev cX9_boat : ByteArray := prog_1_method_9_code
def yX9_boat : MethodName := ⟨RX9, "boat", "(II)I"⟩
abbrev cX9_hour : ByteArray := prog_1_method_10_code
def yX9_hour : MethodName := ⟨RX9, "hour", "(I)I"⟩
abbrev cX9_sit : ByteArray := prog_1_method_11_code
def yX9_sit : MethodName := ⟨RX9, "sit", "(II)I"⟩
abbrev cX9_rest : ByteArray := prog_1_method_12_code
def yX9_rest : MethodName := ⟨RX9, "rest", "(I)I"⟩
abbrev cX9_sleep : ByteArray := prog_1_method_13_code
def yX9_sleep : MethodName := ⟨RX9, "sleep", "(IZ)I"⟩
abbrev cX9_turn : ByteArray := prog_1_method_14_code
def yX9_turn : MethodName := ⟨RX9, "turn", "(II)I"⟩
abbrev cX9_send : ByteArray := prog_1_method_15_code
def yX9_send : MethodName := ⟨RX9, "send", "(I)I"⟩
abbrev cX9_drift : ByteArray := prog_1_method_16_code
def yX9_drift : MethodName := ⟨RX9, "drift", "(I)I"⟩
abbrev cX9_undo : ByteArray := prog_1_method_17_code
def yX9_undo : MethodName := ⟨RX9, "undo", "()I"⟩
abbrev cX9_sea : ByteArray := prog_1_method_18_code
def yX9_sea : MethodName := ⟨RX9, "sea", "(III)I"⟩
abbrev cX9_deepest : ByteArray := prog_1_method_19_code
def yX9_deepest : MethodName := ⟨RX9, "deepest", "(III)I"⟩
abbrev cX9_comes : ByteArray := prog_1_method_20_code
def yX9_comes : MethodName := ⟨RX9, "comes", "(I)I"⟩
abbrev cX9_seats : ByteArray := prog_1_method_21_code
def yX9_seats : MethodName := ⟨RX9, "seats", "(IIII)I"⟩
abbrev cX9_leave : ByteArray := prog_1_method_22_code
def yX9_leave : MethodName := ⟨RX9, "leave", "(I)I"⟩
abbrev cX9_share : ByteArray := prog_1_method_23_code
def yX9_share : MethodName := ⟨RX9, "share", "(II)I"⟩
abbrev cX9_calm : ByteArray := prog_1_method_24_code
def yX9_calm : MethodName := ⟨RX9, "calm", "(II)I"⟩
abbrev cX9_mark : ByteArray := prog_1_method_25_code
def yX9_mark : MethodName := ⟨RX9, "mark", "(III)I"⟩
abbrev cX9_look : ByteArray := prog_1_method_26_code
def yX9_look : MethodName := ⟨RX9, "look", "()I"⟩
abbrev cX9_see : ByteArray := prog_1_method_27_code
def yX9_see : MethodName := ⟨RX9, "see", "(III)I"⟩
abbrev cX9_write : ByteArray := prog_1_method_28_code
def yX9_write : MethodName := ⟨RX9, "write", "(II)I"⟩
abbrev cX9_tear : ByteArray := prog_1_method_29_code
def yX9_tear : MethodName := ⟨RX9, "tear", "()I"⟩
abbrev cX9_judge : ByteArray := prog_1_method_30_code
def yX9_judge : MethodName := ⟨RX9, "judge", "()I"⟩
abbrev cX9_seed : ByteArray := prog_1_method_31_code
def yX9_seed : MethodName := ⟨RX9, "seed", "(I)I"⟩
abbrev cX9_keep : ByteArray := prog_1_method_32_code
def yX9_keep : MethodName := ⟨RX9, "keep", "(I)I"⟩
abbrev cX9_goBack : ByteArray := prog_1_method_33_code
def yX9_goBack : MethodName := ⟨RX9, "goBack", "(I)I"⟩
abbrev cX9_within : ByteArray := prog_1_method_34_code
def yX9_within : MethodName := ⟨RX9, "within", "(III)Z"⟩
abbrev cX9_refusalOfHours : ByteArray := prog_1_method_35_code
def yX9_refusalOfHours : MethodName := ⟨RX9, "refusalOfHours", "(I)I"⟩
abbrev cX9_shareOf : ByteArray := prog_1_method_36_code
def yX9_shareOf : MethodName := ⟨RX9, "shareOf", "(III)I"⟩
def RX10 : String := "GurdyTideModel"
def TX10 : u_T := fun k => match k with
  | 0 => ("GurdyTideModel", "coast", "[I", true)
  | 1 => ("GurdyTideModel", "read", "[I", true)
  | 2 => ("GurdyTideModel", "now", "[I", true)
  | 3 => ("GurdyTideModel", "aside", "[I", true)
  | 4 => ("GurdyTideModel", "past", "[I", true)
  | 5 => ("GurdyTideModel", "undos", "I", false)
  | 6 => ("GurdyTideModel", "images", "[I", true)
  | 7 => ("GurdyTideModel", "kept", "[Z", true)
  | 8 => ("GurdyTideModel", "seed", "J", false)
  | 9 => ("GurdyTideModel", "text", "[I", true)
  | 10 => ("GurdyTideModel", "size", "I", false)
  | 11 => ("GurdyTideModel", "fault", "I", false)
  | 12 => ("GurdyTideModel", "marks", "[I", true)
  | 13 => ("GurdyTideModel", "markMany", "I", false)
  | 14 => ("GurdyTideModel", "sights", "[I", true)
  | 15 => ("GurdyTideModel", "sightMany", "I", false)
  | 16 => ("GurdyTideModel", "book", "[I", true)
  | 17 => ("GurdyTideModel", "bookMany", "I", false)
  | 18 => ("GurdyTideModel", "at", "I", false)
  | 19 => ("GurdyTideModel", "begin", "I", false)
  | 20 => ("GurdyTideModel", "sign", "I", false)
  | 21 => ("GurdyTideModel", "figures", "I", false)
  | 22 => ("GurdyTideModel", "value", "I", false)
  | 23 => ("GurdyTideModel", "wrong", "I", false)
  | 24 => ("GurdyTideModel", "row", "[I", true)
  | 25 => ("GurdyTideModel", "best", "[I", true)
  | 26 => ("GurdyTideModel", "bestMany", "I", false)
  | 27 => ("GurdyTideModel", "bestArms", "I", false)
  | _ => ("GurdyTideModel", "then", "[I", true)
def tyX10 : Nat → FieldType := fun k => match k with
  | 0 => .array .int
  | 1 => .array .int
  | 2 => .array .int
  | 3 => .array .int
  | 4 => .array .int
  | 5 => .int
  | 6 => .array .int
  | 7 => .array .boolean
  | 8 => .long
  | 9 => .array .int
  | 10 => .int
  | 11 => .int
  | 12 => .array .int
  | 13 => .int
  | 14 => .array .int
  | 15 => .int
  | 16 => .array .int
  | 17 => .int
  | 18 => .int
  | 19 => .int
  | 20 => .int
  | 21 => .int
  | 22 => .int
  | 23 => .int
  | 24 => .array .int
  | 25 => .array .int
  | 26 => .int
  | 27 => .int
  | _ => .array .int
abbrev wsX100 : List Cond := u_ws RX10 TX10 29
theorem nmX10 : ∀ a, a < 29 → ∀ b, b < 29 → a ≠ b → (TX10 a).2.1 ≠ (TX10 b).2.1 := by decide +kernel
theorem tyX10_ok : ∀ k, k < 29 → parseFieldDescriptor (TX10 k).2.2.1 = some (tyX10 k) := by decide +kernel
abbrev cX10_init : ByteArray := prog_12_method_1_code
def yX10_init : MethodName := ⟨RX10, "<init>", "()V"⟩
abbrev cX10_in : ByteArray := prog_12_method_3_code
def yX10_in : MethodName := ⟨RX10, "in", "(JJJ)Z"⟩
abbrev cX10_has : ByteArray := prog_12_method_4_code
def yX10_has : MethodName := ⟨RX10, "has", "(II)Z"⟩
abbrev cX10_bits : ByteArray := prog_12_method_5_code
def yX10_bits : MethodName := ⟨RX10, "bits", "(I)I"⟩
abbrev cX10_lesser : ByteArray := prog_12_method_6_code
def yX10_lesser : MethodName := ⟨RX10, "lesser", "(II)I"⟩
abbrev cX10_greater : ByteArray := prog_12_method_7_code
def yX10_greater : MethodName := ⟨RX10, "greater", "(II)I"⟩
abbrev cX10_copies : ByteArray := prog_12_method_8_code
def yX10_copies : MethodName := ⟨RX10, "copies", "([II[III)V"⟩
abbrev cX10_begins : ByteArray := prog_12_method_9_code
def yX10_begins : MethodName := ⟨RX10, "begins", "()V"⟩
abbrev cX10_feed : ByteArray := prog_12_method_10_code
def yX10_feed : MethodName := ⟨RX10, "feed", "(I)I"⟩
abbrev cX10_here : ByteArray := prog_12_method_11_code
def yX10_here : MethodName := ⟨RX10, "here", "()I"⟩
abbrev cX10_step : ByteArray := prog_12_method_12_code
def yX10_step : MethodName := ⟨RX10, "step", "()V"⟩
abbrev cX10_fails : ByteArray := prog_12_method_13_code
def yX10_fails : MethodName := ⟨RX10, "fails", "(I)Z"⟩
abbrev cX10_number : ByteArray := prog_12_method_14_code
def yX10_number : MethodName := ⟨RX10, "number", "(III)Z"⟩
abbrev cX10_ends : ByteArray := prog_12_method_15_code
def yX10_ends : MethodName := ⟨RX10, "ends", "()Z"⟩
abbrev cX10_readsCells : ByteArray := prog_12_method_16_code
def yX10_readsCells : MethodName := ⟨RX10, "readsCells", "()Z"⟩
abbrev cX10_readsTower : ByteArray := prog_12_method_17_code
def yX10_readsTower : MethodName := ⟨RX10, "readsTower", "()Z"⟩
abbrev cX10_readsPlayer : ByteArray := prog_12_method_18_code
def yX10_readsPlayer : MethodName := ⟨RX10, "readsPlayer", "()Z"⟩
abbrev cX10_readsBoat : ByteArray := prog_12_method_19_code
def yX10_readsBoat : MethodName := ⟨RX10, "readsBoat", "()Z"⟩
abbrev cX10_readsClause : ByteArray := prog_12_method_20_code
def yX10_readsClause : MethodName := ⟨RX10, "readsClause", "()Z"⟩
abbrev cX10_coast : ByteArray := prog_12_method_21_code
def yX10_coast : MethodName := ⟨RX10, "coast", "()I"⟩
abbrev cX10_fault : ByteArray := prog_12_method_22_code
def yX10_fault : MethodName := ⟨RX10, "fault", "()I"⟩
abbrev cX10_isCell : ByteArray := prog_12_method_23_code
def yX10_isCell : MethodName := ⟨RX10, "isCell", "(I)Z"⟩
abbrev cX10_isTower : ByteArray := prog_12_method_24_code
def yX10_isTower : MethodName := ⟨RX10, "isTower", "(I)Z"⟩
abbrev cX10_isPlayer : ByteArray := prog_12_method_25_code
def yX10_isPlayer : MethodName := ⟨RX10, "isPlayer", "(I)Z"⟩
abbrev cX10_isBoat : ByteArray := prog_12_method_26_code
def yX10_isBoat : MethodName := ⟨RX10, "isBoat", "(I)Z"⟩
abbrev cX10_bears : ByteArray := prog_12_method_27_code
def yX10_bears : MethodName := ⟨RX10, "bears", "([III)I"⟩
abbrev cX10_seaOn : ByteArray := prog_12_method_28_code
def yX10_seaOn : MethodName := ⟨RX10, "seaOn", "([II)I"⟩
abbrev cX10_depthOn : ByteArray := prog_12_method_29_code
def yX10_depthOn : MethodName := ⟨RX10, "depthOn", "([II)I"⟩
abbrev cX10_unlike : ByteArray := prog_12_method_30_code
def yX10_unlike : MethodName := ⟨RX10, "unlike", "([II)I"⟩
abbrev cX10_steepest : ByteArray := prog_12_method_31_code
def yX10_steepest : MethodName := ⟨RX10, "steepest", "([I)I"⟩
abbrev cX10_slopeOn : ByteArray := prog_12_method_32_code
def yX10_slopeOn : MethodName := ⟨RX10, "slopeOn", "([I)I"⟩
abbrev cX10_wet : ByteArray := prog_12_method_33_code
def yX10_wet : MethodName := ⟨RX10, "wet", "()I"⟩
abbrev cX10_strongest : ByteArray := prog_12_method_34_code
def yX10_strongest : MethodName := ⟨RX10, "strongest", "(I)I"⟩
abbrev cX10_sitterOn : ByteArray := prog_12_method_35_code
def yX10_sitterOn : MethodName := ⟨RX10, "sitterOn", "([II)I"⟩
abbrev cX10_boats : ByteArray := prog_12_method_36_code
def yX10_boats : MethodName := ⟨RX10, "boats", "(Z)I"⟩
abbrev cX10_whoSits : ByteArray := prog_12_method_37_code
def yX10_whoSits : MethodName := ⟨RX10, "whoSits", "()I"⟩
abbrev cX10_guts : ByteArray := prog_12_method_38_code
def yX10_guts : MethodName := ⟨RX10, "guts", "()I"⟩
abbrev cX10_told : ByteArray := prog_12_method_39_code
def yX10_told : MethodName := ⟨RX10, "told", "(I)I"⟩
abbrev cX10_cell : ByteArray := prog_12_method_40_code
def yX10_cell : MethodName := ⟨RX10, "cell", "(II)I"⟩
abbrev cX10_tower : ByteArray := prog_12_method_41_code
def yX10_tower : MethodName := ⟨RX10, "tower", "(II)I"⟩
abbrev cX10_player : ByteArray := prog_12_method_42_code
def yX10_player : MethodName := ⟨RX10, "player", "(II)I"⟩
abbrev cX10_boat : ByteArray := prog_12_method_43_code
def yX10_boat : MethodName := ⟨RX10, "boat", "(II)I"⟩
abbrev cX10_winds : ByteArray := prog_12_method_44_code
def yX10_winds : MethodName := ⟨RX10, "winds", "([I)V"⟩
abbrev cX10_hourGoes : ByteArray := prog_12_method_45_code
def yX10_hourGoes : MethodName := ⟨RX10, "hourGoes", "([I)V"⟩
abbrev cX10_remember : ByteArray := prog_12_method_46_code
def yX10_remember : MethodName := ⟨RX10, "remember", "()V"⟩
abbrev cX10_refuses : ByteArray := prog_12_method_47_code
def yX10_refuses : MethodName := ⟨RX10, "refuses", "(I)I"⟩
abbrev cX10_hour : ByteArray := prog_12_method_48_code
def yX10_hour : MethodName := ⟨RX10, "hour", "(I)I"⟩
abbrev cX10_sit : ByteArray := prog_12_method_49_code
def yX10_sit : MethodName := ⟨RX10, "sit", "(II)I"⟩
abbrev cX10_rest : ByteArray := prog_12_method_50_code
def yX10_rest : MethodName := ⟨RX10, "rest", "(I)I"⟩
abbrev cX10_sleeps : ByteArray := prog_12_method_51_code
def yX10_sleeps : MethodName := ⟨RX10, "sleeps", "(IZ)V"⟩
abbrev cX10_sleep : ByteArray := prog_12_method_52_code
def yX10_sleep : MethodName := ⟨RX10, "sleep", "(IZ)I"⟩
abbrev cX10_turn : ByteArray := prog_12_method_53_code
def yX10_turn : MethodName := ⟨RX10, "turn", "(II)I"⟩
abbrev cX10_send : ByteArray := prog_12_method_54_code
def yX10_send : MethodName := ⟨RX10, "send", "(I)I"⟩
abbrev cX10_draw : ByteArray := prog_12_method_55_code
def yX10_draw : MethodName := ⟨RX10, "draw", "(I)I"⟩
abbrev cX10_draws : ByteArray := prog_12_method_56_code
def yX10_draws : MethodName := ⟨RX10, "draws", "()V"⟩
abbrev cX10_drift : ByteArray := prog_12_method_57_code
def yX10_drift : MethodName := ⟨RX10, "drift", "(I)I"⟩
abbrev cX10_undo : ByteArray := prog_12_method_58_code
def yX10_undo : MethodName := ⟨RX10, "undo", "()I"⟩
abbrev cX10_layAside : ByteArray := prog_12_method_59_code
def yX10_layAside : MethodName := ⟨RX10, "layAside", "()V"⟩
abbrev cX10_sea : ByteArray := prog_12_method_60_code
def yX10_sea : MethodName := ⟨RX10, "sea", "(III)I"⟩
abbrev cX10_deepest : ByteArray := prog_12_method_61_code
def yX10_deepest : MethodName := ⟨RX10, "deepest", "(III)I"⟩
abbrev cX10_comes : ByteArray := prog_12_method_62_code
def yX10_comes : MethodName := ⟨RX10, "comes", "(I)I"⟩
abbrev cX10_weighs : ByteArray := prog_12_method_63_code
def yX10_weighs : MethodName := ⟨RX10, "weighs", "(III)V"⟩
abbrev cX10_mayBe : ByteArray := prog_12_method_64_code
def yX10_mayBe : MethodName := ⟨RX10, "mayBe", "(I)Z"⟩
abbrev cX10_goesOn : ByteArray := prog_12_method_65_code
def yX10_goesOn : MethodName := ⟨RX10, "goesOn", "(I)I"⟩
abbrev cX10_plans : ByteArray := prog_12_method_66_code
def yX10_plans : MethodName := ⟨RX10, "plans", "(III)V"⟩
abbrev cX10_seats : ByteArray := prog_12_method_67_code
def yX10_seats : MethodName := ⟨RX10, "seats", "(IIII)I"⟩
abbrev cX10_leave : ByteArray := prog_12_method_68_code
def yX10_leave : MethodName := ⟨RX10, "leave", "(I)I"⟩
abbrev cX10_shareOf : ByteArray := prog_12_method_69_code
def yX10_shareOf : MethodName := ⟨RX10, "shareOf", "(II)I"⟩
abbrev cX10_share : ByteArray := prog_12_method_70_code
def yX10_share : MethodName := ⟨RX10, "share", "(II)I"⟩
abbrev cX10_calm : ByteArray := prog_12_method_71_code
def yX10_calm : MethodName := ⟨RX10, "calm", "(II)I"⟩
abbrev cX10_mark : ByteArray := prog_12_method_72_code
def yX10_mark : MethodName := ⟨RX10, "mark", "(III)I"⟩
abbrev cX10_layThen : ByteArray := prog_12_method_73_code
def yX10_layThen : MethodName := ⟨RX10, "layThen", "(I)V"⟩
abbrev cX10_slept : ByteArray := prog_12_method_74_code
def yX10_slept : MethodName := ⟨RX10, "slept", "()I"⟩
abbrev cX10_greatestPart : ByteArray := prog_12_method_75_code
def yX10_greatestPart : MethodName := ⟨RX10, "greatestPart", "(II)I"⟩
abbrev cX10_look : ByteArray := prog_12_method_76_code
def yX10_look : MethodName := ⟨RX10, "look", "()I"⟩
abbrev cX10_see : ByteArray := prog_12_method_77_code
def yX10_see : MethodName := ⟨RX10, "see", "(III)I"⟩
abbrev cX10_write : ByteArray := prog_12_method_78_code
def yX10_write : MethodName := ⟨RX10, "write", "(II)I"⟩
abbrev cX10_tear : ByteArray := prog_12_method_79_code
def yX10_tear : MethodName := ⟨RX10, "tear", "()I"⟩
abbrev cX10_judge : ByteArray := prog_12_method_80_code
def yX10_judge : MethodName := ⟨RX10, "judge", "()I"⟩
abbrev cX10_seed : ByteArray := prog_12_method_81_code
def yX10_seed : MethodName := ⟨RX10, "seed", "(I)I"⟩
abbrev cX10_keep : ByteArray := prog_12_method_82_code
def yX10_keep : MethodName := ⟨RX10, "keep", "(I)I"⟩
abbrev cX10_goBack : ByteArray := prog_12_method_83_code
def yX10_goBack : MethodName := ⟨RX10, "goBack", "(I)I"⟩
def RJ9 : String := "java/lang/Math"
def TJ9 : u_T := fun k => match k with
  | _ => ("", "", "", false)
def tyJ9 : Nat → FieldType := fun k => match k with
  | _ => .int
abbrev wsJ90 : List Cond := u_ws RJ9 TJ9 0
theorem nmJ9 : ∀ a, a < 0 → ∀ b, b < 0 → a ≠ b → (TJ9 a).2.1 ≠ (TJ9 b).2.1 := by decide +kernel
theorem tyJ9_ok : ∀ k, k < 0 → parseFieldDescriptor (TJ9 k).2.2.1 = some (tyJ9 k) := by decide +kernel
abbrev cJ9_abs_0f7a4 : ByteArray := prog_13_method_59_code
def yJ9_abs_0f7a4 : MethodName := ⟨RJ9, "abs", "(I)I"⟩
abbrev cJ9_max_7cf53 : ByteArray := prog_13_method_65_code
def yJ9_max_7cf53 : MethodName := ⟨RJ9, "max", "(II)I"⟩
abbrev cJ9_min_7cf53 : ByteArray := prog_13_method_69_code
def yJ9_min_7cf53 : MethodName := ⟨RJ9, "min", "(II)I"⟩
def RJ10 : String := "java/lang/System"
def TJ10 : u_T := fun k => match k with
  | _ => ("", "", "", false)
def tyJ10 : Nat → FieldType := fun k => match k with
  | _ => .int
abbrev wsJ100 : List Cond := u_ws RJ10 TJ10 0
theorem nmJ10 : ∀ a, a < 0 → ∀ b, b < 0 → a ≠ b → (TJ10 a).2.1 ≠ (TJ10 b).2.1 := by decide +kernel
theorem tyJ10_ok : ∀ k, k < 0 → parseFieldDescriptor (TJ10 k).2.2.1 = some (tyJ10 k) := by decide +kernel
def RJ7 : String := "java/util/Arrays"
def TJ7 : u_T := fun k => match k with
  | _ => ("", "", "", false)
def tyJ7 : Nat → FieldType := fun k => match k with
  | _ => .int
abbrev wsJ70 : List Cond := u_ws RJ7 TJ7 0
theorem nmJ7 : ∀ a, a < 0 → ∀ b, b < 0 → a ≠ b → (TJ7 a).2.1 ≠ (TJ7 b).2.1 := by decide +kernel
theorem tyJ7_ok : ∀ k, k < 0 → parseFieldDescriptor (TJ7 k).2.2.1 = some (tyJ7 k) := by decide +kernel
abbrev cJ7_fill_53178 : ByteArray := prog_15_method_103_code
def yJ7_fill_53178 : MethodName := ⟨RJ7, "fill", "([II)V"⟩
def RL : String := "GurdyTideLaw"
abbrev cL_law : ByteArray := code
def yL_law : MethodName := ⟨RL, "law", "([I)Z"⟩
abbrev vwCl : List vw_C := [(RX0, TX0, 11), (RX1, TX1, 1), (RX2, TX2, 3), (RX3, TX3, 11), (RX4, TX4, 3), (RX5, TX5, 6), (RX6, TX6, 5), (RX7, TX7, 1), (RX8, TX8, 6), (RX9, TX9, 12), (RX10, TX10, 29)]
end
section
/-! THE ABSTRACT MACHINE: a heap of objects numbered from 1, each at the machine's address 'first new cell + number - 1' (0: the script); a body's judgement gt_A over it, a row an instruction; a method's contract gt_C -/
abbrev gt_G : Type := va_G × (Nat → ClassId) × Nat × Heap × Nat × (Nat → Int32)
abbrev gt_Ob : Type := (Nat × (Nat → Int32)) ⊕ (Nat × (Nat → Int32)) ⊕ (Nat × Nat × (Nat → Option Nat)) ⊕ (Nat × List Value)
abbrev gt_H : Type := Nat → Option gt_Ob
abbrev oI (n : Nat) (f : Nat → Int32) : gt_Ob := .inl (n, f)
abbrev oZ (n : Nat) (f : Nat → Int32) : gt_Ob := .inr (.inl (n, f))
abbrev oR (kd n : Nat) (f : Nat → Option Nat) : gt_Ob := .inr (.inr (.inl (kd, n, f)))
abbrev oO (ci : Nat) (fs : List Value) : gt_Ob := .inr (.inr (.inr (ci, fs)))
abbrev gt_B (G : gt_G) : Nat := G.2.2.2.1.size
def gt_ad (G : gt_G) (k : Nat) : Nat := match k with
  | 0 => G.2.2.1
  | k + 1 => gt_B G + k
def gt_v (G : gt_G) (v : Value) : Value := match v with
  | .ref k => .ref (gt_ad G k)
  | v => v
def gt_e (G : gt_G) (o : gt_Ob) : va_E := match o with
  | .inl (n, f) => .inl (G.2.1 0, n, .inl f)
  | .inr (.inl (n, f)) => .inl (G.2.1 1, n, .inl f)
  | .inr (.inr (.inl (kd, n, f))) => .inl (G.2.1 kd, n, .inr (.inr (.inr (.inr (fun j => (f j).map (gt_ad G))))))
  | .inr (.inr (.inr (ci, fs))) => .inr (ci, fs.map (gt_v G))
def gt_tys (G : gt_G) : List (ClassId × FieldType) := [(G.2.1 0, .int), (G.2.1 1, .boolean), (G.2.1 2, .object "GurdyTide$State"), (G.2.1 3, .object "GurdyTide$Image"), (G.2.1 4, .array .int)]
def gt_tbl : List Cond := lw_tbl.filter goodWord
theorem gt_tbl_lw {w : Cond} (h : w ∈ gt_tbl) : w ∈ lw_tbl := (List.mem_filter.mp h).1
theorem gt_mem {w : Cond} (i : Nat) (h : tables_1[i]? = some w) (hg : goodWord w = true) : w ∈ gt_tbl := List.mem_filter.mpr ⟨List.mem_append_right _ (List.mem_of_getElem? h), hg⟩
theorem gt_memp {y : MethodName} {c : Nat} (i : Nat) (h : lw_privs[i]? = some (y, c)) : Cond.selects y.cls y y ∈ gt_tbl := List.mem_filter.mpr ⟨List.mem_append_left _ (List.mem_map.mpr ⟨(y, c), List.mem_of_getElem? h, rfl⟩), rfl⟩
theorem gt_tbl_good {y : MethodName} {cc : ByteArray} {mL : Nat} {rt : Option FieldType} (h : Cond.code y cc mL rt ∈ gt_tbl) : GoodIn gt_tbl (.code y cc mL rt :: gt_tbl) := fun w hw => by
  have hw : w ∈ gt_tbl := by
    rcases List.mem_cons.mp hw with e | e
    · rw [e]; exact h
    · exact e
  exact ⟨hw, good_of_word (List.mem_filter.mp hw).2⟩
def gt_nest : List (String × Nat × MethodName × String) := [("GurdyTide", 9, ⟨"GurdyTide$Reader", "<init>", "()V"⟩, "GurdyTide"), ("GurdyTide", 18, ⟨"GurdyTide$Coast", "<init>", "()V"⟩, "GurdyTide"), ("GurdyTide", 28, ⟨"GurdyTide$State", "<init>", "()V"⟩, "GurdyTide"), ("GurdyTide$Past", 17, ⟨"GurdyTide$State", "<init>", "()V"⟩, "GurdyTide"), ("GurdyTide", 51, ⟨"GurdyTide$Draws", "<init>", "()V"⟩, "GurdyTide"), ("GurdyTide", 58, ⟨"GurdyTide$Notes", "<init>", "()V"⟩, "GurdyTide"), ("GurdyTide", 65, ⟨"GurdyTide$Plan", "<init>", "()V"⟩, "GurdyTide"), ("GurdyTide", 72, ⟨"GurdyTide$Sleepers", "<init>", "()V"⟩, "GurdyTide"), ("GurdyTide", 81, ⟨"GurdyTide$Image", "<init>", "()V"⟩, "GurdyTide"), ("GurdyTide$Image", 9, ⟨"GurdyTide$State", "<init>", "()V"⟩, "GurdyTide")]
def gt_K (G : gt_G) (U : State) : Prop := va_K G.1 vwCl (gt_tys G) U ∧ va_X G.2.2.1 G.2.2.2.2.1 G.2.2.2.2.2 U G.2.2.2.1 ∧ G.2.2.1 < gt_B G ∧ (∀ q ∈ gt_nest, va_Nw (.methodLinkNest q.1 q.2.1 q.2.2.1 q.2.2.2) U) ∧ va_AO "GurdyTide$State" U ∧ va_AO "GurdyTide$Image" U ∧ (Cond.arrayOver (.array .int)).before #[] U = true
theorem gt_K_warm {G : gt_G} {u U : State} (hW : u.WarmedH U.vm) (h : gt_K G u) : gt_K G U := ⟨va_K.moved hW.alike h.1, va_X.moved hW.alike h.2.1, h.2.2.1, fun q hq => va_Nw.warmM hW (h.2.2.2.1 q hq), va_AO.moved hW.alike h.2.2.2.2.1, va_AO.moved hW.alike h.2.2.2.2.2.1, over_moved hW.alike h.2.2.2.2.2.2⟩
theorem gt_K_same {G : gt_G} {u U : State} (hv : u.vm = U.vm) (h : gt_K G u) : gt_K G U := by
  have ha : u.vm.Alike U.vm := by rw [hv]; exact Vm.Alike.refl _
  exact ⟨va_K.moved ha h.1, va_X.moved ha h.2.1, h.2.2.1, fun q hq => va_Nw.same rfl hv (h.2.2.2.1 q hq), va_AO.moved ha h.2.2.2.2.1, va_AO.moved ha h.2.2.2.2.2.1, over_moved ha h.2.2.2.2.2.2⟩
def gt_R (G : gt_G) (n : Nat) (h : gt_H) (H : Heap) : Prop := (∀ k o, h k = some o → k ≠ 0 ∧ k ≤ n ∧ va_at G.1 vwCl (gt_ad G k, gt_e G o) H) ∧ H.size = gt_B G + n ∧ ∀ q, q < gt_B G → H[q]? = G.2.2.2.1[q]?
def gt_X (G : gt_G) (own nm : String) (cc : ByteArray) (mL : Nat) (rt : Option FieldType) (p : Program) (s : State) (m : MethodId) (args : Array Value) (meth : Method) (c : Code) : Prop :=
  p.tables.exec = Jvm.exec ∧ c.code = cc ∧ c.maxLocals = mL ∧ meth.sig.returnType = rt ∧ meth.locks = false ∧ s.vm.findClass own = some m.cls ∧ meth.name = nm ∧ (∀ w ∈ gt_tbl, w.before args s = true) ∧ gt_K G s
def gt_lm (G : gt_G) (lv : List (Nat × Value)) : List (Nat × Value) := lv.map (fun q => (q.1, gt_v G q.2))
abbrev gt_Zt : Type := List Frame → Array Value → State → State → Prop
/-- the body at pc, locals lv, stack st, heap h comes to its end Z -/
def gt_A (l : Launch) (G : gt_G) (own nm : String) (cc : ByteArray) (mL : Nat) (rt : Option FieldType) (R : Room) (Z : gt_Zt) (N : Nat × Nat × Nat) (pc : Nat) (lv : List (Nat × Value)) (st : List Value) (h : gt_H) : Prop :=
  ∀ (p : Program) (e : Env) (s : State) (m : MethodId) (args : Array Value) (below : List Frame) (meth : Method) (c : Code) (H : Heap) (locs : List Loc) (ls : Array Slot),
    gt_X G own nm cc mL rt p s m args meth c → gt_R G N.1 h H → (∀ q ∈ locs, gt_B G ≤ q.base) → lv_has ls mL (gt_lm G lv) →
    W p l e R s m args below meth c H locs N.2.1 N.2.2 (Z below args s) (F0 m pc ls (st.map (gt_v G)))
def gt_rm (d mc ms : Nat) : Room := { frames := d, cells := mc, slots := ms, locals := 40 * d }
def gt_Q (G : gt_G) (n : Nat) (r : Option Value) (h : gt_H) : Array Value → State → Outcome → State → Prop := fun _ _ o t => o = .returned (r.map (gt_v G)) ∧ gt_R G n h t.heap
def gt_Z (G : gt_G) (n mc ms : Nat) (r : Option Value) (h : gt_H) : gt_Zt := fun below args s => MQ below (gt_Q G n r h) args s mc ms (fun q => gt_B G ≤ q)
def gt_P (G : gt_G) (n : Nat) (as : List Value) (h : gt_H) : Array Value → State → Prop := fun a U => a = (as.map (gt_v G)).toArray ∧ gt_R G n h U.heap ∧ gt_K G U
/-- a method's contract: with these arguments and this heap it answers r and leaves the heap h' -/
def gt_C (l : Launch) (G : gt_G) (y : MethodName) (cc : ByteArray) (mL : Nat) (rt : Option FieldType) (d mc ms n : Nat) (as : List Value) (h : gt_H) (r : Option Value) (h' : gt_H) : Prop :=
  Met l y (.code y cc mL rt :: gt_tbl) (gt_rm d mc ms) (gt_P G n as h) (gt_Q G (n + mc) r h') mc ms (fun q => gt_B G ≤ q)
theorem gt_P_blind (G : gt_G) (n : Nat) (as : List Value) (h : gt_H) : FrameBlind (gt_P G n as h) := fun a U g mk q => ⟨q.1, q.2.1, gt_K_same (u := U) (U := U.calling g mk a) rfl q.2.2⟩
/-- a contract out of the walk of its body -/
theorem gt_C_of {l : Launch} {G : gt_G} {y : MethodName} {own nm : String} {cc : ByteArray} {mL : Nat} {rt : Option FieldType} {d mc ms n : Nat} {as : List Value} {h h' : gt_H} {r : Option Value} (hown : y.cls = own) (hnm : y.name = nm) (hpl : plainName y.cls = true) (hlen : (lg_sl (as.map (gt_v G))).length ≤ mL)
    (body : gt_A l G own nm cc mL rt (gt_rm d mc ms) (gt_Z G (n + mc) mc ms r h') (n, 0, 0) 0 (lv_args 0 as) [] h) : gt_C l G y cc mL rt d mc ms n as h r h' := by
  refine Met.ofW (cc := cc) (maxL := mL) (ret := rt) hpl rfl ?_
  intro p e s m args below meth c s₁ B hml hv
  obtain ⟨rfl, hR, hK⟩ := hv
  have hts := atoms_spec (ws := .code y cc mL rt :: gt_tbl) B.pre
  have hX : gt_X G own nm cc mL rt p s m ((as.map (gt_v G)).toArray) meth c := ⟨B.exec, B.bytes, hml, B.returns, B.notSynchronized, by rw [← hown]; exact findClass_of_methodNamed B.named, by rw [← hnm]; exact (name_of_methodNamed B.named B.method).1, fun w hw => hts w (List.mem_cons_of_mem _ hw), hK⟩
  have hl := lv_entry (as.map (gt_v G)) (n := mL) hlen
  rw [lg_entry_eq]
  have hl2 : lv_args 0 (as.map (gt_v G)) = gt_lm G (lv_args 0 as) := by
    have key : ∀ (xs : List Value) (i : Nat), lv_args i (xs.map (gt_v G)) = gt_lm G (lv_args i xs) := by
      intro xs
      induction xs with
      | nil => intro i; rfl
      | cons x xs ih =>
        intro i
        have hc : (gt_v G x).category = x.category := by cases x <;> rfl
        show lv_args i (gt_v G x :: xs.map (gt_v G)) = gt_lm G (lv_args i (x :: xs))
        simp only [lv_args, gt_lm, List.map_cons, hc]
        rw [ih]
        rfl
    exact key as 0
  rw [hl2] at hl
  exact body p e s m _ below meth c s.heap [] _ hX hR (fun q hq => by cases hq) hl
end
section
section GA
variable {l : Launch} {G : gt_G} {own nm : String} {cc : ByteArray} {mL : Nat} {rt : Option FieldType} {R : Room} {Z : gt_Zt} {N : Nat × Nat × Nat} {pc : Nat} {lv : List (Nat × Value)} {st : List Value} {h : gt_H}
theorem gt_at {ls : Array Slot} (hl : lv_has ls mL (gt_lm G lv)) (j : Nat) {i : Nat} {v : Value} (hk : lv[j]? = some (i, v)) : ls[i]? = some (.val (gt_v G v)) := lv_at hl j (by unfold gt_lm; rw [List.getElem?_map, hk]; rfl)
/-- the locals behind a store -/
def gt_set (lv : List (Nat × Value)) (i : Nat) (v : Value) : List (Nat × Value) := if lv.any (fun q => q.1 == i) then lv.map (fun q => if q.1 == i then (i, v) else q) else lv ++ [(i, v)]
def gt_ok1 (lv : List (Nat × Value)) (i : Nat) : Bool := lv.all (fun q => !(q.1 + 1 == i && q.2.category == 2))
def gt_ok2 (lv : List (Nat × Value)) (i : Nat) : Bool := lv.all (fun q => !(q.1 == i + 1) && !(q.1 + 1 == i && q.2.category == 2))
theorem gt_set_mem {lv : List (Nat × Value)} {i : Nat} {v : Value} {q : Nat × Value} (h : q ∈ gt_set lv i v) : q = (i, v) ∨ (q ∈ lv ∧ (q.1 == i) = false) := by
  unfold gt_set at h
  by_cases ha : lv.any (fun q => q.1 == i) = true
  · rw [if_pos ha] at h
    obtain ⟨x, hx, e⟩ := List.mem_map.mp h
    by_cases hi : (x.1 == i) = true
    · rw [if_pos hi] at e; exact Or.inl e.symm
    · rw [if_neg hi] at e; subst e; exact Or.inr ⟨hx, by simpa using hi⟩
  · rw [if_neg ha] at h
    rcases List.mem_append.mp h with h | h
    · refine Or.inr ⟨h, ?_⟩
      cases hq : (q.1 == i) with
      | false => rfl
      | true => exact absurd (List.any_eq_true.mpr ⟨q, h, hq⟩) ha
    · exact Or.inl (List.mem_singleton.mp h)
theorem gt_cat (v : Value) : (gt_v G v).category = v.category := by cases v <;> rfl
theorem gt_set1 {ls : Array Slot} {i : Nat} {v : Value} (ho : gt_ok1 lv i = true) (hl : lv_has ls mL ((i, gt_v G v) :: (gt_lm G lv).filter (fun q => !(q.1 == i) && !(q.1 + 1 == i && q.2.category == 2)))) : lv_has ls mL (gt_lm G (gt_set lv i v)) := by
  refine ⟨hl.1, hl.2.1, fun q hq => hl.2.2 q ?_⟩
  obtain ⟨x, hx, rfl⟩ := List.mem_map.mp hq
  rcases gt_set_mem hx with rfl | ⟨h1, h2⟩
  · exact List.mem_cons_self
  · refine List.mem_cons_of_mem _ (List.mem_filter.mpr ⟨List.mem_map.mpr ⟨x, h1, rfl⟩, ?_⟩)
    have h3 := List.all_eq_true.mp ho x h1
    simp only [gt_cat, h2]
    simpa using h3
theorem gt_set2 {ls : Array Slot} {i : Nat} {v : Value} (ho : gt_ok2 lv i = true) (hl : lv_has ls mL ((i, gt_v G v) :: (gt_lm G lv).filter (fun q => !(q.1 == i) && (!(q.1 == i + 1) && !(q.1 + 1 == i && q.2.category == 2))))) : lv_has ls mL (gt_lm G (gt_set lv i v)) := by
  refine ⟨hl.1, hl.2.1, fun q hq => hl.2.2 q ?_⟩
  obtain ⟨x, hx, rfl⟩ := List.mem_map.mp hq
  rcases gt_set_mem hx with rfl | ⟨h1, h2⟩
  · exact List.mem_cons_self
  · refine List.mem_cons_of_mem _ (List.mem_filter.mpr ⟨List.mem_map.mpr ⟨x, h1, rfl⟩, ?_⟩)
    have h3 := List.all_eq_true.mp ho x h1
    simp only [gt_cat, h2]
    simpa using h3
/-- fewer locals: the first ones -/
theorem ga_take (n : Nat) (k : gt_A l G own nm cc mL rt R Z N pc (lv.take n) st h) : gt_A l G own nm cc mL rt R Z N pc lv st h :=
  fun p e s m args below meth c H locs ls X hR hL hl => k p e s m args below meth c H locs ls X hR hL ⟨hl.1, hl.2.1, fun q hq => hl.2.2 q (by
    obtain ⟨x, hx, e⟩ := List.mem_map.mp hq
    exact List.mem_map.mpr ⟨x, List.mem_of_mem_take hx, e⟩)⟩
/-- other locals: all of them among the old -/
theorem ga_sub {lv' : List (Nat × Value)} (hs : ∀ q ∈ lv', q ∈ lv) (k : gt_A l G own nm cc mL rt R Z N pc lv' st h) : gt_A l G own nm cc mL rt R Z N pc lv st h :=
  fun p e s m args below meth c H locs ls X hR hL hl => k p e s m args below meth c H locs ls X hR hL ⟨hl.1, hl.2.1, fun q hq => hl.2.2 q (by
    obtain ⟨x, hx, e⟩ := List.mem_map.mp hq
    exact List.mem_map.mpr ⟨x, hs x hx, e⟩)⟩
/-- another name of the heap -/
theorem ga_heap {h' : gt_H} (e : h = h') (k : gt_A l G own nm cc mL rt R Z N pc lv st h') : gt_A l G own nm cc mL rt R Z N pc lv st h := e ▸ k
/-- a heap of which less is said -/
theorem ga_weak {h' : gt_H} (e : ∀ k o, h' k = some o → h k = some o) (k : gt_A l G own nm cc mL rt R Z N pc lv st h') : gt_A l G own nm cc mL rt R Z N pc lv st h :=
  fun p e' s m args below meth c H locs ls X hR hL hl => k p e' s m args below meth c H locs ls X ⟨fun i o ho => hR.1 i o (e i o ho), hR.2⟩ hL hl

theorem ga_iadd {x y : Int32} (hd : decode cc pc = .ok (.iadd, 1)) (k : gt_A l G own nm cc mL rt R Z N (pc + 1) lv (.int (x + y) :: st) h) : gt_A l G own nm cc mL rt R Z N pc lv (.int y :: .int x :: st) h :=
  fun p e s m args below meth c H locs ls X hR hL hl => lv_iadd X.1 X.2.1 hd (k p e s m args below meth c H locs ls X hR hL hl)
theorem ga_isub {x y : Int32} (hd : decode cc pc = .ok (.isub, 1)) (k : gt_A l G own nm cc mL rt R Z N (pc + 1) lv (.int (x - y) :: st) h) : gt_A l G own nm cc mL rt R Z N pc lv (.int y :: .int x :: st) h :=
  fun p e s m args below meth c H locs ls X hR hL hl => lv_isub X.1 X.2.1 hd (k p e s m args below meth c H locs ls X hR hL hl)
theorem ga_imul {x y : Int32} (hd : decode cc pc = .ok (.imul, 1)) (k : gt_A l G own nm cc mL rt R Z N (pc + 1) lv (.int (x * y) :: st) h) : gt_A l G own nm cc mL rt R Z N pc lv (.int y :: .int x :: st) h :=
  fun p e s m args below meth c H locs ls X hR hL hl => lv_imul X.1 X.2.1 hd (k p e s m args below meth c H locs ls X hR hL hl)
theorem ga_iand {x y : Int32} (hd : decode cc pc = .ok (.iand, 1)) (k : gt_A l G own nm cc mL rt R Z N (pc + 1) lv (.int (x &&& y) :: st) h) : gt_A l G own nm cc mL rt R Z N pc lv (.int y :: .int x :: st) h :=
  fun p e s m args below meth c H locs ls X hR hL hl => lv_iand X.1 X.2.1 hd (k p e s m args below meth c H locs ls X hR hL hl)
theorem ga_ior {x y : Int32} (hd : decode cc pc = .ok (.ior, 1)) (k : gt_A l G own nm cc mL rt R Z N (pc + 1) lv (.int (x ||| y) :: st) h) : gt_A l G own nm cc mL rt R Z N pc lv (.int y :: .int x :: st) h :=
  fun p e s m args below meth c H locs ls X hR hL hl => lv_ior X.1 X.2.1 hd (k p e s m args below meth c H locs ls X hR hL hl)
theorem ga_ixor {x y : Int32} (hd : decode cc pc = .ok (.ixor, 1)) (k : gt_A l G own nm cc mL rt R Z N (pc + 1) lv (.int (x ^^^ y) :: st) h) : gt_A l G own nm cc mL rt R Z N pc lv (.int y :: .int x :: st) h :=
  fun p e s m args below meth c H locs ls X hR hL hl => lv_ixor X.1 X.2.1 hd (k p e s m args below meth c H locs ls X hR hL hl)
theorem ga_ishl {x y : Int32} (hd : decode cc pc = .ok (.ishl, 1)) (k : gt_A l G own nm cc mL rt R Z N (pc + 1) lv (.int (x <<< (y &&& 31)) :: st) h) : gt_A l G own nm cc mL rt R Z N pc lv (.int y :: .int x :: st) h :=
  fun p e s m args below meth c H locs ls X hR hL hl => lv_ishl X.1 X.2.1 hd (k p e s m args below meth c H locs ls X hR hL hl)
theorem ga_ishr {x y : Int32} (hd : decode cc pc = .ok (.ishr, 1)) (k : gt_A l G own nm cc mL rt R Z N (pc + 1) lv (.int (x >>> (y &&& 31)) :: st) h) : gt_A l G own nm cc mL rt R Z N pc lv (.int y :: .int x :: st) h :=
  fun p e s m args below meth c H locs ls X hR hL hl => lv_ishr X.1 X.2.1 hd (k p e s m args below meth c H locs ls X hR hL hl)
theorem ga_idiv {x y : Int32} (hd : decode cc pc = .ok (.idiv, 1)) (hne : ¬ y = 0) (k : gt_A l G own nm cc mL rt R Z N (pc + 1) lv (.int (x / y) :: st) h) : gt_A l G own nm cc mL rt R Z N pc lv (.int y :: .int x :: st) h :=
  fun p e s m args below meth c H locs ls X hR hL hl => lv_idiv X.1 X.2.1 hd hne (k p e s m args below meth c H locs ls X hR hL hl)
theorem ga_irem {x y : Int32} (hd : decode cc pc = .ok (.irem, 1)) (hne : ¬ y = 0) (k : gt_A l G own nm cc mL rt R Z N (pc + 1) lv (.int (x - x / y * y) :: st) h) : gt_A l G own nm cc mL rt R Z N pc lv (.int y :: .int x :: st) h :=
  fun p e s m args below meth c H locs ls X hR hL hl => lv_irem X.1 X.2.1 hd hne (k p e s m args below meth c H locs ls X hR hL hl)
theorem ga_ineg {x : Int32} (hd : decode cc pc = .ok (.ineg, 1)) (k : gt_A l G own nm cc mL rt R Z N (pc + 1) lv (.int (-x) :: st) h) : gt_A l G own nm cc mL rt R Z N pc lv (.int x :: st) h :=
  fun p e s m args below meth c H locs ls X hR hL hl => lv_ineg X.1 X.2.1 hd (k p e s m args below meth c H locs ls X hR hL hl)
theorem ga_ladd {x y : Int64} (hd : decode cc pc = .ok (.ladd, 1)) (k : gt_A l G own nm cc mL rt R Z N (pc + 1) lv (.long (x + y) :: st) h) : gt_A l G own nm cc mL rt R Z N pc lv (.long y :: .long x :: st) h :=
  fun p e s m args below meth c H locs ls X hR hL hl => lv_ladd X.1 X.2.1 hd (k p e s m args below meth c H locs ls X hR hL hl)
theorem ga_lmul {x y : Int64} (hd : decode cc pc = .ok (.lmul, 1)) (k : gt_A l G own nm cc mL rt R Z N (pc + 1) lv (.long (x * y) :: st) h) : gt_A l G own nm cc mL rt R Z N pc lv (.long y :: .long x :: st) h :=
  fun p e s m args below meth c H locs ls X hR hL hl => lv_lmul X.1 X.2.1 hd (k p e s m args below meth c H locs ls X hR hL hl)
theorem ga_land {x y : Int64} (hd : decode cc pc = .ok (.land, 1)) (k : gt_A l G own nm cc mL rt R Z N (pc + 1) lv (.long (x &&& y) :: st) h) : gt_A l G own nm cc mL rt R Z N pc lv (.long y :: .long x :: st) h :=
  fun p e s m args below meth c H locs ls X hR hL hl => lv_land X.1 X.2.1 hd (k p e s m args below meth c H locs ls X hR hL hl)
theorem ga_ldiv {x y : Int64} (hd : decode cc pc = .ok (.ldiv, 1)) (hne : ¬ y = 0) (k : gt_A l G own nm cc mL rt R Z N (pc + 1) lv (.long (x / y) :: st) h) : gt_A l G own nm cc mL rt R Z N pc lv (.long y :: .long x :: st) h :=
  fun p e s m args below meth c H locs ls X hR hL hl => lv_ldiv X.1 X.2.1 hd hne (k p e s m args below meth c H locs ls X hR hL hl)
theorem ga_lrem {x y : Int64} (hd : decode cc pc = .ok (.lrem, 1)) (hne : ¬ y = 0) (k : gt_A l G own nm cc mL rt R Z N (pc + 1) lv (.long (x - x / y * y) :: st) h) : gt_A l G own nm cc mL rt R Z N pc lv (.long y :: .long x :: st) h :=
  fun p e s m args below meth c H locs ls X hR hL hl => lv_lrem X.1 X.2.1 hd hne (k p e s m args below meth c H locs ls X hR hL hl)
theorem ga_i2l {x : Int32} (hd : decode cc pc = .ok (.i2l, 1)) (k : gt_A l G own nm cc mL rt R Z N (pc + 1) lv (.long x.toInt64 :: st) h) : gt_A l G own nm cc mL rt R Z N pc lv (.int x :: st) h :=
  fun p e s m args below meth c H locs ls X hR hL hl => lv_i2l X.1 X.2.1 hd rfl (k p e s m args below meth c H locs ls X hR hL hl)
theorem ga_l2i {x : Int64} (hd : decode cc pc = .ok (.l2i, 1)) (k : gt_A l G own nm cc mL rt R Z N (pc + 1) lv (.int x.toInt32 :: st) h) : gt_A l G own nm cc mL rt R Z N pc lv (.long x :: st) h :=
  fun p e s m args below meth c H locs ls X hR hL hl => lv_l2i X.1 X.2.1 hd rfl (k p e s m args below meth c H locs ls X hR hL hl)
theorem ga_lcmp {x y : Int64} (hd : decode cc pc = .ok (.lcmp, 1)) (k : gt_A l G own nm cc mL rt R Z N (pc + 1) lv (.int (lg_cmp x y) :: st) h) : gt_A l G own nm cc mL rt R Z N pc lv (.long y :: .long x :: st) h :=
  fun p e s m args below meth c H locs ls X hR hL hl => W.lcmp X.1 X.2.1 hd (k p e s m args below meth c H locs ls X hR hL hl)
theorem ga_iconst {n : Int} (v : Int32) (hd : decode cc pc = .ok (.iconst n, 1)) (hv : Int32.ofInt n = v) (k : gt_A l G own nm cc mL rt R Z N (pc + 1) lv (.int v :: st) h) : gt_A l G own nm cc mL rt R Z N pc lv st h :=
  fun p e s m args below meth c H locs ls X hR hL hl => lv_iconst X.1 X.2.1 hd hv (k p e s m args below meth c H locs ls X hR hL hl)
theorem ga_bipush {n : Int} (v : Int32) (hd : decode cc pc = .ok (.bipush n, 2)) (hv : (Int8.ofInt n).toInt32 = v) (k : gt_A l G own nm cc mL rt R Z N (pc + 2) lv (.int v :: st) h) : gt_A l G own nm cc mL rt R Z N pc lv st h :=
  fun p e s m args below meth c H locs ls X hR hL hl => lv_bipush X.1 X.2.1 hd hv (k p e s m args below meth c H locs ls X hR hL hl)
theorem ga_sipush {n : Int} (v : Int32) (hd : decode cc pc = .ok (.sipush n, 3)) (hv : (Int16.ofInt n).toInt32 = v) (k : gt_A l G own nm cc mL rt R Z N (pc + 3) lv (.int v :: st) h) : gt_A l G own nm cc mL rt R Z N pc lv st h :=
  fun p e s m args below meth c H locs ls X hR hL hl => lv_sipush X.1 X.2.1 hd hv (k p e s m args below meth c H locs ls X hR hL hl)
theorem ga_lconst {n : Fin 2} (v : Int64) (hd : decode cc pc = .ok (.lconst n, 1)) (hv : Int64.ofNat (n : Nat) = v) (k : gt_A l G own nm cc mL rt R Z N (pc + 1) lv (.long v :: st) h) : gt_A l G own nm cc mL rt R Z N pc lv st h :=
  fun p e s m args below meth c H locs ls X hR hL hl => lv_lconst X.1 X.2.1 hd hv (k p e s m args below meth c H locs ls X hR hL hl)
theorem ga_ldc {idx : Nat} {v : Int32} (hc : Cond.constant own idx v ∈ gt_tbl) (hd : decode cc pc = .ok (.ldc idx, 2)) (k : gt_A l G own nm cc mL rt R Z N (pc + 2) lv (.int v :: st) h) : gt_A l G own nm cc mL rt R Z N pc lv st h :=
  fun p e s m args below meth c H locs ls X hR hL hl => lv_ldc X.1 X.2.1 X.2.2.2.2.2.1 (X.2.2.2.2.2.2.2.1 _ hc) hd (k p e s m args below meth c H locs ls X hR hL hl)
theorem ga_ldc_w {idx : Nat} {v : Int32} (hc : Cond.constant own idx v ∈ gt_tbl) (hd : decode cc pc = .ok (.ldc_w idx, 3)) (k : gt_A l G own nm cc mL rt R Z N (pc + 3) lv (.int v :: st) h) : gt_A l G own nm cc mL rt R Z N pc lv st h :=
  fun p e s m args below meth c H locs ls X hR hL hl => lv_ldcw X.1 X.2.1 X.2.2.2.2.2.1 (X.2.2.2.2.2.2.2.1 _ hc) hd (k p e s m args below meth c H locs ls X hR hL hl)
theorem ga_ldc2_w {idx : Nat} {v : Int64} (hc : Cond.constantLong own idx v ∈ gt_tbl) (hd : decode cc pc = .ok (.ldc2_w idx, 3)) (k : gt_A l G own nm cc mL rt R Z N (pc + 3) lv (.long v :: st) h) : gt_A l G own nm cc mL rt R Z N pc lv st h :=
  fun p e s m args below meth c H locs ls X hR hL hl => lv_ldc2 X.1 X.2.1 X.2.2.2.2.2.1 (X.2.2.2.2.2.2.2.1 _ hc) hd (k p e s m args below meth c H locs ls X hR hL hl)
theorem ga_dup {v : Value} (hd : decode cc pc = .ok (.dup, 1)) (hv : v.category = 1) (k : gt_A l G own nm cc mL rt R Z N (pc + 1) lv (v :: v :: st) h) : gt_A l G own nm cc mL rt R Z N pc lv (v :: st) h :=
  fun p e s m args below meth c H locs ls X hR hL hl => lv_dup X.1 X.2.1 hd (by rw [gt_cat]; exact hv) (k p e s m args below meth c H locs ls X hR hL hl)
theorem ga_pop {v : Value} (hd : decode cc pc = .ok (.pop, 1)) (hv : v.category = 1) (k : gt_A l G own nm cc mL rt R Z N (pc + 1) lv st h) : gt_A l G own nm cc mL rt R Z N pc lv (v :: st) h :=
  fun p e s m args below meth c H locs ls X hR hL hl => lv_pop X.1 X.2.1 hd (by rw [gt_cat]; exact hv) (k p e s m args below meth c H locs ls X hR hL hl)
theorem ga_dup2 {v w : Value} (hd : decode cc pc = .ok (.dup2, 1)) (hv : v.category = 1) (hw : w.category = 1) (k : gt_A l G own nm cc mL rt R Z N (pc + 1) lv (v :: w :: v :: w :: st) h) : gt_A l G own nm cc mL rt R Z N pc lv (v :: w :: st) h :=
  fun p e s m args below meth c H locs ls X hR hL hl => lv_dup2_11 X.1 X.2.1 hd (by rw [gt_cat]; exact hv) (by rw [gt_cat]; exact hw) (k p e s m args below meth c H locs ls X hR hL hl)
theorem ga_iload (j : Nat) {i : Nat} {x : Int32} (hd : decode cc pc = .ok (.iload i, 2)) (hk : lv[j]? = some (i, .int x)) (k : gt_A l G own nm cc mL rt R Z N (pc + 2) lv (.int x :: st) h) : gt_A l G own nm cc mL rt R Z N pc lv st h :=
  fun p e s m args below meth c H locs ls X hR hL hl => lv_iload X.1 X.2.1 hd (gt_at hl j hk) (k p e s m args below meth c H locs ls X hR hL hl)
theorem ga_iload_n (j : Nat) {f : Fin 4} {x : Int32} (hd : decode cc pc = .ok (.iload_n f, 1)) (hk : lv[j]? = some ((f : Nat), .int x)) (k : gt_A l G own nm cc mL rt R Z N (pc + 1) lv (.int x :: st) h) : gt_A l G own nm cc mL rt R Z N pc lv st h :=
  fun p e s m args below meth c H locs ls X hR hL hl => lv_iload_n X.1 X.2.1 hd rfl (gt_at hl j hk) (k p e s m args below meth c H locs ls X hR hL hl)
theorem ga_istore {i : Nat} {x : Int32} (hd : decode cc pc = .ok (.istore i, 2)) (hn : i < mL) (ho : gt_ok1 lv i = true) (k : gt_A l G own nm cc mL rt R Z N (pc + 2) (gt_set lv i (.int x)) st h) : gt_A l G own nm cc mL rt R Z N pc lv (.int x :: st) h :=
  fun p e s m args below meth c H locs ls X hR hL hl => lv_istore X.1 X.2.1 hd hl hn rfl (fun ls' hl' => k p e s m args below meth c H locs ls' X hR hL (gt_set1 (v := .int x) ho hl'))
theorem ga_istore_n {f : Fin 4} {x : Int32} (hd : decode cc pc = .ok (.istore_n f, 1)) (hn : (f : Nat) < mL) (ho : gt_ok1 lv f = true) (k : gt_A l G own nm cc mL rt R Z N (pc + 1) (gt_set lv f (.int x)) st h) : gt_A l G own nm cc mL rt R Z N pc lv (.int x :: st) h :=
  fun p e s m args below meth c H locs ls X hR hL hl => lv_istore_n X.1 X.2.1 hd rfl hl hn rfl (fun ls' hl' => k p e s m args below meth c H locs ls' X hR hL (gt_set1 (v := .int x) ho hl'))
theorem ga_lload (j : Nat) {i : Nat} {x : Int64} (hd : decode cc pc = .ok (.lload i, 2)) (hk : lv[j]? = some (i, .long x)) (k : gt_A l G own nm cc mL rt R Z N (pc + 2) lv (.long x :: st) h) : gt_A l G own nm cc mL rt R Z N pc lv st h :=
  fun p e s m args below meth c H locs ls X hR hL hl => lv_lload X.1 X.2.1 hd (gt_at hl j hk) (k p e s m args below meth c H locs ls X hR hL hl)
theorem ga_lload_n (j : Nat) {f : Fin 4} {x : Int64} (hd : decode cc pc = .ok (.lload_n f, 1)) (hk : lv[j]? = some ((f : Nat), .long x)) (k : gt_A l G own nm cc mL rt R Z N (pc + 1) lv (.long x :: st) h) : gt_A l G own nm cc mL rt R Z N pc lv st h :=
  fun p e s m args below meth c H locs ls X hR hL hl => lv_lload_n X.1 X.2.1 hd rfl (gt_at hl j hk) (k p e s m args below meth c H locs ls X hR hL hl)
theorem ga_lstore {i : Nat} {x : Int64} (hd : decode cc pc = .ok (.lstore i, 2)) (hn : i + 1 < mL) (ho : gt_ok2 lv i = true) (k : gt_A l G own nm cc mL rt R Z N (pc + 2) (gt_set lv i (.long x)) st h) : gt_A l G own nm cc mL rt R Z N pc lv (.long x :: st) h :=
  fun p e s m args below meth c H locs ls X hR hL hl => lv_lstore X.1 X.2.1 hd hl hn rfl (fun ls' hl' => k p e s m args below meth c H locs ls' X hR hL (gt_set2 (v := .long x) ho hl'))
theorem ga_lstore_n {f : Fin 4} {x : Int64} (hd : decode cc pc = .ok (.lstore_n f, 1)) (hn : (f : Nat) + 1 < mL) (ho : gt_ok2 lv f = true) (k : gt_A l G own nm cc mL rt R Z N (pc + 1) (gt_set lv f (.long x)) st h) : gt_A l G own nm cc mL rt R Z N pc lv (.long x :: st) h :=
  fun p e s m args below meth c H locs ls X hR hL hl => lv_lstore_n X.1 X.2.1 hd rfl hl hn rfl (fun ls' hl' => k p e s m args below meth c H locs ls' X hR hL (gt_set2 (v := .long x) ho hl'))
theorem ga_aload (j : Nat) {i : Nat} {x : Nat} (hd : decode cc pc = .ok (.aload i, 2)) (hk : lv[j]? = some (i, .ref x)) (k : gt_A l G own nm cc mL rt R Z N (pc + 2) lv (.ref x :: st) h) : gt_A l G own nm cc mL rt R Z N pc lv st h :=
  fun p e s m args below meth c H locs ls X hR hL hl => lv_aload X.1 X.2.1 hd (gt_at hl j hk) (k p e s m args below meth c H locs ls X hR hL hl)
theorem ga_aload_n (j : Nat) {f : Fin 4} {x : Nat} (hd : decode cc pc = .ok (.aload_n f, 1)) (hk : lv[j]? = some ((f : Nat), .ref x)) (k : gt_A l G own nm cc mL rt R Z N (pc + 1) lv (.ref x :: st) h) : gt_A l G own nm cc mL rt R Z N pc lv st h :=
  fun p e s m args below meth c H locs ls X hR hL hl => lv_aload_n X.1 X.2.1 hd rfl (gt_at hl j hk) (k p e s m args below meth c H locs ls X hR hL hl)
theorem ga_astore {i : Nat} {x : Nat} (hd : decode cc pc = .ok (.astore i, 2)) (hn : i < mL) (ho : gt_ok1 lv i = true) (k : gt_A l G own nm cc mL rt R Z N (pc + 2) (gt_set lv i (.ref x)) st h) : gt_A l G own nm cc mL rt R Z N pc lv (.ref x :: st) h :=
  fun p e s m args below meth c H locs ls X hR hL hl => lv_astore X.1 X.2.1 hd hl hn rfl (fun ls' hl' => k p e s m args below meth c H locs ls' X hR hL (gt_set1 (v := .ref x) ho hl'))
theorem ga_astore_n {f : Fin 4} {x : Nat} (hd : decode cc pc = .ok (.astore_n f, 1)) (hn : (f : Nat) < mL) (ho : gt_ok1 lv f = true) (k : gt_A l G own nm cc mL rt R Z N (pc + 1) (gt_set lv f (.ref x)) st h) : gt_A l G own nm cc mL rt R Z N pc lv (.ref x :: st) h :=
  fun p e s m args below meth c H locs ls X hR hL hl => lv_astore_n X.1 X.2.1 hd rfl hl hn rfl (fun ls' hl' => k p e s m args below meth c H locs ls' X hR hL (gt_set1 (v := .ref x) ho hl'))
theorem ga_iinc (j : Nat) {i : Nat} {n : Int} {x : Int32} (v : Int32) (hd : decode cc pc = .ok (.iinc i n, 3)) (hk : lv[j]? = some (i, .int x)) (hv : Int32.ofInt n = v) (hn : i < mL) (ho : gt_ok1 lv i = true) (k : gt_A l G own nm cc mL rt R Z N (pc + 3) (gt_set lv i (.int (x + v))) st h) : gt_A l G own nm cc mL rt R Z N pc lv st h :=
  fun p e s m args below meth c H locs ls X hR hL hl => lv_iinc (v := x + v) X.1 X.2.1 hd hl (k := j) (by unfold gt_lm; rw [List.getElem?_map, hk]; rfl) (by rw [hv]) hn rfl (fun ls' hl' => k p e s m args below meth c H locs ls' X hR hL (gt_set1 (v := .int (x + v)) ho hl'))
theorem ga_if_eq {x : Int32} {off : Int} (tgt : Nat) (hd : decode cc pc = .ok (.ifCond .eq off, 3)) (ht : (pc : Int) + off = (tgt : Int)) (kt : x = 0 → gt_A l G own nm cc mL rt R Z N tgt lv st h) (kf : ¬ x = 0 → gt_A l G own nm cc mL rt R Z N (pc + 3) lv st h) : gt_A l G own nm cc mL rt R Z N pc lv (.int x :: st) h :=
  fun p e s m args below meth c H locs ls X hR hL hl => lv_if_eq X.1 X.2.1 hd ht (fun q => kt q p e s m args below meth c H locs ls X hR hL hl) (fun q => kf q p e s m args below meth c H locs ls X hR hL hl)
theorem ga_if_ne {x : Int32} {off : Int} (tgt : Nat) (hd : decode cc pc = .ok (.ifCond .ne off, 3)) (ht : (pc : Int) + off = (tgt : Int)) (kt : ¬ x = 0 → gt_A l G own nm cc mL rt R Z N tgt lv st h) (kf : x = 0 → gt_A l G own nm cc mL rt R Z N (pc + 3) lv st h) : gt_A l G own nm cc mL rt R Z N pc lv (.int x :: st) h :=
  fun p e s m args below meth c H locs ls X hR hL hl => lv_if_ne X.1 X.2.1 hd ht (fun q => kt q p e s m args below meth c H locs ls X hR hL hl) (fun q => kf q p e s m args below meth c H locs ls X hR hL hl)
theorem ga_if_lt {x : Int32} {off : Int} (tgt : Nat) (hd : decode cc pc = .ok (.ifCond .lt off, 3)) (ht : (pc : Int) + off = (tgt : Int)) (kt : x < 0 → gt_A l G own nm cc mL rt R Z N tgt lv st h) (kf : ¬ x < 0 → gt_A l G own nm cc mL rt R Z N (pc + 3) lv st h) : gt_A l G own nm cc mL rt R Z N pc lv (.int x :: st) h :=
  fun p e s m args below meth c H locs ls X hR hL hl => lv_if_lt X.1 X.2.1 hd ht (fun q => kt q p e s m args below meth c H locs ls X hR hL hl) (fun q => kf q p e s m args below meth c H locs ls X hR hL hl)
theorem ga_if_ge {x : Int32} {off : Int} (tgt : Nat) (hd : decode cc pc = .ok (.ifCond .ge off, 3)) (ht : (pc : Int) + off = (tgt : Int)) (kt : 0 ≤ x → gt_A l G own nm cc mL rt R Z N tgt lv st h) (kf : ¬ 0 ≤ x → gt_A l G own nm cc mL rt R Z N (pc + 3) lv st h) : gt_A l G own nm cc mL rt R Z N pc lv (.int x :: st) h :=
  fun p e s m args below meth c H locs ls X hR hL hl => lv_if_ge X.1 X.2.1 hd ht (fun q => kt q p e s m args below meth c H locs ls X hR hL hl) (fun q => kf q p e s m args below meth c H locs ls X hR hL hl)
theorem ga_if_gt {x : Int32} {off : Int} (tgt : Nat) (hd : decode cc pc = .ok (.ifCond .gt off, 3)) (ht : (pc : Int) + off = (tgt : Int)) (kt : 0 < x → gt_A l G own nm cc mL rt R Z N tgt lv st h) (kf : ¬ 0 < x → gt_A l G own nm cc mL rt R Z N (pc + 3) lv st h) : gt_A l G own nm cc mL rt R Z N pc lv (.int x :: st) h :=
  fun p e s m args below meth c H locs ls X hR hL hl => lv_if_gt X.1 X.2.1 hd ht (fun q => kt q p e s m args below meth c H locs ls X hR hL hl) (fun q => kf q p e s m args below meth c H locs ls X hR hL hl)
theorem ga_if_le {x : Int32} {off : Int} (tgt : Nat) (hd : decode cc pc = .ok (.ifCond .le off, 3)) (ht : (pc : Int) + off = (tgt : Int)) (kt : x ≤ 0 → gt_A l G own nm cc mL rt R Z N tgt lv st h) (kf : ¬ x ≤ 0 → gt_A l G own nm cc mL rt R Z N (pc + 3) lv st h) : gt_A l G own nm cc mL rt R Z N pc lv (.int x :: st) h :=
  fun p e s m args below meth c H locs ls X hR hL hl => lv_if_le X.1 X.2.1 hd ht (fun q => kt q p e s m args below meth c H locs ls X hR hL hl) (fun q => kf q p e s m args below meth c H locs ls X hR hL hl)
theorem ga_icmp_eq {x y : Int32} {off : Int} (tgt : Nat) (hd : decode cc pc = .ok (.if_icmp .eq off, 3)) (ht : (pc : Int) + off = (tgt : Int)) (kt : x = y → gt_A l G own nm cc mL rt R Z N tgt lv st h) (kf : ¬ x = y → gt_A l G own nm cc mL rt R Z N (pc + 3) lv st h) : gt_A l G own nm cc mL rt R Z N pc lv (.int y :: .int x :: st) h :=
  fun p e s m args below meth c H locs ls X hR hL hl => lv_icmp_eq X.1 X.2.1 hd ht (fun q => kt q p e s m args below meth c H locs ls X hR hL hl) (fun q => kf q p e s m args below meth c H locs ls X hR hL hl)
theorem ga_icmp_ne {x y : Int32} {off : Int} (tgt : Nat) (hd : decode cc pc = .ok (.if_icmp .ne off, 3)) (ht : (pc : Int) + off = (tgt : Int)) (kt : ¬ x = y → gt_A l G own nm cc mL rt R Z N tgt lv st h) (kf : x = y → gt_A l G own nm cc mL rt R Z N (pc + 3) lv st h) : gt_A l G own nm cc mL rt R Z N pc lv (.int y :: .int x :: st) h :=
  fun p e s m args below meth c H locs ls X hR hL hl => lv_icmp_ne X.1 X.2.1 hd ht (fun q => kt q p e s m args below meth c H locs ls X hR hL hl) (fun q => kf q p e s m args below meth c H locs ls X hR hL hl)
theorem ga_icmp_lt {x y : Int32} {off : Int} (tgt : Nat) (hd : decode cc pc = .ok (.if_icmp .lt off, 3)) (ht : (pc : Int) + off = (tgt : Int)) (kt : x < y → gt_A l G own nm cc mL rt R Z N tgt lv st h) (kf : ¬ x < y → gt_A l G own nm cc mL rt R Z N (pc + 3) lv st h) : gt_A l G own nm cc mL rt R Z N pc lv (.int y :: .int x :: st) h :=
  fun p e s m args below meth c H locs ls X hR hL hl => lv_icmp_lt X.1 X.2.1 hd ht (fun q => kt q p e s m args below meth c H locs ls X hR hL hl) (fun q => kf q p e s m args below meth c H locs ls X hR hL hl)
theorem ga_icmp_ge {x y : Int32} {off : Int} (tgt : Nat) (hd : decode cc pc = .ok (.if_icmp .ge off, 3)) (ht : (pc : Int) + off = (tgt : Int)) (kt : y ≤ x → gt_A l G own nm cc mL rt R Z N tgt lv st h) (kf : ¬ y ≤ x → gt_A l G own nm cc mL rt R Z N (pc + 3) lv st h) : gt_A l G own nm cc mL rt R Z N pc lv (.int y :: .int x :: st) h :=
  fun p e s m args below meth c H locs ls X hR hL hl => lv_icmp_ge X.1 X.2.1 hd ht (fun q => kt q p e s m args below meth c H locs ls X hR hL hl) (fun q => kf q p e s m args below meth c H locs ls X hR hL hl)
theorem ga_icmp_gt {x y : Int32} {off : Int} (tgt : Nat) (hd : decode cc pc = .ok (.if_icmp .gt off, 3)) (ht : (pc : Int) + off = (tgt : Int)) (kt : y < x → gt_A l G own nm cc mL rt R Z N tgt lv st h) (kf : ¬ y < x → gt_A l G own nm cc mL rt R Z N (pc + 3) lv st h) : gt_A l G own nm cc mL rt R Z N pc lv (.int y :: .int x :: st) h :=
  fun p e s m args below meth c H locs ls X hR hL hl => lv_icmp_gt X.1 X.2.1 hd ht (fun q => kt q p e s m args below meth c H locs ls X hR hL hl) (fun q => kf q p e s m args below meth c H locs ls X hR hL hl)
theorem ga_icmp_le {x y : Int32} {off : Int} (tgt : Nat) (hd : decode cc pc = .ok (.if_icmp .le off, 3)) (ht : (pc : Int) + off = (tgt : Int)) (kt : x ≤ y → gt_A l G own nm cc mL rt R Z N tgt lv st h) (kf : ¬ x ≤ y → gt_A l G own nm cc mL rt R Z N (pc + 3) lv st h) : gt_A l G own nm cc mL rt R Z N pc lv (.int y :: .int x :: st) h :=
  fun p e s m args below meth c H locs ls X hR hL hl => lv_icmp_le X.1 X.2.1 hd ht (fun q => kt q p e s m args below meth c H locs ls X hR hL hl) (fun q => kf q p e s m args below meth c H locs ls X hR hL hl)
theorem ga_goto {off : Int} (tgt : Nat) (hd : decode cc pc = .ok (.goto off, 3)) (ht : (pc : Int) + off = (tgt : Int)) (k : gt_A l G own nm cc mL rt R Z N tgt lv st h) : gt_A l G own nm cc mL rt R Z N pc lv st h :=
  fun p e s m args below meth c H locs ls X hR hL hl => lv_goto X.1 X.2.1 hd ht (k p e s m args below meth c H locs ls X hR hL hl)
theorem ga_tableIn {dflt lo hi : Int} {offs : Array Int} {len : Nat} {x : Int32} {off : Int} (tgt : Nat) (hd : decode cc pc = .ok (.tableswitch dflt lo hi offs, len)) (h1 : ¬ x.toInt < lo) (h2 : ¬ hi < x.toInt) (ho : offs[(x.toInt - lo).toNat]? = some off) (ht : (pc : Int) + off = (tgt : Int)) (k : gt_A l G own nm cc mL rt R Z N tgt lv st h) : gt_A l G own nm cc mL rt R Z N pc lv (.int x :: st) h :=
  fun p e s m args below meth c H locs ls X hR hL hl => lv_tableIn X.1 X.2.1 hd h1 h2 ho ht (k p e s m args below meth c H locs ls X hR hL hl)
theorem ga_tableOut {dflt lo hi : Int} {offs : Array Int} {len : Nat} {x : Int32} (tgt : Nat) (hd : decode cc pc = .ok (.tableswitch dflt lo hi offs, len)) (hq : x.toInt < lo ∨ hi < x.toInt) (ht : (pc : Int) + dflt = (tgt : Int)) (k : gt_A l G own nm cc mL rt R Z N tgt lv st h) : gt_A l G own nm cc mL rt R Z N pc lv (.int x :: st) h :=
  fun p e s m args below meth c H locs ls X hR hL hl => lv_tableOut X.1 X.2.1 hd hq ht (k p e s m args below meth c H locs ls X hR hL hl)
theorem ga_lookup {dflt : Int} {ps : Array (Int × Int)} {len : Nat} {x : Int32} {off : Int} (tgt : Nat) (hd : decode cc pc = .ok (.lookupswitch dflt ps, len)) (hp : (ps.toList.zip (ps.toList.drop 1)).all (fun (a, next) => a.1 < next.1) = true) (ho : Op.lookupswitch.offset ps.toList dflt x.toInt = off) (ht : (pc : Int) + off = (tgt : Int)) (k : gt_A l G own nm cc mL rt R Z N tgt lv st h) : gt_A l G own nm cc mL rt R Z N pc lv (.int x :: st) h :=
  fun p e s m args below meth c H locs ls X hR hL hl => lv_lookup X.1 X.2.1 hd hp ho ht (k p e s m args below meth c H locs ls X hR hL hl)
theorem ga_iret {n mc ms : Nat} {r : Option Value} {h' : gt_H} {v : Int32} (hd : decode cc pc = .ok (.ireturn, 1)) (hr : r = some (.int v)) (hh : h' = h) : gt_A l G own nm cc mL (some .int) R (gt_Z G n mc ms r h') (n, mc, ms) pc lv [.int v] h :=
  fun p e s m args below meth c H locs ls X hR hL hl => by
    subst hr; subst hh
    exact W.iret (Qc := gt_Q G n (some (.int v)) h') X.1 X.2.1 X.2.2.2.1 (fun t ht _ => ⟨rfl, by rw [ht]; exact hR⟩) hL hd X.2.2.2.2.1
theorem ga_zret {n mc ms : Nat} {r : Option Value} {h' : gt_H} {v : Int32} (hd : decode cc pc = .ok (.ireturn, 1)) (hn : narrow .boolean (.int v) = .int v) (hr : r = some (.int v)) (hh : h' = h) : gt_A l G own nm cc mL (some .boolean) R (gt_Z G n mc ms r h') (n, mc, ms) pc lv [.int v] h :=
  fun p e s m args below meth c H locs ls X hR hL hl => by
    subst hr; subst hh
    exact W.zret (Qc := gt_Q G n (some (.int v)) h') X.1 X.2.1 X.2.2.2.1 hn (fun t ht _ => ⟨rfl, by rw [ht]; exact hR⟩) hL hd X.2.2.2.2.1
theorem ga_vret {n mc ms : Nat} {r : Option Value} {h' : gt_H} (hd : decode cc pc = .ok (.return_, 1)) (hr : r = none) (hh : ∀ k o, h' k = some o → h k = some o) : gt_A l G own nm cc mL none R (gt_Z G n mc ms r h') (n, mc, ms) pc lv [] h :=
  fun p e s m args below meth c H locs ls X hR hL hl => by
    subst hr
    exact W.vret (Qc := gt_Q G n none h') X.1 X.2.1 X.2.2.2.1 (fun t ht _ => ⟨rfl, by rw [ht]; exact ⟨fun i o ho => hR.1 i o (hh i o ho), hR.2⟩⟩) hL hd X.2.2.2.2.1
end GA
end
section
section GH
variable {l : Launch} {G : gt_G} {own nm : String} {cc : ByteArray} {mL : Nat} {rt : Option FieldType} {R : Room} {Z : gt_Zt} {N : Nat × Nat × Nat} {pc : Nat} {lv : List (Nat × Value)} {st : List Value} {h : gt_H}
/-- the heap with another object at a -/
def gt_up (h : gt_H) (a : Nat) (o : gt_Ob) : gt_H := fun k => if k = a then some o else h k
theorem gt_ad_lt {n k : Nat} {H : Heap} (hR : gt_R G n h H) {o : gt_Ob} (ho : h k = some o) : gt_B G ≤ gt_ad G k := by
  obtain ⟨h0, -, -⟩ := hR.1 k o ho
  cases k with
  | zero => exact absurd rfl h0
  | succ k => show gt_B G ≤ gt_B G + k; omega
theorem gt_ad_inj {a b : Nat} (ha : a ≠ 0) (hb : b ≠ 0) (e : gt_ad G a = gt_ad G b) : a = b := by
  cases a with
  | zero => exact absurd rfl ha
  | succ a =>
    cases b with
    | zero => exact absurd rfl hb
    | succ b =>
      have e : gt_B G + a = gt_B G + b := e
      omega
theorem gt_R_up {n a : Nat} {H H1 : Heap} {o o' : gt_Ob} (hR : gt_R G n h H) (ho : h a = some o) (hat : va_at G.1 vwCl (gt_ad G a, gt_e G o') H1) (hz : H1.size = H.size) (hq : ∀ q : Nat, q ≠ gt_ad G a → H1[q]? = H[q]?) : gt_R G n (gt_up h a o') H1 := by
  have h0 := hR.1 a o ho
  refine ⟨fun k ob hk => ?_, by rw [hz]; exact hR.2.1, fun q hl => ?_⟩
  · unfold gt_up at hk
    by_cases hka : k = a
    · rw [if_pos hka] at hk
      cases hk
      subst hka
      exact ⟨h0.1, h0.2.1, hat⟩
    · rw [if_neg hka] at hk
      obtain ⟨q1, q2, q3⟩ := hR.1 k ob hk
      exact ⟨q1, q2, q3.kept (hq _ (fun e => hka (gt_ad_inj q1 h0.1 e)))⟩
  · have := gt_ad_lt hR ho
    rw [hq q (by omega)]
    exact hR.2.2 q hl
theorem gt_R_P {n a : Nat} {H : Heap} {o : gt_Ob} (hR : gt_R G n h H) (ho : h a = some o) : va_P G.1 vwCl [(gt_ad G a, gt_e G o)] H := fun k q hq => by
  cases k with
  | zero => cases hq; exact (hR.1 a o ho).2.2
  | succ k => cases hq
/-- a field's row: its class, its place, its link among the tables' words, its type, final or not -/
def gt_F (own : String) (idx ci k : Nat) (ty : FieldType) (fin : Bool) : Prop := ∃ (C : String) (T : u_T) (M : Nat) (ty0 : Nat → FieldType), vwCl[ci]? = some (C, T, M) ∧ k < M ∧ Cond.fieldLink own idx (T k).1 (T k).2.1 (T k).2.2.1 ∈ gt_tbl ∧ parseFieldDescriptor (T k).2.2.1 = some ty ∧ (T k).2.2.2 = fin ∧ (∀ w ∈ u_ws C T M, w ∈ gt_tbl) ∧ (∀ k, k < M → parseFieldDescriptor (T k).2.2.1 = some (ty0 k)) ∧ (∀ a, a < M → ∀ b, b < M → a ≠ b → (T a).2.1 ≠ (T b).2.1) ∧ (fin = true → (T k).1 = own)
def gt_Fr (own : String) (idx ci k : Nat) : Prop := ∃ (C : String) (T : u_T) (M : Nat), vwCl[ci]? = some (C, T, M) ∧ k < M ∧ Cond.fieldLink own idx (T k).1 (T k).2.1 (T k).2.2.1 ∈ gt_tbl ∧ (∀ w ∈ u_ws C T M, w ∈ gt_tbl)
theorem ga_get {idx ci k a : Nat} {fs : List Value} {v : Value} (hF : gt_Fr own idx ci k) (ho : h a = some (oO ci fs)) (hv : fs[k]? = some v) (hd : decode cc pc = .ok (.getfield idx, 3)) (kk : gt_A l G own nm cc mL rt R Z N (pc + 3) lv (v :: st) h) : gt_A l G own nm cc mL rt R Z N pc lv (.ref a :: st) h :=
  fun p e s m args below meth c H locs ls X hR hL hl => by
    obtain ⟨C, T, M, hc, hk, hlk, hin⟩ := hF
    exact va_get X.1 X.2.1 X.2.2.2.2.2.2.2.1 hin X.2.2.2.2.2.1 X.2.2.2.2.2.2.2.2.1 (gt_R_P hR ho) 0 (fs := fs.map (gt_v G)) rfl hc k hk (X.2.2.2.2.2.2.2.1 _ hlk) (fun _ q => q) (v := gt_v G v) (by rw [List.getElem?_map, hv]; rfl) hd (kk p e s m args below meth c H locs ls X hR hL hl)
theorem ga_put {idx ci k a : Nat} {ty : FieldType} {fs : List Value} {v : Value} (hF : gt_F own idx ci k ty false) (ho : h a = some (oO ci fs)) (hn : narrow ty (gt_v G v) = gt_v G v) (hf : fits ty (gt_v G v) = true) (hl0 : k < fs.length) (hd : decode cc pc = .ok (.putfield idx, 3)) (kk : gt_A l G own nm cc mL rt R Z N (pc + 3) lv st (gt_up h a (oO ci (fs.set k v)))) : gt_A l G own nm cc mL rt R Z N pc lv (v :: .ref a :: st) h :=
  fun p e s m args below meth c H locs ls X hR hL hl => by
    obtain ⟨C, T, M, ty0, hc, hk, hlk, hdd, hfin, hin, hty, hnm, -⟩ := hF
    have hK := X.2.2.2.2.2.2.2.2.1
    have hts := X.2.2.2.2.2.2.2.1
    have hap := va_apart (own := own) hts hin ty0 hty hnm hK hc
    obtain ⟨r, h1, cell, q1, q2, q3, q4⟩ := (hR.1 a _ ho).2.2
    have hr : r = (C, T, M) := Option.some.inj (h1.symm.trans hc)
    subst hr
    obtain ⟨hS, hfc, kC, hkC, hkind⟩ := hK.1 ci _ hc
    obtain ⟨cf, kf, fi, f, hi, hsl⟩ := hS k hk
    have hlay := hts _ (hin _ (u_in_lay hk))
    unfold u_lay at hlay
    rw [if_neg (by rw [hfin]; decide)] at hlay
    have hst := (u_facts hfc hkC (u_lays hts hin hk) hi).1
    have h6 := u_store hfc hkC hkind hlay hi hdd hn hf
    refine W.putK X.1 X.2.1 (f := f) ⟨X.2.2.2.2.2.1, hts _ hlk, ⟨_, _, _, hi⟩, hst⟩ (by rw [q2]; exact h6) q1 q3 (by rw [hsl]; exact k2_hasslot (q4 k hk)) rfl rfl hd fun H' e1 e2 e3 => ?_
    rw [hsl] at e1 ⊢
    have hset : (fs.map (gt_v G)).set k (gt_v G v) = (fs.set k v).map (gt_v G) := by rw [List.map_set]
    refine kk p e s m args below meth c H' _ ls X (gt_R_up hR ho ⟨_, hc, ?_⟩ e2 e3) (fun q hq => ?_) hl
    · show t_OB _ _ _ _ _ (vp_V ((fs.set k v).map (gt_v G)))
      rw [← hset]
      exact t_OB.to (V := updV (vp_V (fs.map (gt_v G))) k (gt_v G v)) ⟨_, e1, q2, q3, t_set q4 hap hk (gt_v G v)⟩ (fun j _ => vp_updV_set (by rw [List.length_map]; exact hl0) (gt_v G v) j)
    · rcases List.mem_append.mp hq with hq | hq
      · exact hL q hq
      · rw [List.mem_singleton.mp hq]; exact gt_ad_lt hR ho
theorem ga_putF {idx ci k a : Nat} {ty : FieldType} {fs : List Value} {v : Value} (hF : gt_F own idx ci k ty true) (ho : h a = some (oO ci fs)) (hn : narrow ty (gt_v G v) = gt_v G v) (hf : fits ty (gt_v G v) = true) (hl0 : k < fs.length) (hi0 : nm = "<init>") (hd : decode cc pc = .ok (.putfield idx, 3)) (kk : gt_A l G own nm cc mL rt R Z N (pc + 3) lv st (gt_up h a (oO ci (fs.set k v)))) : gt_A l G own nm cc mL rt R Z N pc lv (v :: .ref a :: st) h :=
  fun p e s m args below meth c H locs ls X hR hL hl => by
    obtain ⟨C, T, M, ty0, hc, hk, hlk, hdd, hfin, hin, hty, hnm, hdecl⟩ := hF
    have hdecl := hdecl rfl
    have hK := X.2.2.2.2.2.2.2.2.1
    have hts := X.2.2.2.2.2.2.2.1
    have hap := va_apart (own := own) hts hin ty0 hty hnm hK hc
    obtain ⟨r, h1, cell, q1, q2, q3, q4⟩ := (hR.1 a _ ho).2.2
    have hr : r = (C, T, M) := Option.some.inj (h1.symm.trans hc)
    subst hr
    obtain ⟨hS, hfc, kC, hkC, hkind⟩ := hK.1 ci _ hc
    obtain ⟨cf, kf, fi, f, hi, hsl⟩ := hS k hk
    have hlay := hts _ (hin _ (u_in_lay hk))
    unfold u_lay at hlay
    rw [if_pos hfin] at hlay
    have hst := (u_facts hfc hkC (u_lays hts hin hk) hi).1
    have hown := X.2.2.2.2.2.1
    have hcf : m.cls = cf := by
      obtain ⟨_, _, c', _, _, _, -, -, hf', -, -, -, hown2, -⟩ := Cond.laysFinal_spec hlay
      have e1 : c' = cf := by have := hi.symm.trans hf'; simp at this; exact this.1.symm
      rw [hdecl] at hown2
      rw [← e1]; exact Option.some.inj (hown.symm.trans hown2)
    have h6 := u_fits hfc hkC hkind (Or.inr hlay) hi hdd hn hf
    refine W.putFinK X.1 X.2.1 hown (hts _ hlk) hi hst hcf (by rw [X.2.2.2.2.2.2.1]; exact hi0) (by rw [q2]; exact h6) q1 q3 (by rw [hsl]; exact k2_hasslot (q4 k hk)) rfl rfl hd fun H' e1 e2 e3 => ?_
    rw [hsl] at e1 ⊢
    have hset : (fs.map (gt_v G)).set k (gt_v G v) = (fs.set k v).map (gt_v G) := by rw [List.map_set]
    refine kk p e s m args below meth c H' _ ls X (gt_R_up hR ho ⟨_, hc, ?_⟩ e2 e3) (fun q hq => ?_) hl
    · show t_OB _ _ _ _ _ (vp_V ((fs.set k v).map (gt_v G)))
      rw [← hset]
      exact t_OB.to (V := updV (vp_V (fs.map (gt_v G))) k (gt_v G v)) ⟨_, e1, q2, q3, t_set q4 hap hk (gt_v G v)⟩ (fun j _ => vp_updV_set (by rw [List.length_map]; exact hl0) (gt_v G v) j)
    · rcases List.mem_append.mp hq with hq | hq
      · exact hL q hq
      · rw [List.mem_singleton.mp hq]; exact gt_ad_lt hR ho
theorem ga_iald {a n : Nat} {f : Nat → Int32} {i : Int32} (ho : h a = some (oI n f)) (hi : vp_in i n) (hd : decode cc pc = .ok (.iaload, 1)) (kk : gt_A l G own nm cc mL rt R Z N (pc + 1) lv (.int (f i.toNatClampNeg) :: st) h) : gt_A l G own nm cc mL rt R Z N pc lv (.int i :: .ref a :: st) h :=
  fun p e s m args below meth c H locs ls X hR hL hl => va_iald X.1 X.2.1 X.2.2.2.2.2.2.2.2.1 (gt_R_P hR ho) 0 0 rfl rfl hi hd (kk p e s m args below meth c H locs ls X hR hL hl)
theorem ga_zald {a n : Nat} {f : Nat → Int32} {i : Int32} (ho : h a = some (oZ n f)) (hi : vp_in i n) (hd : decode cc pc = .ok (.baload, 1)) (kk : gt_A l G own nm cc mL rt R Z N (pc + 1) lv (.int (f i.toNatClampNeg) :: st) h) : gt_A l G own nm cc mL rt R Z N pc lv (.int i :: .ref a :: st) h :=
  fun p e s m args below meth c H locs ls X hR hL hl => va_zald X.1 X.2.1 X.2.2.2.2.2.2.2.2.1 (gt_R_P hR ho) 0 1 rfl rfl hi hd (kk p e s m args below meth c H locs ls X hR hL hl)
/-- an element of an array of references -/
theorem ga_aald {a kd n b : Nat} {ty : FieldType} {f : Nat → Option Nat} {i : Int32} (ho : h a = some (oR kd n f)) (ht : (gt_tys G)[kd]? = some (G.2.1 kd, ty)) (hty : ty.isReference = true) (hi : vp_in i n) (hb : f i.toNatClampNeg = some b) (hd : decode cc pc = .ok (.aaload, 1)) (kk : gt_A l G own nm cc mL rt R Z N (pc + 1) lv (.ref b :: st) h) : gt_A l G own nm cc mL rt R Z N pc lv (.int i :: .ref a :: st) h :=
  fun p e s m args below meth c H locs ls X hR hL hl => by
    have hlt : i.toNatClampNeg < n := Nat.not_le.mp fun q => hi (Or.inr q)
    have hc : H[gt_ad G a]? = some (vp_cell (G.2.1 kd) (n, .inr (.inr (.inr (.inr (fun j => (f j).map (gt_ad G))))))) := (hR.1 a _ ho).2.2
    refine W.aald (v := va_rf ((f i.toNatClampNeg).map (gt_ad G))) (ty := ty) X.1 X.2.1 hc ((X.2.2.2.2.2.2.2.2.1.2 kd _ ht).1 n (fun j => va_rf ((f j).map (gt_ad G)))) hty (fun q => by cases q) (by show ¬ (i < 0 ∨ (arrV _ _ _).slots.size ≤ _); rw [arrV_size]; exact hi) (by show (arrV _ _ _).slots[_]? = _; rw [arrV_read _ _ hlt]) rfl rfl hd ?_
    rw [hb]
    exact kk p e s m args below meth c H locs ls X hR hL hl
theorem ga_alen {a n : Nat} {f : Nat → Int32} (ho : h a = some (oI n f)) (hd : decode cc pc = .ok (.arraylength, 1)) (kk : gt_A l G own nm cc mL rt R Z N (pc + 1) lv (.int (Int32.ofNat n) :: st) h) : gt_A l G own nm cc mL rt R Z N pc lv (.ref a :: st) h :=
  fun p e s m args below meth c H locs ls X hR hL hl => va_alen X.1 X.2.1 X.2.2.2.2.2.2.2.2.1 (gt_R_P hR ho) 0 0 (cA := G.2.1 0) (x := (n, .inl f)) rfl rfl rfl hd (kk p e s m args below meth c H locs ls X hR hL hl)
theorem ga_iast {a n : Nat} {f : Nat → Int32} {i x : Int32} (ho : h a = some (oI n f)) (hi : vp_in i n) (hd : decode cc pc = .ok (.iastore, 1)) (kk : gt_A l G own nm cc mL rt R Z N (pc + 1) lv st (gt_up h a (oI n (upd f i.toNatClampNeg x)))) : gt_A l G own nm cc mL rt R Z N pc lv (.int x :: .int i :: .ref a :: st) h :=
  fun p e s m args below meth c H locs ls X hR hL hl => by
    have hc : H[gt_ad G a]? = some (vp_cell (G.2.1 0) (n, .inl f)) := (hR.1 a _ ho).2.2
    refine W.iast X.1 X.2.1 hc ((X.2.2.2.2.2.2.2.2.1.2 0 _ rfl).1 n (fun j => .int (f j))) (fun q => by cases q) (by show ¬ (i < 0 ∨ (arrV _ _ _).slots.size ≤ _); rw [arrV_size]; exact hi) rfl rfl hd fun H1 e1 z oq => ?_
    refine kk p e s m args below meth c H1 _ ls X (gt_R_up hR ho ?_ z oq) (fun q hq => ?_) hl
    · show H1[_]? = some (vp_cell _ _)
      rw [e1, vp_cell_i, vp_cell_i, arrV_store]
      congr 2
      funext q
      by_cases hq : q = i.toNatClampNeg
      · subst hq
        simp [updV, upd]
      · simp [updV, upd, hq]
    · rcases List.mem_append.mp hq with hq | hq
      · exact hL q hq
      · rw [List.mem_singleton.mp hq]; exact gt_ad_lt hR ho
theorem ga_zast {a n : Nat} {f : Nat → Int32} {i x : Int32} (ho : h a = some (oZ n f)) (hi : vp_in i n) (hx : narrow .boolean (.int x) = .int x) (hd : decode cc pc = .ok (.bastore, 1)) (kk : gt_A l G own nm cc mL rt R Z N (pc + 1) lv st (gt_up h a (oZ n (upd f i.toNatClampNeg x)))) : gt_A l G own nm cc mL rt R Z N pc lv (.int x :: .int i :: .ref a :: st) h :=
  fun p e s m args below meth c H locs ls X hR hL hl => by
    have hc : H[gt_ad G a]? = some (vp_cell (G.2.1 1) (n, .inl f)) := (hR.1 a _ ho).2.2
    refine W.zast X.1 X.2.1 hc ((X.2.2.2.2.2.2.2.2.1.2 1 _ rfl).1 n (fun j => .int (f j))) (fun q => by cases q) (by show ¬ (i < 0 ∨ (arrV _ _ _).slots.size ≤ _); rw [arrV_size]; exact hi) rfl rfl hd fun H1 e1 z oq => ?_
    refine kk p e s m args below meth c H1 _ ls X (gt_R_up hR ho ?_ z oq) (fun q hq => ?_) hl
    · show H1[_]? = some (vp_cell _ _)
      rw [e1, hx, vp_cell_i, vp_cell_i, arrV_store]
      congr 2
      funext q
      by_cases hq : q = i.toNatClampNeg
      · subst hq
        simp [updV, upd]
      · simp [updV, upd, hq]
    · rcases List.mem_append.mp hq with hq | hq
      · exact hL q hq
      · rw [List.mem_singleton.mp hq]; exact gt_ad_lt hR ho
/-- an element of the script, which is object 0 -/
theorem ga_sld {i : Int32} (hi : vp_in i G.2.2.2.2.1) (hd : decode cc pc = .ok (.iaload, 1)) (kk : gt_A l G own nm cc mL rt R Z N (pc + 1) lv (.int (G.2.2.2.2.2 i.toNatClampNeg) :: st) h) : gt_A l G own nm cc mL rt R Z N pc lv (.int i :: .ref 0 :: st) h :=
  fun p e s m args below meth c H locs ls X hR hL hl => va_sld (A := fun q => gt_B G ≤ q) (H0 := G.2.2.2.1) (b := G.2.2.1) X.1 X.2.1 X.2.2.2.2.2.2.2.2.2.1 X.2.2.2.2.2.2.2.2.2.2.1 (Nat.not_le.mpr X.2.2.2.2.2.2.2.2.2.2.1) (locs := locs) ⟨by rw [hR.2.1]; exact Nat.le_add_right _ _, fun q h1 _ => hR.2.2 q h1, hL⟩ hi hd (kk p e s m args below meth c H locs ls X hR hL hl)
theorem ga_slen (hd : decode cc pc = .ok (.arraylength, 1)) (kk : gt_A l G own nm cc mL rt R Z N (pc + 1) lv (.int (Int32.ofNat G.2.2.2.2.1) :: st) h) : gt_A l G own nm cc mL rt R Z N pc lv (.ref 0 :: st) h :=
  fun p e s m args below meth c H locs ls X hR hL hl => va_slen (A := fun q => gt_B G ≤ q) (H0 := G.2.2.2.1) (b := G.2.2.1) X.1 X.2.1 X.2.2.2.2.2.2.2.2.2.1 X.2.2.2.2.2.2.2.2.2.2.1 (Nat.not_le.mpr X.2.2.2.2.2.2.2.2.2.2.1) (locs := locs) ⟨by rw [hR.2.1]; exact Nat.le_add_right _ _, fun q h1 _ => hR.2.2 q h1, hL⟩ hd (kk p e s m args below meth c H locs ls X hR hL hl)
theorem gt_catsum (st : List Value) : ((st.map (gt_v G)).map fun v => v.category).sum = (st.map fun v => v.category).sum := by
  rw [List.map_map]
  congr 1
  apply List.map_congr_left
  intro v _
  exact gt_cat v
theorem ga_max {idx : Nat} {x y : Int32} (hl1 : Cond.methodLink own idx Lib.Math.max.name ∈ gt_tbl) (h2 : Cond.static Lib.Math.max.name ∈ gt_tbl ∧ Cond.initialized "java/lang/Math" ∈ gt_tbl ∧ Cond.code Lib.Math.max.name Lib.Math.max.code 2 (some .int) ∈ gt_tbl) (hr : 1 ≤ R.frames ∧ 40 ≤ R.locals ∧ N.2.1 ≤ R.cells ∧ N.2.2 ≤ R.slots) (hs : (st.map fun v => v.category).sum ≤ 8) (hd : decode cc pc = .ok (.invokestatic idx, 3)) (kk : gt_A l G own nm cc mL rt R Z N (pc + 3) lv (.int (if x < y then y else x) :: st) h) : gt_A l G own nm cc mL rt R Z N pc lv (.int y :: .int x :: st) h :=
  fun p e s m args below meth c H locs ls X hR hL hl => va_mmax X.1 X.2.1 (by rw [hl.1]; exact X.2.2.1) X.2.2.2.2.2.1 (X.2.2.2.2.2.2.2.1 _ hl1) (X.2.2.2.2.2.2.2.1 _ h2.1) (X.2.2.2.2.2.2.2.1 _ h2.2.1) (X.2.2.2.2.2.2.2.1 _ h2.2.2) hr.1 (by rw [gt_catsum]; omega) hr.2.2.1 hr.2.2.2 hd (kk p e s m args below meth c H locs ls X hR hL hl)
theorem ga_min {idx : Nat} {x y : Int32} (hl1 : Cond.methodLink own idx Lib.Math.min.name ∈ gt_tbl) (h2 : Cond.static Lib.Math.min.name ∈ gt_tbl ∧ Cond.initialized "java/lang/Math" ∈ gt_tbl ∧ Cond.code Lib.Math.min.name Lib.Math.min.code 2 (some .int) ∈ gt_tbl) (hr : 1 ≤ R.frames ∧ 40 ≤ R.locals ∧ N.2.1 ≤ R.cells ∧ N.2.2 ≤ R.slots) (hs : (st.map fun v => v.category).sum ≤ 8) (hd : decode cc pc = .ok (.invokestatic idx, 3)) (kk : gt_A l G own nm cc mL rt R Z N (pc + 3) lv (.int (if y < x then y else x) :: st) h) : gt_A l G own nm cc mL rt R Z N pc lv (.int y :: .int x :: st) h :=
  fun p e s m args below meth c H locs ls X hR hL hl => va_mmin X.1 X.2.1 (by rw [hl.1]; exact X.2.2.1) X.2.2.2.2.2.1 (X.2.2.2.2.2.2.2.1 _ hl1) (X.2.2.2.2.2.2.2.1 _ h2.1) (X.2.2.2.2.2.2.2.1 _ h2.2.1) (X.2.2.2.2.2.2.2.1 _ h2.2.2) hr.1 (by rw [gt_catsum]; omega) hr.2.2.1 hr.2.2.2 hd (kk p e s m args below meth c H locs ls X hR hL hl)
theorem ga_abs {idx : Nat} {x : Int32} (hl1 : Cond.methodLink own idx Lib.Math.abs.name ∈ gt_tbl) (h2 : Cond.static Lib.Math.abs.name ∈ gt_tbl ∧ Cond.initialized "java/lang/Math" ∈ gt_tbl ∧ Cond.code Lib.Math.abs.name Lib.Math.abs.code 1 (some .int) ∈ gt_tbl) (hr : 1 ≤ R.frames ∧ 40 ≤ R.locals ∧ N.2.1 ≤ R.cells ∧ N.2.2 ≤ R.slots) (hs : (st.map fun v => v.category).sum ≤ 8) (hd : decode cc pc = .ok (.invokestatic idx, 3)) (kk : gt_A l G own nm cc mL rt R Z N (pc + 3) lv (.int (if 0 ≤ x then x else 0 - x) :: st) h) : gt_A l G own nm cc mL rt R Z N pc lv (.int x :: st) h :=
  fun p e s m args below meth c H locs ls X hR hL hl => va_mabs X.1 X.2.1 (by rw [hl.1]; exact X.2.2.1) X.2.2.2.2.2.1 (X.2.2.2.2.2.2.2.1 _ hl1) (X.2.2.2.2.2.2.2.1 _ h2.1) (X.2.2.2.2.2.2.2.1 _ h2.2.1) (X.2.2.2.2.2.2.2.1 _ h2.2.2) hr.1 (by rw [gt_catsum]; omega) hr.2.2.1 hr.2.2.2 hd (kk p e s m args below meth c H locs ls X hR hL hl)
end GH
end
section
section GC
variable {l : Launch} {G : gt_G} {own nm : String} {cc : ByteArray} {mL : Nat} {rt : Option FieldType} {R : Room} {Z : gt_Zt} {n uc us : Nat} {pc : Nat} {lv : List (Nat × Value)} {st : List Value} {h : gt_H}
/-- what the tables say of a method that is called on an object of its own class -/
def gt_V (y : MethodName) (cc : ByteArray) (mL : Nat) (rt : Option FieldType) (np : Nat) : Prop := Cond.instanceMethod y ∈ gt_tbl ∧ Cond.selects y.cls y y ∈ gt_tbl ∧ Cond.initialized y.cls ∈ gt_tbl ∧ Cond.code y cc mL rt ∈ gt_tbl ∧ (y.cls ≠ "java/lang/invoke/MethodHandle" ∧ y.cls ≠ "java/lang/invoke/VarHandle" ∧ (parseMethodDescriptor y.desc).map (fun d => d.parameters.length) = some np) ∧ mL ≤ 21
def gt_S (y : MethodName) (cc : ByteArray) (mL : Nat) (rt : Option FieldType) (np : Nat) : Prop := Cond.static y ∈ gt_tbl ∧ Cond.initialized y.cls ∈ gt_tbl ∧ Cond.code y cc mL rt ∈ gt_tbl ∧ (y.cls ≠ "java/lang/invoke/MethodHandle" ∧ y.cls ≠ "java/lang/invoke/VarHandle" ∧ (parseMethodDescriptor y.desc).map (fun d => d.parameters.length) = some np) ∧ mL ≤ 21
def gt_I (y : MethodName) (cc : ByteArray) (mL : Nat) (np : Nat) : Prop := y.name = "<init>" ∧ Cond.instanceMethod y ∈ gt_tbl ∧ Cond.initialized y.cls ∈ gt_tbl ∧ Cond.code y cc mL none ∈ gt_tbl ∧ (y.cls ≠ "java/lang/invoke/MethodHandle" ∧ y.cls ≠ "java/lang/invoke/VarHandle" ∧ (parseMethodDescriptor y.desc).map (fun d => d.parameters.length) = some np) ∧ mL ≤ 21
/-- the room of a call -/
def gt_rc (R : Room) (d uc us mc ms : Nat) : Prop := d + 1 ≤ R.frames ∧ 40 * (d + 1) ≤ R.locals ∧ uc + mc ≤ R.cells ∧ us + ms ≤ R.slots
theorem gt_rc0 {d d' : Nat} (hd : d' + 1 ≤ d) : gt_rc (gt_rm d 0 0) d' 0 0 0 0 := ⟨hd, by show 40 * (d' + 1) ≤ 40 * d; omega, Nat.le_refl _, Nat.le_refl _⟩
theorem gt_rc1 {d d' mc ms uc us c s : Nat} (hd : d' + 1 ≤ d) (h1 : uc + c ≤ mc) (h2 : us + s ≤ ms) : gt_rc (gt_rm d mc ms) d' uc us c s := ⟨hd, by show 40 * (d' + 1) ≤ 40 * d; omega, h1, h2⟩
theorem gt_room {d mc ms : Nat} (hd : 1 ≤ d) : 1 ≤ (gt_rm d mc ms).frames ∧ 40 ≤ (gt_rm d mc ms).locals ∧ 0 ≤ (gt_rm d mc ms).cells ∧ 0 ≤ (gt_rm d mc ms).slots := ⟨hd, by show 40 ≤ 40 * d; omega, Nat.zero_le _, Nat.zero_le _⟩
theorem gt_pre {y : MethodName} {as : List Value} {s : State} {H : Heap} (hR : gt_R G n h H) (hK : gt_K G s) : ∀ U : State, U.heap = H → s.WarmedH U.vm → gt_P G n as h (as.map (gt_v G)).toArray U := fun U hU hW => ⟨rfl, by rw [hU]; exact hR, gt_K_warm hW hK⟩
/-- behind a call: the machine goes on with the callee's answer and heap -/
theorem gt_goes {p : Program} {e : Env} {s : State} {m : MethodId} {args : Array Value} {below : List Frame} {meth : Method} {c : Code} {H : Heap} {locs : List Loc} {ls : Array Slot} {st0 rest : List Value} {a0 : Array Value} {mc ms n1 : Nat} {r : Option Value} {h' : gt_H} {Q : State → Prop}
    (hrun : va_Run p l e R s m args below meth c H locs uc us mc ms (F0 m pc ls st0) rest (gt_Q G n1 r h' a0) (fun q => gt_B G ≤ q)) (hL : ∀ q ∈ locs, gt_B G ≤ q.base)
    (kk : ∀ (H1 : Heap) (locs1 : List Loc), gt_R G n1 h' H1 → (∀ q ∈ locs1, gt_B G ≤ q.base) → W p l e R s m args below meth c H1 locs1 (uc + mc) (us + ms) Q (F0 m (pc + 3) ls ((r.map (gt_v G)).toList ++ rest))) : W p l e R s m args below meth c H locs uc us Q (F0 m pc ls st0) := by
  intro T hT X
  obtain ⟨v, st₀, t, T', L, h0, X', hL1, e1, e2, ⟨hv, hR1⟩, stp⟩ := hrun T hT X
  cases hv
  obtain ⟨t2, a1, b1⟩ := kk T'.heap (locs ++ L) (by rw [e1]; exact hR1) (fun q hq => by
    rcases List.mem_append.mp hq with hq | hq
    · exact hL q hq
    · exact hL1 q hq) T' rfl X'
  exact ⟨t2, stp t2 a1, b1⟩
theorem gt_roomF {st : List Value} {m : MethodId} {ls : Array Slot} {rest : List Value} (hs : (st.map fun v => v.category).sum ≤ 8) : 2 * (F0 m pc ls rest).monitorRoom + ((st.map (gt_v G)).map fun v => v.category).sum ≤ 8 := by
  rw [gt_catsum]
  have := lv_room (m := m) (pc := pc) (ls := ls) (rest := rest) hs
  exact this
theorem gt_map_toList (r : Option Value) (st : List Value) : (r.map (gt_v G)).toList ++ st.map (gt_v G) = (r.toList ++ st).map (gt_v G) := by cases r <;> simp
theorem ga_callV (As : List Value) {idx b ci d' mc' ms' mL' : Nat} {y : MethodName} {cc' : ByteArray} {rt' : Option FieldType} {fs : List Value} {q : vw_C} {r : Option Value} {h' : gt_H} (hl1 : Cond.methodLink own idx y ∈ gt_tbl) (hV : gt_V y cc' mL' rt' As.length) (hC : gt_C l G y cc' mL' rt' d' mc' ms' n (.ref b :: As) h r h') (ho : h b = some (oO ci fs)) (hq : vwCl[ci]? = some q) (hqn : q.1 = y.cls) (hroom : gt_rc R d' uc us mc' ms') (hs : (st.map fun v => v.category).sum ≤ 8) (hd : decode cc pc = .ok (.invokevirtual idx, 3))
    (kk : gt_A l G own nm cc mL rt R Z (n + mc', uc + mc', us + ms') (pc + 3) lv (r.toList ++ st) h') : gt_A l G own nm cc mL rt R Z (n, uc, us) pc lv (As.reverse ++ .ref b :: st) h :=
  fun p e s m args below meth c H locs ls X hR hL hl => by
    obtain ⟨v1, v2, v3, v4, v5, v6⟩ := hV
    have hts := X.2.2.2.2.2.2.2.1
    have hK := X.2.2.2.2.2.2.2.2
    have cw : CallW R s args own y.cls idx y cc' mL' rt' (.code y cc' mL' rt' :: gt_tbl) (gt_rm d' mc' ms') mc' ms' As.length :=
      ⟨callB_of As.length hts (gt_tbl_good v4) rfl rfl rfl (hts _ v3) (hts _ hl1) v5 ⟨hroom.1, by have := hroom.2.1; show 8 + (mL' + 11) + 40 * d' ≤ _; omega⟩, hts _ v1, hts _ v2⟩
    have hrec := va_recv hK.1 (gt_R_P hR ho) hq (q0 := 0) (a := gt_ad G b) (fs := fs.map (gt_v G)) rfl
    rw [hqn] at hrec
    have hrun := va_runV (g := F0 m pc ls (((As.map (gt_v G)).reverse) ++ .ref (gt_ad G b) :: st.map (gt_v G))) (locs := locs) (below := below) (meth := meth) (e := e) (H := H) ⟨X.1, X.2.1, X.2.2.1, X.2.2.2.2.2.1, hts⟩ hC cw (b := gt_ad G b) (As := As.map (gt_v G)) ⟨gt_P_blind G n _ h, hrec, gt_pre (y := y) (as := .ref b :: As) hR hK⟩ rfl (by rw [List.length_map]) hl.1 (rest := st.map (gt_v G)) rfl (gt_roomF hs) hd ⟨hroom.2.2.1, hroom.2.2.2⟩
    have e1 : (As.reverse ++ .ref b :: st).map (gt_v G) = ((As.map (gt_v G)).reverse) ++ .ref (gt_ad G b) :: st.map (gt_v G) := by rw [List.map_append, List.map_reverse]; rfl
    rw [e1]
    refine gt_goes hrun hL (fun H1 locs1 hR1 hL1 => ?_)
    rw [gt_map_toList]
    exact kk p e s m args below meth c H1 locs1 ls X hR1 hL1 hl
theorem ga_callS (As : List Value) {idx d' mc' ms' mL' : Nat} {y : MethodName} {cc' : ByteArray} {rt' : Option FieldType} {r : Option Value} {h' : gt_H} (hl1 : Cond.methodLink own idx y ∈ gt_tbl) (hV : gt_S y cc' mL' rt' As.length) (hC : gt_C l G y cc' mL' rt' d' mc' ms' n As h r h') (hroom : gt_rc R d' uc us mc' ms') (hs : (st.map fun v => v.category).sum ≤ 8) (hd : decode cc pc = .ok (.invokestatic idx, 3))
    (kk : gt_A l G own nm cc mL rt R Z (n + mc', uc + mc', us + ms') (pc + 3) lv (r.toList ++ st) h') : gt_A l G own nm cc mL rt R Z (n, uc, us) pc lv (As.reverse ++ st) h :=
  fun p e s m args below meth c H locs ls X hR hL hl => by
    obtain ⟨v1, v3, v4, v5, v6⟩ := hV
    have hts := X.2.2.2.2.2.2.2.1
    have hK := X.2.2.2.2.2.2.2.2
    have cw : CallB R s args own idx y cc' mL' rt' (.code y cc' mL' rt' :: gt_tbl) (gt_rm d' mc' ms') mc' ms' As.length ∧ (Cond.static y).before args s = true :=
      ⟨callB_of As.length hts (gt_tbl_good v4) rfl rfl rfl (hts _ v3) (hts _ hl1) v5 ⟨hroom.1, by have := hroom.2.1; show 8 + (mL' + 11) + 40 * d' ≤ _; omega⟩, hts _ v1⟩
    have hrun := va_runS (g := F0 m pc ls (((As.map (gt_v G)).reverse) ++ st.map (gt_v G))) (locs := locs) (below := below) (meth := meth) (e := e) (H := H) ⟨X.1, X.2.1, X.2.2.1, X.2.2.2.2.2.1, hts⟩ hC cw (As := As.map (gt_v G)) ⟨gt_P_blind G n _ h, gt_pre (y := y) (as := As) hR hK⟩ rfl (by rw [List.length_map]) hl.1 (rest := st.map (gt_v G)) rfl (gt_roomF hs) hd ⟨hroom.2.2.1, hroom.2.2.2⟩
    have e1 : (As.reverse ++ st).map (gt_v G) = ((As.map (gt_v G)).reverse) ++ st.map (gt_v G) := by rw [List.map_append, List.map_reverse]
    rw [e1]
    refine gt_goes hrun hL (fun H1 locs1 hR1 hL1 => ?_)
    rw [gt_map_toList]
    exact kk p e s m args below meth c H1 locs1 ls X hR1 hL1 hl
/-- a constructor without arguments: of a class whose constructor the caller may see -/
theorem ga_callI {idx b d' mc' ms' mL' : Nat} {y : MethodName} {cc' : ByteArray} {h' : gt_H} (hl1 : Cond.methodLink own idx y ∈ gt_tbl) (hV : gt_I y cc' mL' 0) (hC : gt_C l G y cc' mL' none d' mc' ms' n [.ref b] h none h') (hroom : gt_rc R d' uc us mc' ms') (hs : (st.map fun v => v.category).sum ≤ 8) (hd : decode cc pc = .ok (.invokespecial idx, 3))
    (kk : gt_A l G own nm cc mL rt R Z (n + mc', uc + mc', us + ms') (pc + 3) lv st h') : gt_A l G own nm cc mL rt R Z (n, uc, us) pc lv (.ref b :: st) h :=
  fun p e s m args below meth c H locs ls X hR hL hl => by
    obtain ⟨v0, v1, v3, v4, v5, v6⟩ := hV
    have hts := X.2.2.2.2.2.2.2.1
    have hK := X.2.2.2.2.2.2.2.2
    have cw : CallB R s args own idx y cc' mL' none (.code y cc' mL' none :: gt_tbl) (gt_rm d' mc' ms') mc' ms' 0 ∧ y.name = "<init>" ∧ (Cond.instanceMethod y).before args s = true :=
      ⟨callB_of 0 hts (gt_tbl_good v4) rfl rfl rfl (hts _ v3) (hts _ hl1) v5 ⟨hroom.1, by have := hroom.2.1; show 8 + (mL' + 11) + 40 * d' ≤ _; omega⟩, v0, hts _ v1⟩
    have hrun := va_runI (g := F0 m pc ls (.ref (gt_ad G b) :: st.map (gt_v G))) (locs := locs) (below := below) (meth := meth) (e := e) (H := H) ⟨X.1, X.2.1, X.2.2.1, X.2.2.2.2.2.1, hts⟩ hC cw (b := gt_ad G b) (As := []) ⟨gt_P_blind G n _ h, gt_pre (y := y) (as := [.ref b]) hR hK⟩ rfl rfl hl.1 (rest := st.map (gt_v G)) rfl (gt_roomF hs) hd ⟨hroom.2.2.1, hroom.2.2.2⟩
    exact gt_goes hrun hL (fun H1 locs1 hR1 hL1 => kk p e s m args below meth c H1 locs1 ls X hR1 hL1 hl)
theorem ga_callN {idx b d' mc' ms' mL' : Nat} {y : MethodName} {host : String} {cc' : ByteArray} {h' : gt_H} (hl1 : (own, idx, y, host) ∈ gt_nest) (hV : gt_I y cc' mL' 0) (hC : gt_C l G y cc' mL' none d' mc' ms' n [.ref b] h none h') (hroom : gt_rc R d' uc us mc' ms') (hs : (st.map fun v => v.category).sum ≤ 8) (hd : decode cc pc = .ok (.invokespecial idx, 3))
    (kk : gt_A l G own nm cc mL rt R Z (n + mc', uc + mc', us + ms') (pc + 3) lv st h') : gt_A l G own nm cc mL rt R Z (n, uc, us) pc lv (.ref b :: st) h :=
  fun p e s m args below meth c H locs ls X hR hL hl => by
    obtain ⟨v0, v1, v3, v4, v5, v6⟩ := hV
    have hts := X.2.2.2.2.2.2.2.1
    have hK := X.2.2.2.2.2.2.2.2
    have cw : va_CN R s args own idx y host cc' mL' none (.code y cc' mL' none :: gt_tbl) (gt_rm d' mc' ms') mc' ms' 0 ∧ y.name = "<init>" ∧ (Cond.instanceMethod y).before args s = true :=
      ⟨va_cnB 0 hts (gt_tbl_good v4) rfl rfl rfl (hK.2.2.2.1 _ hl1) (hts _ v3) v5 ⟨hroom.1, by have := hroom.2.1; show 8 + (mL' + 11) + 40 * d' ≤ _; omega⟩, v0, hts _ v1⟩
    have hrun := va_runIN (g := F0 m pc ls (.ref (gt_ad G b) :: st.map (gt_v G))) (locs := locs) (below := below) (meth := meth) (e := e) (H := H) ⟨X.1, X.2.1, X.2.2.1, X.2.2.2.2.2.1, hts⟩ hC cw (b := gt_ad G b) (As := []) ⟨gt_P_blind G n _ h, gt_pre (y := y) (as := [.ref b]) hR hK⟩ rfl rfl hl.1 (rest := st.map (gt_v G)) rfl (gt_roomF hs) hd ⟨hroom.2.2.1, hroom.2.2.2⟩
    exact gt_goes hrun hL (fun H1 locs1 hR1 hL1 => kk p e s m args below meth c H1 locs1 ls X hR1 hL1 hl)
theorem ga_objInit {idx b : Nat} (h1 : Cond.methodLink own idx Lib.objectInit ∈ gt_tbl) (h2 : Cond.instanceMethod Lib.objectInit ∈ gt_tbl ∧ Cond.code Lib.objectInit ⟨#[0xb1]⟩ 1 none ∈ gt_tbl) (hr : 1 ≤ R.frames ∧ 40 ≤ R.locals) (hs : (st.map fun v => v.category).sum ≤ 8) (hd : decode cc pc = .ok (.invokespecial idx, 3)) (kk : gt_A l G own nm cc mL rt R Z (n, uc, us) (pc + 3) lv st h) : gt_A l G own nm cc mL rt R Z (n, uc, us) pc lv (.ref b :: st) h :=
  fun p e s m args below meth c H locs ls X hR hL hl => by
    have hts := X.2.2.2.2.2.2.2.1
    refine W.objInit X.1 X.2.1 X.2.2.2.2.2.1 (hts _ h1) (hts _ h2.1) (hts _ h2.2) rfl (by rw [X.2.2.1]; exact hl.1) rfl hd hr.1 ?_ ?_
    · have := gt_roomF (G := G) (m := m) (pc := pc) (ls := ls) (rest := [.ref (gt_ad G b)]) hs
      have h3 := hr.2
      have h4 : 2 * (F0 m pc ls (gt_v G (.ref b) :: st.map (gt_v G))).monitorRoom + ((st.map (gt_v G)).map fun v => v.category).sum ≤ 8 := gt_roomF (G := G) hs
      exact Nat.le_trans (Nat.add_le_add_right h4 12) (by omega)
    · exact kk p e s m args below meth c H locs ls X hR hL hl
end GC
end
section
section GN
variable {l : Launch} {G : gt_G} {own nm : String} {cc : ByteArray} {mL : Nat} {rt : Option FieldType} {R : Room} {Z : gt_Zt} {n uc us : Nat} {pc : Nat} {lv : List (Nat × Value)} {st : List Value} {h : gt_H}
theorem gt_R_push {H H1 : Heap} {o : gt_Ob} (hR : gt_R G n h H) (hat : va_at G.1 vwCl (H.size, gt_e G o) H1) (hz : H1.size = H.size + 1) (hq : ∀ q : Nat, q < H.size → H1[q]? = H[q]?) : gt_R G (n + 1) (gt_up h (n + 1) o) H1 := by
  refine ⟨fun k ob hk => ?_, by rw [hz, hR.2.1]; omega, fun q hl => ?_⟩
  · unfold gt_up at hk
    by_cases hka : k = n + 1
    · rw [if_pos hka] at hk
      cases hk
      subst hka
      refine ⟨by omega, Nat.le_refl _, ?_⟩
      have e : gt_ad G (n + 1) = H.size := by rw [hR.2.1]; rfl
      rw [e]
      exact hat
    · rw [if_neg hka] at hk
      obtain ⟨q1, q2, q3⟩ := hR.1 k ob hk
      exact ⟨q1, by omega, q3.kept (hq _ q3.lt)⟩
  · rw [hq q (by rw [hR.2.1]; exact Nat.lt_of_lt_of_le hl (Nat.le_add_right _ _))]
    exact hR.2.2 q hl
theorem gt_adS (n : Nat) {H : Heap} (hR : gt_R G n h H) : gt_v G (.ref (n + 1)) = .ref H.size := by
  rw [hR.2.1]; rfl
/-- a class that can be made: its words -/
def gt_Nw (own : String) (idx ci M : Nat) (fs : List Value) : Prop := ∃ (C : String) (T : u_T) (ty0 : Nat → FieldType), vwCl[ci]? = some (C, T, M) ∧ Cond.classLink own idx C ∈ gt_tbl ∧ Cond.instantiable C M ∈ gt_tbl ∧ Cond.initialized C ∈ gt_tbl ∧ (∀ w ∈ u_ws C T M, w ∈ gt_tbl) ∧ (∀ k, k < M → parseFieldDescriptor (T k).2.2.1 = some (ty0 k)) ∧ (∀ j, j < M → defaultValue (ty0 j) = vp_V fs j)
theorem ga_new {idx ci M : Nat} {fs : List Value} (hN : gt_Nw own idx ci M fs) (hfs : fs.map (gt_v G) = fs) (hc : uc + 1 ≤ R.cells) (hs : us + M ≤ R.slots) (hd : decode cc pc = .ok (.new idx, 3)) (kk : gt_A l G own nm cc mL rt R Z (n + 1, uc + 1, us + M) (pc + 3) lv (.ref (n + 1) :: st) (gt_up h (n + 1) (oO ci fs))) : gt_A l G own nm cc mL rt R Z (n, uc, us) pc lv st h :=
  fun p e s m args below meth c H locs ls X hR hL hl => by
    obtain ⟨C, T, ty0, hcl, h1, h2, h3, hin, hty, hdf⟩ := hN
    have hts := X.2.2.2.2.2.2.2.1
    have hK := X.2.2.2.2.2.2.2.2.1
    have hKn := hK.1 ci _ hcl
    refine W.newcK X.1 X.2.1 X.2.2.2.2.2.1 (hts _ h1) (hts _ h2) (hts _ h3) rfl hd hc hs hKn.2.1 rfl fun H1 kC hkC e1 z1 o1 => ?_
    have e9 := kk p e s m args below meth c H1 locs ls X (gt_R_push hR (show va_at G.1 vwCl (H.size, .inr (ci, fs.map (gt_v G))) H1 from ⟨_, hcl, (u_born ty0 hts hin hKn hkC e1 hty).to (fun j hj => by rw [hfs]; exact hdf j hj)⟩) z1 o1) hL hl
    rw [List.map_cons, gt_adS n hR] at e9
    exact e9
theorem ga_newI {i : Int32} {M : Nat} (ha : Cond.arrayClass .int ∈ gt_tbl) (h0 : ¬ i < 0) (hM : i.toNatClampNeg = M) (hb : M ≤ 1000000) (hc : uc + 1 ≤ R.cells) (hs : us + M ≤ R.slots) (hd : decode cc pc = .ok (.newarray .int, 2)) (kk : gt_A l G own nm cc mL rt R Z (n + 1, uc + 1, us + M) (pc + 2) lv (.ref (n + 1) :: st) (gt_up h (n + 1) (oI M (fun _ => 0)))) : gt_A l G own nm cc mL rt R Z (n, uc, us) pc lv (.int i :: st) h :=
  fun p e s m args below meth c H locs ls X hR hL hl => by
    have hts := X.2.2.2.2.2.2.2.1
    have hK := X.2.2.2.2.2.2.2.2.1
    refine va_newaK (atype := .int) X.1 X.2.1 (hts _ ha) rfl hd rfl h0 hM (by show M * 4 ≤ _; omega) hc hs rfl fun H1 cA e1 z1 o1 hAr hNm => ?_
    have hcA : cA = G.2.1 0 := Option.some.inj (hNm.symm.trans (hK.2 0 _ rfl).2)
    subst hcA
    have e9 := kk p e s m args below meth c H1 locs ls X (gt_R_push hR (show va_at G.1 vwCl (H.size, .inl (G.2.1 0, M, .inl (fun _ => 0))) H1 from by
      show H1[H.size]? = some (vp_cell _ _)
      rw [e1, vp_cell_i]
      rfl) z1 o1) hL hl
    rw [List.map_cons, gt_adS n hR] at e9
    exact e9
theorem ga_newZ {i : Int32} {M : Nat} (ha : Cond.arrayClass .boolean ∈ gt_tbl) (h0 : ¬ i < 0) (hM : i.toNatClampNeg = M) (hb : M ≤ 1000000) (hc : uc + 1 ≤ R.cells) (hs : us + M ≤ R.slots) (hd : decode cc pc = .ok (.newarray .boolean, 2)) (kk : gt_A l G own nm cc mL rt R Z (n + 1, uc + 1, us + M) (pc + 2) lv (.ref (n + 1) :: st) (gt_up h (n + 1) (oZ M (fun _ => 0)))) : gt_A l G own nm cc mL rt R Z (n, uc, us) pc lv (.int i :: st) h :=
  fun p e s m args below meth c H locs ls X hR hL hl => by
    have hts := X.2.2.2.2.2.2.2.1
    have hK := X.2.2.2.2.2.2.2.2.1
    refine va_newaK (atype := .boolean) X.1 X.2.1 (hts _ ha) rfl hd rfl h0 hM (by show M * 1 ≤ _; omega) hc hs rfl fun H1 cA e1 z1 o1 hAr hNm => ?_
    have hcA : cA = G.2.1 1 := Option.some.inj (hNm.symm.trans (hK.2 1 _ rfl).2)
    subst hcA
    have e9 := kk p e s m args below meth c H1 locs ls X (gt_R_push hR (show va_at G.1 vwCl (H.size, .inl (G.2.1 1, M, .inl (fun _ => 0))) H1 from by
      show H1[H.size]? = some (vp_cell _ _)
      rw [e1, vp_cell_i]
      rfl) z1 o1) hL hl
    rw [List.map_cons, gt_adS n hR] at e9
    exact e9
theorem ga_newR {idx kd : Nat} {C : String} {i : Int32} {M : Nat} (ha : Cond.classLink own idx C ∈ gt_tbl) (hAO : ∀ s, gt_K G s → va_AO C s) (ht : (gt_tys G)[kd]? = some (G.2.1 kd, .object C)) (h0 : ¬ i < 0) (hM : i.toNatClampNeg = M) (hb : M ≤ 1000000) (hc : uc + 1 ≤ R.cells) (hs : us + M ≤ R.slots) (hd : decode cc pc = .ok (.anewarray idx, 3)) (kk : gt_A l G own nm cc mL rt R Z (n + 1, uc + 1, us + M) (pc + 3) lv (.ref (n + 1) :: st) (gt_up h (n + 1) (oR kd M (fun _ => none)))) : gt_A l G own nm cc mL rt R Z (n, uc, us) pc lv (.int i :: st) h :=
  fun p e s m args below meth c H locs ls X hR hL hl => by
    subst hM
    have hts := X.2.2.2.2.2.2.2.1
    have hK := X.2.2.2.2.2.2.2.2.1
    refine W.anew X.1 X.2.1 X.2.2.2.2.2.1 (hts _ ha) (va_AO.use (hAO s X.2.2.2.2.2.2.2.2)) rfl hd rfl h0 (by omega) hc hs fun cA kA comp f1 f2 f3 f4 => ?_
    obtain ⟨kA', comp', -, -, -, g4⟩ := (hK.2 kd _ ht).2
    have hcA : cA = G.2.1 kd := Option.some.inj (f1.symm.trans g4)
    subst hcA
    have e9 := kk p e s m args below meth c (H.push ({ cls := G.2.1 kd, slots := Array.replicate i.toNatClampNeg .null, vm := .none } : Cell)) locs ls X (gt_R_push hR (show va_at G.1 vwCl (H.size, .inl (G.2.1 kd, i.toNatClampNeg, .inr (.inr (.inr (.inr (fun _ => none)))))) _ from by
      show (Array.push H _)[H.size]? = some (vp_cell _ _)
      rw [vp_cell_q, Array.getElem?_push_size, ← arrV_new]
      rfl) (by rw [Array.size_push]) (fun q hq => by rw [Array.getElem?_push, if_neg (Nat.ne_of_lt hq)])) hL hl
    rw [List.map_cons, gt_adS n hR] at e9
    exact e9
theorem ga_aast {a kd M b ci : Nat} {C : String} {T : u_T} {NN : Nat} {f : Nat → Option Nat} {fs : List Value} {i : Int32} (ho : h a = some (oR kd M f)) (ht : (gt_tys G)[kd]? = some (G.2.1 kd, .object C)) (hb : h b = some (oO ci fs)) (hc : vwCl[ci]? = some (C, T, NN)) (hi : vp_in i M) (hd : decode cc pc = .ok (.aastore, 1)) (kk : gt_A l G own nm cc mL rt R Z (n, uc, us) (pc + 1) lv st (gt_up h a (oR kd M (va_up f i.toNatClampNeg (some b))))) : gt_A l G own nm cc mL rt R Z (n, uc, us) pc lv (.ref b :: .int i :: .ref a :: st) h :=
  fun p e s m args below meth c H locs ls X hR hL hl => by
    have hK := X.2.2.2.2.2.2.2.2.1
    have hlt : i.toNatClampNeg < M := Nat.not_le.mp fun q => hi (Or.inr q)
    have h0 : ¬ i < 0 := fun q => hi (Or.inl q)
    have hca : H[gt_ad G a]? = some (vp_cell (G.2.1 kd) (M, .inr (.inr (.inr (.inr (fun j => (f j).map (gt_ad G))))))) := (hR.1 a _ ho).2.2
    obtain ⟨r', hr', cellV, g1, g2, g3, -⟩ := (hR.1 b _ hb).2.2
    have hcls := (hK.1 ci _ hc).2
    obtain ⟨kA, comp, k1, k2, k3, -⟩ := (hK.2 kd _ ht).2
    have hcomp : comp = G.1.1 ci := Option.some.inj (k3.symm.trans hcls.1)
    subst hcomp
    obtain ⟨kC, hkC, -⟩ := hcls.2
    refine W.aast X.1 X.2.1 hca (fun q h => by cases h) (fun h => by cases h) k1 k2 rfl hkC ⟨h0, by show _ < (arrV _ _ _).slots.size; rw [arrV_size]; exact hlt⟩ g1 (fun q h => by rw [g3] at h; cases h) (by rw [g2]; exact hkC) (by rw [g2]; exact va_assign hcls) rfl rfl hd fun H1 e1 z oq => ?_
    refine kk p e s m args below meth c H1 _ ls X (gt_R_up hR ho ?_ z oq) (fun q hq => ?_) hl
    · show H1[_]? = some (vp_cell _ _)
      rw [e1, vp_cell_q, vp_cell_q, arrV_store]
      congr 2
      funext q
      by_cases hq : q = i.toNatClampNeg
      · subst hq
        simp [updV, va_up, va_rf]
      · simp [updV, va_up, hq]
    · rcases List.mem_append.mp hq with hq | hq
      · exact hL q hq
      · rw [List.mem_singleton.mp hq]; exact gt_ad_lt hR ho
/-- the heap behind new int[N][M] -/
def gt_rows (h : gt_H) (n N M : Nat) : gt_H := fun k => if k = n + 1 then some (oR 4 N (fun i => if i < N then some (n + 2 + i) else none)) else if n + 2 ≤ k ∧ k < n + 2 + N then some (oI M (fun _ => 0)) else h k
theorem gt_outer (c : ClassId) (N h0 : Nat) : ∀ i : Nat, Jvm.Free.Multi.outerC c N h0 i = arrV c N (fun j => va_rf (if j < i then some (h0 + 1 + j) else none))
  | 0 => by
    show ({ cls := c, slots := Array.replicate N .null, vm := .none } : Cell) = _
    rw [arrV_new]
    exact congrArg (arrV c N) (funext fun j => by simp [va_rf])
  | i + 1 => by
    show (Jvm.Free.Multi.outerC c N h0 i).setSlot i (.ref (h0 + 1 + i)) = _
    rw [gt_outer c N h0 i, arrV_store]
    refine congrArg (arrV c N) (funext fun j => ?_)
    rcases Nat.lt_trichotomy j i with q | q | q
    · simp [updV, Nat.ne_of_lt q, q, Nat.lt_succ_of_lt q]
    · subst q; simp [updV, va_rf]
    · simp [updV, Nat.ne_of_gt q, show ¬ j < i by omega, show ¬ j < i + 1 by omega]
theorem ga_multi {idx : Nat} {i k : Int32} {NN M : Nat} (hcl : Cond.classLink own idx "[[I" ∈ gt_tbl) (hac : Cond.arrayClass .int ∈ gt_tbl) (h0 : ¬ i < 0) (h1 : ¬ k < 0) (hN : i.toNatClampNeg = NN) (hM : k.toNatClampNeg = M) (hb : NN ≤ 1000000) (hb2 : M ≤ 1000000) (hc : uc + (1 + NN) ≤ R.cells) (hs : us + (NN + NN * M) ≤ R.slots) (hd : decode cc pc = .ok (.multianewarray idx 2, 4)) (kk : gt_A l G own nm cc mL rt R Z (n + 1 + NN, uc + 1 + NN, us + NN + NN * M) (pc + 4) lv (.ref (n + 1) :: st) (gt_rows h n NN M)) : gt_A l G own nm cc mL rt R Z (n, uc, us) pc lv (.int k :: .int i :: st) h :=
  fun p e s m args below meth c H locs ls X hR hL hl => by
    subst hN; subst hM
    have hts := X.2.2.2.2.2.2.2.1
    have hK := X.2.2.2.2.2.2.2.2.1
    have hov := X.2.2.2.2.2.2.2.2.2.2.2.2.2.2
    intro T hT Xs
    obtain ⟨vm₁, cA, comp, -, fA, fC, hO, -, X', step⟩ := Xs.multianewarray2F (ty := .int) X.1 X.2.2.2.2.2.1 (hts _ hcl) (over_moved (Vm.Alike.refl _) hov) (hts _ hac) (g := F0 m pc ls (.int k :: .int i :: st.map (gt_v G))) rfl (by rw [X.2.1]; exact hd) rfl h0 h1 (by omega) (by show _ * 4 ≤ _; omega) (by omega) rfl rfl hc hs
    have ec : comp = G.2.1 0 := Option.some.inj (fC.symm.trans (hK.2 0 _ rfl).2)
    have eA : cA = G.2.1 4 := Option.some.inj (fA.symm.trans (hK.2 4 _ rfl).2)
    subst ec; subst eA
    generalize hF : Jvm.Free.Multi.fill (T.setVm vm₁) (G.2.1 4) (G.2.1 0) i.toNatClampNeg k.toNatClampNeg (defaultValue .int) i.toNatClampNeg = F at X' step
    have hTh : (T.setVm vm₁).heap = H := hT
    obtain ⟨f1, f2, -, -⟩ := Jvm.Free.Multi.fill_facts (T.setVm vm₁) (G.2.1 4) (G.2.1 0) i.toNatClampNeg k.toNatClampNeg (defaultValue .int) i.toNatClampNeg
    rw [hF, hTh] at f1 f2
    have hold : ∀ x : Nat, x < H.size → F.heap[x]? = H[x]? := fun x hx => by
      have := Jvm.Free.Multi.fill_old (T.setVm vm₁) (G.2.1 4) (G.2.1 0) i.toNatClampNeg k.toNatClampNeg (defaultValue .int) (a := x) (by rw [hTh]; exact hx) i.toNatClampNeg
      rw [hF, hTh] at this
      exact this
    have hrow : ∀ j : Nat, j < i.toNatClampNeg → F.heap[H.size + 1 + j]? = some (vp_cell (G.2.1 0) (k.toNatClampNeg, .inl (fun _ => 0))) := fun j hj => by
      have := Jvm.Free.Multi.fill_inner (T.setVm vm₁) (G.2.1 4) (G.2.1 0) i.toNatClampNeg k.toNatClampNeg (defaultValue .int) i.toNatClampNeg j hj
      rw [hF, hTh] at this
      rw [this, vp_cell_i, ← arrV_new]
      rfl
    rw [gt_outer] at f2
    have hRn : gt_R G (n + 1 + i.toNatClampNeg) (gt_rows h n i.toNatClampNeg k.toNatClampNeg) F.heap := by
      refine ⟨fun q ob hq => ?_, by rw [f1, hR.2.1]; omega, fun q hq => ?_⟩
      · unfold gt_rows at hq
        by_cases q1 : q = n + 1
        · rw [if_pos q1] at hq
          cases hq
          subst q1
          refine ⟨by omega, by omega, ?_⟩
          have e : gt_ad G (n + 1) = H.size := by rw [hR.2.1]; rfl
          rw [e]
          show F.heap[H.size]? = some (vp_cell _ _)
          rw [f2, vp_cell_q]
          congr 2
          funext j
          by_cases hj : j < i.toNatClampNeg
          · simp only [if_pos hj, Option.map_some]
            show va_rf (some (H.size + 1 + j)) = va_rf (some (gt_ad G (n + 2 + j)))
            have e2 : gt_ad G (n + 2 + j) = H.size + 1 + j := by
              rw [hR.2.1, show n + 2 + j = (n + 1 + j) + 1 by omega]
              show gt_B G + (n + 1 + j) = _
              omega
            rw [e2]
          · simp only [if_neg hj, Option.map_none]
        · rw [if_neg q1] at hq
          by_cases q2 : n + 2 ≤ q ∧ q < n + 2 + i.toNatClampNeg
          · rw [if_pos q2] at hq
            cases hq
            refine ⟨by omega, by omega, ?_⟩
            obtain ⟨j, rfl⟩ : ∃ j, q = n + 2 + j := ⟨q - (n + 2), by omega⟩
            have e2 : gt_ad G (n + 2 + j) = H.size + 1 + j := by
              rw [hR.2.1, show n + 2 + j = (n + 1 + j) + 1 by omega]
              show gt_B G + (n + 1 + j) = _
              omega
            rw [e2]
            exact hrow j (by omega)
          · rw [if_neg q2] at hq
            obtain ⟨g1, g2, g3⟩ := hR.1 q ob hq
            exact ⟨g1, by omega, g3.kept (hold _ g3.lt)⟩
      · rw [hold q (by rw [hR.2.1]; exact Nat.lt_of_lt_of_le hq (Nat.le_add_right _ _))]
        exact hR.2.2 q hq
    have e9 := kk p e s m args below meth c F.heap locs ls X hRn hL hl
    rw [List.map_cons, gt_adS n hR] at e9
    obtain ⟨t, a1, b1⟩ := e9 F rfl X'
    refine ⟨t, step t ?_, b1⟩
    have e : T.heap.size = H.size := by rw [hT]
    rw [e]
    exact a1
/-- System.arraycopy between two int arrays -/
theorem ga_copy {idx a0 a n0 n1 : Nat} {f g : Nat → Int32} {sp dp k : Int32} (hl1 : Cond.methodLink own idx arraycopyName ∈ gt_tbl) (h2 : Cond.native arraycopyName ∈ gt_tbl ∧ Cond.static arraycopyName ∈ gt_tbl ∧ Cond.initialized "java/lang/System" ∈ gt_tbl) (ho0 : h a0 = some (oI n0 f)) (ho1 : h a = some (oI n1 g)) (h3 : ¬ sp < 0) (h4 : ¬ dp < 0) (h5 : ¬ k < 0) (h6 : sp.toNatClampNeg + k.toNatClampNeg ≤ n0) (h7 : dp.toNatClampNeg + k.toNatClampNeg ≤ n1) (hr : 1 ≤ R.frames ∧ 40 ≤ R.locals) (hs : (st.map fun v => v.category).sum ≤ 8) (hw : nativeFrameWords "java/lang/System" "arraycopy" 5 + 11 ≤ 32) (hd : decode cc pc = .ok (.invokestatic idx, 3))
    (kk : gt_A l G own nm cc mL rt R Z (n, uc, us) (pc + 3) lv st (gt_up h a (oI n1 (va_cpy f g sp.toNatClampNeg dp.toNatClampNeg k.toNatClampNeg)))) : gt_A l G own nm cc mL rt R Z (n, uc, us) pc lv (.int k :: .int dp :: .ref a :: .int sp :: .ref a0 :: st) h :=
  fun p e s m args below meth c H locs ls X hR hL hl => by
    have hts := X.2.2.2.2.2.2.2.1
    have hK := X.2.2.2.2.2.2.2.2.1
    have nn : ∀ z : Int32, ¬ z < 0 → z.toInt = (z.toNatClampNeg : Int) := fun z hz => by
      have hz0 : (0 : Int) ≤ z.toInt := by simpa using Int32.le_iff_toInt_le.mp (Int32.not_lt.mp hz)
      show z.toInt = ((z.toInt.toNat : Nat) : Int)
      omega
    have hc0 : H[gt_ad G a0]? = some (vp_cell (G.2.1 0) (n0, .inl f)) := (hR.1 a0 _ ho0).2.2
    have hc1 : H[gt_ad G a]? = some (vp_cell (G.2.1 0) (n1, .inl g)) := (hR.1 a _ ho1).2.2
    obtain ⟨-, k0, hk0, cm0, hkk0⟩ := (hK.2 0 _ rfl).1 n0 (fun j => .int (f j))
    obtain ⟨-, k1, hk1, cm1, hkk1⟩ := (hK.2 0 _ rfl).1 n1 (fun j => .int (g j))
    intro T hT Xs
    obtain ⟨vm', X', step⟩ := Xs.arraycopy X.1 X.2.2.2.2.2.1 (hts _ hl1) (hts _ h2.1) (hts _ h2.2.1) (hts _ h2.2.2) (src := gt_ad G a0) (dst := gt_ad G a) (cs := vp_cell (G.2.1 0) (n0, .inl f)) (cd := vp_cell (G.2.1 0) (n1, .inl g)) (srcPos := sp) (destPos := dp) (n := k) (by rw [hT]; exact hc0) (by rw [hT]; exact hc1)
      (fun _ h => by cases h) (fun _ h => by cases h) (fun h => by cases h) (fun h => by cases h) hk0 hk1 hkk0 hkk1 (by simp [refKind]) h3 h4 h5
      (by rw [nn sp h3, nn k h5]; show ¬ _ > ((arrV (G.2.1 0) n0 (fun j => .int (f j))).slots.size : Int); rw [arrV_size]; omega)
      (by rw [nn dp h4, nn k h5]; show ¬ _ > ((arrV (G.2.1 0) n1 (fun j => .int (g j))).slots.size : Int); rw [arrV_size]; omega)
      (fun vm₁ _ i hi => by
        have e : (vp_cell (G.2.1 0) (n0, .inl f)).slots.getD (sp.toNatClampNeg + i) .null = .int (f (sp.toNatClampNeg + i)) := by
          show (arrV (G.2.1 0) n0 (fun j => .int (f j))).slots.getD _ _ = _
          rw [Array.getD_eq_getD_getElem?, arrV_read _ _ (by omega)]
          rfl
        refine ⟨?_, ?_⟩
        · rw [e]; rfl
        · rw [e]; exact trivial)
      (g := F0 m pc ls (.int k :: .int dp :: .ref (gt_ad G a) :: .int sp :: .ref (gt_ad G a0) :: st.map (gt_v G))) rfl (by rw [X.2.2.1]; exact hl.1) (rest := st.map (gt_v G)) rfl (by rw [X.2.1]; exact hd) hr.1 (by have := hr.2; show 2 * 0 + _ + _ ≤ _; rw [gt_catsum]; omega)
    have e1 : copied (vp_cell (G.2.1 0) (n0, .inl f)) (vp_cell (G.2.1 0) (n1, .inl g)) sp dp k = vp_cell (G.2.1 0) (n1, .inl (va_cpy f g sp.toNatClampNeg dp.toNatClampNeg k.toNatClampNeg)) := va_copied (fun z => .int z) _ _ f g h6
    rw [e1] at X' step
    have hl2 : gt_ad G a < H.size := (Array.getElem?_eq_some_iff.mp hc1).1
    have oq : ∀ q : Nat, q ≠ gt_ad G a → (H.setIfInBounds (gt_ad G a) (vp_cell (G.2.1 0) (n1, .inl (va_cpy f g sp.toNatClampNeg dp.toNatClampNeg k.toNatClampNeg))))[q]? = H[q]? := fun q hq => by simp [Array.getElem?_setIfInBounds, Ne.symm hq]
    obtain ⟨t, a1, b1⟩ := kk p e s m args below meth c (H.setIfInBounds (gt_ad G a) (vp_cell (G.2.1 0) (n1, .inl (va_cpy f g sp.toNatClampNeg dp.toNatClampNeg k.toNatClampNeg)))) _ ls X (gt_R_up hR ho1 (by
        show (H.setIfInBounds (gt_ad G a) _)[gt_ad G a]? = some _
        simp [Array.getElem?_setIfInBounds, hl2]) (by simp) oq) (fun q hq => by
        rcases List.mem_append.mp hq with hq | hq
        · exact hL q hq
        · obtain ⟨z, -, hz⟩ := List.mem_map.mp hq
          rw [← hz]
          exact gt_ad_lt hR ho1) hl _ (by rw [← hT]; rfl) X'
    exact ⟨t, step t a1, b1⟩
end GN
end
section
theorem gt_inP {ws : List Cond} (ps : List Nat) (hp : ws = ps.filterMap (fun i => tables_1[i]?)) (hg : ws.all goodWord = true) : ∀ w ∈ ws, w ∈ gt_tbl := fun w hw => by
  have h1 := List.all_eq_true.mp hg w hw
  rw [hp] at hw
  obtain ⟨i, -, hi⟩ := List.mem_filterMap.mp hw
  exact gt_mem i hi h1
theorem kin_X0 : ∀ w ∈ u_ws RX0 TX0 11, w ∈ gt_tbl := gt_inP [102, 104, 106, 108, 110, 112, 114, 116, 118, 120, 122] (by decide +kernel) (by decide +kernel)
theorem kin_X1 : ∀ w ∈ u_ws RX1 TX1 1, w ∈ gt_tbl := gt_inP [191] (by decide +kernel) (by decide +kernel)
theorem kin_X2 : ∀ w ∈ u_ws RX2 TX2 3, w ∈ gt_tbl := gt_inP [287, 289, 291] (by decide +kernel) (by decide +kernel)
theorem kin_X3 : ∀ w ∈ u_ws RX3 TX3 11, w ∈ gt_tbl := gt_inP [214, 216, 218, 220, 222, 224, 226, 228, 230, 232, 234] (by decide +kernel) (by decide +kernel)
theorem kin_X4 : ∀ w ∈ u_ws RX4 TX4 3, w ∈ gt_tbl := gt_inP [174, 176, 178] (by decide +kernel) (by decide +kernel)
theorem kin_X5 : ∀ w ∈ u_ws RX5 TX5 6, w ∈ gt_tbl := gt_inP [252, 254, 256, 258, 260, 262] (by decide +kernel) (by decide +kernel)
theorem kin_X6 : ∀ w ∈ u_ws RX6 TX6 5, w ∈ gt_tbl := gt_inP [34, 36, 38, 40, 42] (by decide +kernel) (by decide +kernel)
theorem kin_X7 : ∀ w ∈ u_ws RX7 TX7 1, w ∈ gt_tbl := gt_inP [273] (by decide +kernel) (by decide +kernel)
theorem kin_X8 : ∀ w ∈ u_ws RX8 TX8 6, w ∈ gt_tbl := gt_inP [148, 150, 152, 154, 156, 158] (by decide +kernel) (by decide +kernel)
theorem kin_X9 : ∀ w ∈ u_ws RX9 TX9 12, w ∈ gt_tbl := gt_inP [306, 308, 310, 312, 314, 316, 318, 320, 322, 324, 326, 328] (by decide +kernel) (by decide +kernel)
theorem kin_X10 : ∀ w ∈ u_ws RX10 TX10 29, w ∈ gt_tbl := gt_inP [846, 848, 850, 852, 854, 856, 858, 860, 862, 864, 866, 868, 870, 872, 874, 876, 878, 880, 882, 884, 886, 888, 890, 892, 894, 896, 898, 900, 902] (by decide +kernel) (by decide +kernel)
theorem kf_X6_9 : gt_Fr RX6 9 6 0 := ⟨_, _, _, rfl, by decide, gt_mem 29 (by decide +kernel) rfl, kin_X6⟩
theorem kp_X6_9 : gt_F RX6 9 6 0 (.array .int) true := ⟨_, _, _, tyX6, rfl, by decide, gt_mem 29 (by decide +kernel) rfl, tyX6_ok 0 (by decide), rfl, kin_X6, tyX6_ok, nmX6, (fun _ => rfl)⟩
theorem kf_X6_19 : gt_Fr RX6 19 6 1 := ⟨_, _, _, rfl, by decide, gt_mem 30 (by decide +kernel) rfl, kin_X6⟩
theorem kp_X6_19 : gt_F RX6 19 6 1 .int false := ⟨_, _, _, tyX6, rfl, by decide, gt_mem 30 (by decide +kernel) rfl, tyX6_ok 1 (by decide), rfl, kin_X6, tyX6_ok, nmX6, (fun q => by cases q)⟩
theorem kf_X6_23 : gt_Fr RX6 23 6 2 := ⟨_, _, _, rfl, by decide, gt_mem 31 (by decide +kernel) rfl, kin_X6⟩
theorem kp_X6_23 : gt_F RX6 23 6 2 .int false := ⟨_, _, _, tyX6, rfl, by decide, gt_mem 31 (by decide +kernel) rfl, tyX6_ok 2 (by decide), rfl, kin_X6, tyX6_ok, nmX6, (fun q => by cases q)⟩
theorem kf_X6_26 : gt_Fr RX6 26 6 3 := ⟨_, _, _, rfl, by decide, gt_mem 32 (by decide +kernel) rfl, kin_X6⟩
theorem kp_X6_26 : gt_F RX6 26 6 3 .int false := ⟨_, _, _, tyX6, rfl, by decide, gt_mem 32 (by decide +kernel) rfl, tyX6_ok 3 (by decide), rfl, kin_X6, tyX6_ok, nmX6, (fun q => by cases q)⟩
theorem kf_X6_15 : gt_Fr RX6 15 6 4 := ⟨_, _, _, rfl, by decide, gt_mem 33 (by decide +kernel) rfl, kin_X6⟩
theorem kp_X6_15 : gt_F RX6 15 6 4 .int false := ⟨_, _, _, tyX6, rfl, by decide, gt_mem 33 (by decide +kernel) rfl, tyX6_ok 4 (by decide), rfl, kin_X6, tyX6_ok, nmX6, (fun q => by cases q)⟩
theorem kf_X0_33 : gt_Fr RX0 33 0 0 := ⟨_, _, _, rfl, by decide, gt_mem 52 (by decide +kernel) rfl, kin_X0⟩
theorem kp_X0_33 : gt_F RX0 33 0 0 .int false := ⟨_, _, _, tyX0, rfl, by decide, gt_mem 52 (by decide +kernel) rfl, tyX0_ok 0 (by decide), rfl, kin_X0, tyX0_ok, nmX0, (fun q => by cases q)⟩
theorem kf_X9_113 : gt_Fr RX9 113 0 0 := ⟨_, _, _, rfl, by decide, gt_mem 53 (by decide +kernel) rfl, kin_X0⟩
theorem kp_X9_113 : gt_F RX9 113 0 0 .int false := ⟨_, _, _, tyX0, rfl, by decide, gt_mem 53 (by decide +kernel) rfl, tyX0_ok 0 (by decide), rfl, kin_X0, tyX0_ok, nmX0, (fun q => by cases q)⟩
theorem kf_X7_61 : gt_Fr RX7 61 0 0 := ⟨_, _, _, rfl, by decide, gt_mem 54 (by decide +kernel) rfl, kin_X0⟩
theorem kp_X7_61 : gt_F RX7 61 0 0 .int false := ⟨_, _, _, tyX0, rfl, by decide, gt_mem 54 (by decide +kernel) rfl, tyX0_ok 0 (by decide), rfl, kin_X0, tyX0_ok, nmX0, (fun q => by cases q)⟩
theorem kf_X6_56 : gt_Fr RX6 56 0 0 := ⟨_, _, _, rfl, by decide, gt_mem 55 (by decide +kernel) rfl, kin_X0⟩
theorem kp_X6_56 : gt_F RX6 56 0 0 .int false := ⟨_, _, _, tyX0, rfl, by decide, gt_mem 55 (by decide +kernel) rfl, tyX0_ok 0 (by decide), rfl, kin_X0, tyX0_ok, nmX0, (fun q => by cases q)⟩
theorem kf_X8_107 : gt_Fr RX8 107 0 0 := ⟨_, _, _, rfl, by decide, gt_mem 56 (by decide +kernel) rfl, kin_X0⟩
theorem kp_X8_107 : gt_F RX8 107 0 0 .int false := ⟨_, _, _, tyX0, rfl, by decide, gt_mem 56 (by decide +kernel) rfl, tyX0_ok 0 (by decide), rfl, kin_X0, tyX0_ok, nmX0, (fun q => by cases q)⟩
theorem kf_X0_37 : gt_Fr RX0 37 0 1 := ⟨_, _, _, rfl, by decide, gt_mem 57 (by decide +kernel) rfl, kin_X0⟩
theorem kp_X0_37 : gt_F RX0 37 0 1 .int false := ⟨_, _, _, tyX0, rfl, by decide, gt_mem 57 (by decide +kernel) rfl, tyX0_ok 1 (by decide), rfl, kin_X0, tyX0_ok, nmX0, (fun q => by cases q)⟩
theorem kf_X5_52 : gt_Fr RX5 52 0 1 := ⟨_, _, _, rfl, by decide, gt_mem 58 (by decide +kernel) rfl, kin_X0⟩
theorem kp_X5_52 : gt_F RX5 52 0 1 .int false := ⟨_, _, _, tyX0, rfl, by decide, gt_mem 58 (by decide +kernel) rfl, tyX0_ok 1 (by decide), rfl, kin_X0, tyX0_ok, nmX0, (fun q => by cases q)⟩
theorem kf_X1_47 : gt_Fr RX1 47 0 1 := ⟨_, _, _, rfl, by decide, gt_mem 59 (by decide +kernel) rfl, kin_X0⟩
theorem kp_X1_47 : gt_F RX1 47 0 1 .int false := ⟨_, _, _, tyX0, rfl, by decide, gt_mem 59 (by decide +kernel) rfl, tyX0_ok 1 (by decide), rfl, kin_X0, tyX0_ok, nmX0, (fun q => by cases q)⟩
theorem kf_X9_116 : gt_Fr RX9 116 0 1 := ⟨_, _, _, rfl, by decide, gt_mem 60 (by decide +kernel) rfl, kin_X0⟩
theorem kp_X9_116 : gt_F RX9 116 0 1 .int false := ⟨_, _, _, tyX0, rfl, by decide, gt_mem 60 (by decide +kernel) rfl, tyX0_ok 1 (by decide), rfl, kin_X0, tyX0_ok, nmX0, (fun q => by cases q)⟩
theorem kf_X6_76 : gt_Fr RX6 76 0 1 := ⟨_, _, _, rfl, by decide, gt_mem 61 (by decide +kernel) rfl, kin_X0⟩
theorem kp_X6_76 : gt_F RX6 76 0 1 .int false := ⟨_, _, _, tyX0, rfl, by decide, gt_mem 61 (by decide +kernel) rfl, tyX0_ok 1 (by decide), rfl, kin_X0, tyX0_ok, nmX0, (fun q => by cases q)⟩
theorem kf_X8_85 : gt_Fr RX8 85 0 1 := ⟨_, _, _, rfl, by decide, gt_mem 62 (by decide +kernel) rfl, kin_X0⟩
theorem kp_X8_85 : gt_F RX8 85 0 1 .int false := ⟨_, _, _, tyX0, rfl, by decide, gt_mem 62 (by decide +kernel) rfl, tyX0_ok 1 (by decide), rfl, kin_X0, tyX0_ok, nmX0, (fun q => by cases q)⟩
theorem kf_X7_16 : gt_Fr RX7 16 0 2 := ⟨_, _, _, rfl, by decide, gt_mem 63 (by decide +kernel) rfl, kin_X0⟩
theorem kp_X7_16 : gt_F RX7 16 0 2 .int false := ⟨_, _, _, tyX0, rfl, by decide, gt_mem 63 (by decide +kernel) rfl, tyX0_ok 2 (by decide), rfl, kin_X0, tyX0_ok, nmX0, (fun q => by cases q)⟩
theorem kf_X0_40 : gt_Fr RX0 40 0 2 := ⟨_, _, _, rfl, by decide, gt_mem 64 (by decide +kernel) rfl, kin_X0⟩
theorem kp_X0_40 : gt_F RX0 40 0 2 .int false := ⟨_, _, _, tyX0, rfl, by decide, gt_mem 64 (by decide +kernel) rfl, tyX0_ok 2 (by decide), rfl, kin_X0, tyX0_ok, nmX0, (fun q => by cases q)⟩
theorem kf_X5_49 : gt_Fr RX5 49 0 2 := ⟨_, _, _, rfl, by decide, gt_mem 65 (by decide +kernel) rfl, kin_X0⟩
theorem kp_X5_49 : gt_F RX5 49 0 2 .int false := ⟨_, _, _, tyX0, rfl, by decide, gt_mem 65 (by decide +kernel) rfl, tyX0_ok 2 (by decide), rfl, kin_X0, tyX0_ok, nmX0, (fun q => by cases q)⟩
theorem kf_X1_24 : gt_Fr RX1 24 0 2 := ⟨_, _, _, rfl, by decide, gt_mem 66 (by decide +kernel) rfl, kin_X0⟩
theorem kp_X1_24 : gt_F RX1 24 0 2 .int false := ⟨_, _, _, tyX0, rfl, by decide, gt_mem 66 (by decide +kernel) rfl, tyX0_ok 2 (by decide), rfl, kin_X0, tyX0_ok, nmX0, (fun q => by cases q)⟩
theorem kf_X9_119 : gt_Fr RX9 119 0 2 := ⟨_, _, _, rfl, by decide, gt_mem 67 (by decide +kernel) rfl, kin_X0⟩
theorem kp_X9_119 : gt_F RX9 119 0 2 .int false := ⟨_, _, _, tyX0, rfl, by decide, gt_mem 67 (by decide +kernel) rfl, tyX0_ok 2 (by decide), rfl, kin_X0, tyX0_ok, nmX0, (fun q => by cases q)⟩
theorem kf_X8_51 : gt_Fr RX8 51 0 2 := ⟨_, _, _, rfl, by decide, gt_mem 68 (by decide +kernel) rfl, kin_X0⟩
theorem kp_X8_51 : gt_F RX8 51 0 2 .int false := ⟨_, _, _, tyX0, rfl, by decide, gt_mem 68 (by decide +kernel) rfl, tyX0_ok 2 (by decide), rfl, kin_X0, tyX0_ok, nmX0, (fun q => by cases q)⟩
theorem kf_X6_85 : gt_Fr RX6 85 0 2 := ⟨_, _, _, rfl, by decide, gt_mem 69 (by decide +kernel) rfl, kin_X0⟩
theorem kp_X6_85 : gt_F RX6 85 0 2 .int false := ⟨_, _, _, tyX0, rfl, by decide, gt_mem 69 (by decide +kernel) rfl, tyX0_ok 2 (by decide), rfl, kin_X0, tyX0_ok, nmX0, (fun q => by cases q)⟩
theorem kf_X0_43 : gt_Fr RX0 43 0 3 := ⟨_, _, _, rfl, by decide, gt_mem 70 (by decide +kernel) rfl, kin_X0⟩
theorem kp_X0_43 : gt_F RX0 43 0 3 .int false := ⟨_, _, _, tyX0, rfl, by decide, gt_mem 70 (by decide +kernel) rfl, tyX0_ok 3 (by decide), rfl, kin_X0, tyX0_ok, nmX0, (fun q => by cases q)⟩
theorem kf_X8_37 : gt_Fr RX8 37 0 3 := ⟨_, _, _, rfl, by decide, gt_mem 71 (by decide +kernel) rfl, kin_X0⟩
theorem kp_X8_37 : gt_F RX8 37 0 3 .int false := ⟨_, _, _, tyX0, rfl, by decide, gt_mem 71 (by decide +kernel) rfl, tyX0_ok 3 (by decide), rfl, kin_X0, tyX0_ok, nmX0, (fun q => by cases q)⟩
theorem kf_X9_122 : gt_Fr RX9 122 0 3 := ⟨_, _, _, rfl, by decide, gt_mem 72 (by decide +kernel) rfl, kin_X0⟩
theorem kp_X9_122 : gt_F RX9 122 0 3 .int false := ⟨_, _, _, tyX0, rfl, by decide, gt_mem 72 (by decide +kernel) rfl, tyX0_ok 3 (by decide), rfl, kin_X0, tyX0_ok, nmX0, (fun q => by cases q)⟩
theorem kf_X6_91 : gt_Fr RX6 91 0 3 := ⟨_, _, _, rfl, by decide, gt_mem 73 (by decide +kernel) rfl, kin_X0⟩
theorem kp_X6_91 : gt_F RX6 91 0 3 .int false := ⟨_, _, _, tyX0, rfl, by decide, gt_mem 73 (by decide +kernel) rfl, tyX0_ok 3 (by decide), rfl, kin_X0, tyX0_ok, nmX0, (fun q => by cases q)⟩
theorem kf_X0_9 : gt_Fr RX0 9 0 4 := ⟨_, _, _, rfl, by decide, gt_mem 74 (by decide +kernel) rfl, kin_X0⟩
theorem kp_X0_9 : gt_F RX0 9 0 4 (.array .int) true := ⟨_, _, _, tyX0, rfl, by decide, gt_mem 74 (by decide +kernel) rfl, tyX0_ok 4 (by decide), rfl, kin_X0, tyX0_ok, nmX0, (fun _ => rfl)⟩
theorem kf_X5_26 : gt_Fr RX5 26 0 4 := ⟨_, _, _, rfl, by decide, gt_mem 75 (by decide +kernel) rfl, kin_X0⟩
theorem kf_X6_49 : gt_Fr RX6 49 0 4 := ⟨_, _, _, rfl, by decide, gt_mem 76 (by decide +kernel) rfl, kin_X0⟩
theorem kf_X9_176 : gt_Fr RX9 176 0 4 := ⟨_, _, _, rfl, by decide, gt_mem 77 (by decide +kernel) rfl, kin_X0⟩
theorem kf_X8_104 : gt_Fr RX8 104 0 4 := ⟨_, _, _, rfl, by decide, gt_mem 78 (by decide +kernel) rfl, kin_X0⟩
theorem kf_X0_15 : gt_Fr RX0 15 0 5 := ⟨_, _, _, rfl, by decide, gt_mem 79 (by decide +kernel) rfl, kin_X0⟩
theorem kp_X0_15 : gt_F RX0 15 0 5 (.array .int) true := ⟨_, _, _, tyX0, rfl, by decide, gt_mem 79 (by decide +kernel) rfl, tyX0_ok 5 (by decide), rfl, kin_X0, tyX0_ok, nmX0, (fun _ => rfl)⟩
theorem kf_X9_193 : gt_Fr RX9 193 0 5 := ⟨_, _, _, rfl, by decide, gt_mem 80 (by decide +kernel) rfl, kin_X0⟩
theorem kf_X6_79 : gt_Fr RX6 79 0 5 := ⟨_, _, _, rfl, by decide, gt_mem 81 (by decide +kernel) rfl, kin_X0⟩
theorem kf_X0_18 : gt_Fr RX0 18 0 6 := ⟨_, _, _, rfl, by decide, gt_mem 82 (by decide +kernel) rfl, kin_X0⟩
theorem kp_X0_18 : gt_F RX0 18 0 6 (.array .int) true := ⟨_, _, _, tyX0, rfl, by decide, gt_mem 82 (by decide +kernel) rfl, tyX0_ok 6 (by decide), rfl, kin_X0, tyX0_ok, nmX0, (fun _ => rfl)⟩
theorem kf_X9_196 : gt_Fr RX9 196 0 6 := ⟨_, _, _, rfl, by decide, gt_mem 83 (by decide +kernel) rfl, kin_X0⟩
theorem kf_X6_82 : gt_Fr RX6 82 0 6 := ⟨_, _, _, rfl, by decide, gt_mem 84 (by decide +kernel) rfl, kin_X0⟩
theorem kf_X0_21 : gt_Fr RX0 21 0 7 := ⟨_, _, _, rfl, by decide, gt_mem 85 (by decide +kernel) rfl, kin_X0⟩
theorem kp_X0_21 : gt_F RX0 21 0 7 (.array .int) true := ⟨_, _, _, tyX0, rfl, by decide, gt_mem 85 (by decide +kernel) rfl, tyX0_ok 7 (by decide), rfl, kin_X0, tyX0_ok, nmX0, (fun _ => rfl)⟩
theorem kf_X5_98 : gt_Fr RX5 98 0 7 := ⟨_, _, _, rfl, by decide, gt_mem 86 (by decide +kernel) rfl, kin_X0⟩
theorem kf_X9_208 : gt_Fr RX9 208 0 7 := ⟨_, _, _, rfl, by decide, gt_mem 87 (by decide +kernel) rfl, kin_X0⟩
theorem kf_X6_88 : gt_Fr RX6 88 0 7 := ⟨_, _, _, rfl, by decide, gt_mem 88 (by decide +kernel) rfl, kin_X0⟩
theorem kf_X8_69 : gt_Fr RX8 69 0 7 := ⟨_, _, _, rfl, by decide, gt_mem 89 (by decide +kernel) rfl, kin_X0⟩
theorem kf_X0_24 : gt_Fr RX0 24 0 8 := ⟨_, _, _, rfl, by decide, gt_mem 90 (by decide +kernel) rfl, kin_X0⟩
theorem kp_X0_24 : gt_F RX0 24 0 8 (.array .int) true := ⟨_, _, _, tyX0, rfl, by decide, gt_mem 90 (by decide +kernel) rfl, tyX0_ok 8 (by decide), rfl, kin_X0, tyX0_ok, nmX0, (fun _ => rfl)⟩
theorem kf_X9_223 : gt_Fr RX9 223 0 8 := ⟨_, _, _, rfl, by decide, gt_mem 91 (by decide +kernel) rfl, kin_X0⟩
theorem kf_X6_94 : gt_Fr RX6 94 0 8 := ⟨_, _, _, rfl, by decide, gt_mem 92 (by decide +kernel) rfl, kin_X0⟩
theorem kf_X8_95 : gt_Fr RX8 95 0 8 := ⟨_, _, _, rfl, by decide, gt_mem 93 (by decide +kernel) rfl, kin_X0⟩
theorem kf_X0_27 : gt_Fr RX0 27 0 9 := ⟨_, _, _, rfl, by decide, gt_mem 94 (by decide +kernel) rfl, kin_X0⟩
theorem kp_X0_27 : gt_F RX0 27 0 9 (.array .int) true := ⟨_, _, _, tyX0, rfl, by decide, gt_mem 94 (by decide +kernel) rfl, tyX0_ok 9 (by decide), rfl, kin_X0, tyX0_ok, nmX0, (fun _ => rfl)⟩
theorem kf_X8_42 : gt_Fr RX8 42 0 9 := ⟨_, _, _, rfl, by decide, gt_mem 95 (by decide +kernel) rfl, kin_X0⟩
theorem kf_X9_229 : gt_Fr RX9 229 0 9 := ⟨_, _, _, rfl, by decide, gt_mem 96 (by decide +kernel) rfl, kin_X0⟩
theorem kf_X6_97 : gt_Fr RX6 97 0 9 := ⟨_, _, _, rfl, by decide, gt_mem 97 (by decide +kernel) rfl, kin_X0⟩
theorem kf_X0_30 : gt_Fr RX0 30 0 10 := ⟨_, _, _, rfl, by decide, gt_mem 98 (by decide +kernel) rfl, kin_X0⟩
theorem kp_X0_30 : gt_F RX0 30 0 10 (.array .int) true := ⟨_, _, _, tyX0, rfl, by decide, gt_mem 98 (by decide +kernel) rfl, tyX0_ok 10 (by decide), rfl, kin_X0, tyX0_ok, nmX0, (fun _ => rfl)⟩
theorem kf_X9_232 : gt_Fr RX9 232 0 10 := ⟨_, _, _, rfl, by decide, gt_mem 99 (by decide +kernel) rfl, kin_X0⟩
theorem kf_X6_100 : gt_Fr RX6 100 0 10 := ⟨_, _, _, rfl, by decide, gt_mem 100 (by decide +kernel) rfl, kin_X0⟩
theorem kf_X8_88 : gt_Fr RX8 88 0 10 := ⟨_, _, _, rfl, by decide, gt_mem 101 (by decide +kernel) rfl, kin_X0⟩
theorem kf_X8_24 : gt_Fr RX8 24 8 0 := ⟨_, _, _, rfl, by decide, gt_mem 131 (by decide +kernel) rfl, kin_X8⟩
theorem kp_X8_24 : gt_F RX8 24 8 0 .int false := ⟨_, _, _, tyX8, rfl, by decide, gt_mem 131 (by decide +kernel) rfl, tyX8_ok 0 (by decide), rfl, kin_X8, tyX8_ok, nmX8, (fun q => by cases q)⟩
theorem kf_X9_128 : gt_Fr RX9 128 8 0 := ⟨_, _, _, rfl, by decide, gt_mem 132 (by decide +kernel) rfl, kin_X8⟩
theorem kp_X9_128 : gt_F RX9 128 8 0 .int false := ⟨_, _, _, tyX8, rfl, by decide, gt_mem 132 (by decide +kernel) rfl, tyX8_ok 0 (by decide), rfl, kin_X8, tyX8_ok, nmX8, (fun q => by cases q)⟩
theorem kf_X8_28 : gt_Fr RX8 28 8 1 := ⟨_, _, _, rfl, by decide, gt_mem 133 (by decide +kernel) rfl, kin_X8⟩
theorem kp_X8_28 : gt_F RX8 28 8 1 .int false := ⟨_, _, _, tyX8, rfl, by decide, gt_mem 133 (by decide +kernel) rfl, tyX8_ok 1 (by decide), rfl, kin_X8, tyX8_ok, nmX8, (fun q => by cases q)⟩
theorem kf_X7_54 : gt_Fr RX7 54 8 1 := ⟨_, _, _, rfl, by decide, gt_mem 134 (by decide +kernel) rfl, kin_X8⟩
theorem kp_X7_54 : gt_F RX7 54 8 1 .int false := ⟨_, _, _, tyX8, rfl, by decide, gt_mem 134 (by decide +kernel) rfl, tyX8_ok 1 (by decide), rfl, kin_X8, tyX8_ok, nmX8, (fun q => by cases q)⟩
theorem kf_X9_149 : gt_Fr RX9 149 8 1 := ⟨_, _, _, rfl, by decide, gt_mem 135 (by decide +kernel) rfl, kin_X8⟩
theorem kp_X9_149 : gt_F RX9 149 8 1 .int false := ⟨_, _, _, tyX8, rfl, by decide, gt_mem 135 (by decide +kernel) rfl, tyX8_ok 1 (by decide), rfl, kin_X8, tyX8_ok, nmX8, (fun q => by cases q)⟩
theorem kf_X8_9 : gt_Fr RX8 9 8 2 := ⟨_, _, _, rfl, by decide, gt_mem 136 (by decide +kernel) rfl, kin_X8⟩
theorem kp_X8_9 : gt_F RX8 9 8 2 (.array .int) true := ⟨_, _, _, tyX8, rfl, by decide, gt_mem 136 (by decide +kernel) rfl, tyX8_ok 2 (by decide), rfl, kin_X8, tyX8_ok, nmX8, (fun _ => rfl)⟩
theorem kf_X5_65 : gt_Fr RX5 65 8 2 := ⟨_, _, _, rfl, by decide, gt_mem 137 (by decide +kernel) rfl, kin_X8⟩
theorem kf_X9_199 : gt_Fr RX9 199 8 2 := ⟨_, _, _, rfl, by decide, gt_mem 138 (by decide +kernel) rfl, kin_X8⟩
theorem kf_X8_15 : gt_Fr RX8 15 8 3 := ⟨_, _, _, rfl, by decide, gt_mem 139 (by decide +kernel) rfl, kin_X8⟩
theorem kp_X8_15 : gt_F RX8 15 8 3 (.array .int) true := ⟨_, _, _, tyX8, rfl, by decide, gt_mem 139 (by decide +kernel) rfl, tyX8_ok 3 (by decide), rfl, kin_X8, tyX8_ok, nmX8, (fun _ => rfl)⟩
theorem kf_X7_22 : gt_Fr RX7 22 8 3 := ⟨_, _, _, rfl, by decide, gt_mem 140 (by decide +kernel) rfl, kin_X8⟩
theorem kf_X1_39 : gt_Fr RX1 39 8 3 := ⟨_, _, _, rfl, by decide, gt_mem 141 (by decide +kernel) rfl, kin_X8⟩
theorem kf_X9_214 : gt_Fr RX9 214 8 3 := ⟨_, _, _, rfl, by decide, gt_mem 142 (by decide +kernel) rfl, kin_X8⟩
theorem kf_X8_18 : gt_Fr RX8 18 8 4 := ⟨_, _, _, rfl, by decide, gt_mem 143 (by decide +kernel) rfl, kin_X8⟩
theorem kp_X8_18 : gt_F RX8 18 8 4 (.array .int) true := ⟨_, _, _, tyX8, rfl, by decide, gt_mem 143 (by decide +kernel) rfl, tyX8_ok 4 (by decide), rfl, kin_X8, tyX8_ok, nmX8, (fun _ => rfl)⟩
theorem kf_X5_101 : gt_Fr RX5 101 8 4 := ⟨_, _, _, rfl, by decide, gt_mem 144 (by decide +kernel) rfl, kin_X8⟩
theorem kf_X9_211 : gt_Fr RX9 211 8 4 := ⟨_, _, _, rfl, by decide, gt_mem 145 (by decide +kernel) rfl, kin_X8⟩
theorem kf_X8_21 : gt_Fr RX8 21 8 5 := ⟨_, _, _, rfl, by decide, gt_mem 146 (by decide +kernel) rfl, kin_X8⟩
theorem kp_X8_21 : gt_F RX8 21 8 5 (.array .int) true := ⟨_, _, _, tyX8, rfl, by decide, gt_mem 146 (by decide +kernel) rfl, tyX8_ok 5 (by decide), rfl, kin_X8, tyX8_ok, nmX8, (fun _ => rfl)⟩
theorem kf_X9_226 : gt_Fr RX9 226 8 5 := ⟨_, _, _, rfl, by decide, gt_mem 147 (by decide +kernel) rfl, kin_X8⟩
theorem kf_X4_11 : gt_Fr RX4 11 4 0 := ⟨_, _, _, rfl, by decide, gt_mem 170 (by decide +kernel) rfl, kin_X4⟩
theorem kp_X4_11 : gt_F RX4 11 4 0 (.array (.object "GurdyTide$State")) true := ⟨_, _, _, tyX4, rfl, by decide, gt_mem 170 (by decide +kernel) rfl, tyX4_ok 0 (by decide), rfl, kin_X4, tyX4_ok, nmX4, (fun _ => rfl)⟩
theorem kf_X4_18 : gt_Fr RX4 18 4 1 := ⟨_, _, _, rfl, by decide, gt_mem 171 (by decide +kernel) rfl, kin_X4⟩
theorem kp_X4_18 : gt_F RX4 18 4 1 .int false := ⟨_, _, _, tyX4, rfl, by decide, gt_mem 171 (by decide +kernel) rfl, tyX4_ok 1 (by decide), rfl, kin_X4, tyX4_ok, nmX4, (fun q => by cases q)⟩
theorem kf_X4_26 : gt_Fr RX4 26 4 2 := ⟨_, _, _, rfl, by decide, gt_mem 172 (by decide +kernel) rfl, kin_X4⟩
theorem kp_X4_26 : gt_F RX4 26 4 2 .int false := ⟨_, _, _, tyX4, rfl, by decide, gt_mem 172 (by decide +kernel) rfl, tyX4_ok 2 (by decide), rfl, kin_X4, tyX4_ok, nmX4, (fun q => by cases q)⟩
theorem kf_X9_168 : gt_Fr RX9 168 4 2 := ⟨_, _, _, rfl, by decide, gt_mem 173 (by decide +kernel) rfl, kin_X4⟩
theorem kp_X9_168 : gt_F RX9 168 4 2 .int false := ⟨_, _, _, tyX4, rfl, by decide, gt_mem 173 (by decide +kernel) rfl, tyX4_ok 2 (by decide), rfl, kin_X4, tyX4_ok, nmX4, (fun q => by cases q)⟩
theorem kf_X1_9 : gt_Fr RX1 9 1 0 := ⟨_, _, _, rfl, by decide, gt_mem 189 (by decide +kernel) rfl, kin_X1⟩
theorem kp_X1_9 : gt_F RX1 9 1 0 .int false := ⟨_, _, _, tyX1, rfl, by decide, gt_mem 189 (by decide +kernel) rfl, tyX1_ok 0 (by decide), rfl, kin_X1, tyX1_ok, nmX1, (fun q => by cases q)⟩
theorem kf_X9_303 : gt_Fr RX9 303 1 0 := ⟨_, _, _, rfl, by decide, gt_mem 190 (by decide +kernel) rfl, kin_X1⟩
theorem kp_X9_303 : gt_F RX9 303 1 0 .int false := ⟨_, _, _, tyX1, rfl, by decide, gt_mem 190 (by decide +kernel) rfl, tyX1_ok 0 (by decide), rfl, kin_X1, tyX1_ok, nmX1, (fun q => by cases q)⟩
theorem kf_X3_36 : gt_Fr RX3 36 3 0 := ⟨_, _, _, rfl, by decide, gt_mem 200 (by decide +kernel) rfl, kin_X3⟩
theorem kp_X3_36 : gt_F RX3 36 3 0 .int false := ⟨_, _, _, tyX3, rfl, by decide, gt_mem 200 (by decide +kernel) rfl, tyX3_ok 0 (by decide), rfl, kin_X3, tyX3_ok, nmX3, (fun q => by cases q)⟩
theorem kf_X9_152 : gt_Fr RX9 152 3 0 := ⟨_, _, _, rfl, by decide, gt_mem 201 (by decide +kernel) rfl, kin_X3⟩
theorem kp_X9_152 : gt_F RX9 152 3 0 .int false := ⟨_, _, _, tyX3, rfl, by decide, gt_mem 201 (by decide +kernel) rfl, tyX3_ok 0 (by decide), rfl, kin_X3, tyX3_ok, nmX3, (fun q => by cases q)⟩
theorem kf_X3_40 : gt_Fr RX3 40 3 1 := ⟨_, _, _, rfl, by decide, gt_mem 202 (by decide +kernel) rfl, kin_X3⟩
theorem kp_X3_40 : gt_F RX3 40 3 1 .int false := ⟨_, _, _, tyX3, rfl, by decide, gt_mem 202 (by decide +kernel) rfl, tyX3_ok 1 (by decide), rfl, kin_X3, tyX3_ok, nmX3, (fun q => by cases q)⟩
theorem kf_X9_159 : gt_Fr RX9 159 3 1 := ⟨_, _, _, rfl, by decide, gt_mem 203 (by decide +kernel) rfl, kin_X3⟩
theorem kp_X9_159 : gt_F RX9 159 3 1 .int false := ⟨_, _, _, tyX3, rfl, by decide, gt_mem 203 (by decide +kernel) rfl, tyX3_ok 1 (by decide), rfl, kin_X3, tyX3_ok, nmX3, (fun q => by cases q)⟩
theorem kf_X3_43 : gt_Fr RX3 43 3 2 := ⟨_, _, _, rfl, by decide, gt_mem 204 (by decide +kernel) rfl, kin_X3⟩
theorem kp_X3_43 : gt_F RX3 43 3 2 .int false := ⟨_, _, _, tyX3, rfl, by decide, gt_mem 204 (by decide +kernel) rfl, tyX3_ok 2 (by decide), rfl, kin_X3, tyX3_ok, nmX3, (fun q => by cases q)⟩
theorem kf_X9_165 : gt_Fr RX9 165 3 2 := ⟨_, _, _, rfl, by decide, gt_mem 205 (by decide +kernel) rfl, kin_X3⟩
theorem kp_X9_165 : gt_F RX9 165 3 2 .int false := ⟨_, _, _, tyX3, rfl, by decide, gt_mem 205 (by decide +kernel) rfl, tyX3_ok 2 (by decide), rfl, kin_X3, tyX3_ok, nmX3, (fun q => by cases q)⟩
theorem kf_X3_9 : gt_Fr RX3 9 3 3 := ⟨_, _, _, rfl, by decide, gt_mem 206 (by decide +kernel) rfl, kin_X3⟩
theorem kp_X3_9 : gt_F RX3 9 3 3 (.array .int) true := ⟨_, _, _, tyX3, rfl, by decide, gt_mem 206 (by decide +kernel) rfl, tyX3_ok 3 (by decide), rfl, kin_X3, tyX3_ok, nmX3, (fun _ => rfl)⟩
theorem kf_X3_15 : gt_Fr RX3 15 3 4 := ⟨_, _, _, rfl, by decide, gt_mem 207 (by decide +kernel) rfl, kin_X3⟩
theorem kp_X3_15 : gt_F RX3 15 3 4 (.array .int) true := ⟨_, _, _, tyX3, rfl, by decide, gt_mem 207 (by decide +kernel) rfl, tyX3_ok 4 (by decide), rfl, kin_X3, tyX3_ok, nmX3, (fun _ => rfl)⟩
theorem kf_X3_18 : gt_Fr RX3 18 3 5 := ⟨_, _, _, rfl, by decide, gt_mem 208 (by decide +kernel) rfl, kin_X3⟩
theorem kp_X3_18 : gt_F RX3 18 3 5 (.array .int) true := ⟨_, _, _, tyX3, rfl, by decide, gt_mem 208 (by decide +kernel) rfl, tyX3_ok 5 (by decide), rfl, kin_X3, tyX3_ok, nmX3, (fun _ => rfl)⟩
theorem kf_X3_21 : gt_Fr RX3 21 3 6 := ⟨_, _, _, rfl, by decide, gt_mem 209 (by decide +kernel) rfl, kin_X3⟩
theorem kp_X3_21 : gt_F RX3 21 3 6 (.array .int) true := ⟨_, _, _, tyX3, rfl, by decide, gt_mem 209 (by decide +kernel) rfl, tyX3_ok 6 (by decide), rfl, kin_X3, tyX3_ok, nmX3, (fun _ => rfl)⟩
theorem kf_X3_24 : gt_Fr RX3 24 3 7 := ⟨_, _, _, rfl, by decide, gt_mem 210 (by decide +kernel) rfl, kin_X3⟩
theorem kp_X3_24 : gt_F RX3 24 3 7 (.array .int) true := ⟨_, _, _, tyX3, rfl, by decide, gt_mem 210 (by decide +kernel) rfl, tyX3_ok 7 (by decide), rfl, kin_X3, tyX3_ok, nmX3, (fun _ => rfl)⟩
theorem kf_X3_27 : gt_Fr RX3 27 3 8 := ⟨_, _, _, rfl, by decide, gt_mem 211 (by decide +kernel) rfl, kin_X3⟩
theorem kp_X3_27 : gt_F RX3 27 3 8 (.array .int) true := ⟨_, _, _, tyX3, rfl, by decide, gt_mem 211 (by decide +kernel) rfl, tyX3_ok 8 (by decide), rfl, kin_X3, tyX3_ok, nmX3, (fun _ => rfl)⟩
theorem kf_X3_30 : gt_Fr RX3 30 3 9 := ⟨_, _, _, rfl, by decide, gt_mem 212 (by decide +kernel) rfl, kin_X3⟩
theorem kp_X3_30 : gt_F RX3 30 3 9 (.array .int) true := ⟨_, _, _, tyX3, rfl, by decide, gt_mem 212 (by decide +kernel) rfl, tyX3_ok 9 (by decide), rfl, kin_X3, tyX3_ok, nmX3, (fun _ => rfl)⟩
theorem kf_X3_33 : gt_Fr RX3 33 3 10 := ⟨_, _, _, rfl, by decide, gt_mem 213 (by decide +kernel) rfl, kin_X3⟩
theorem kp_X3_33 : gt_F RX3 33 3 10 (.array .int) true := ⟨_, _, _, tyX3, rfl, by decide, gt_mem 213 (by decide +kernel) rfl, tyX3_ok 10 (by decide), rfl, kin_X3, tyX3_ok, nmX3, (fun _ => rfl)⟩
theorem kf_X5_9 : gt_Fr RX5 9 5 0 := ⟨_, _, _, rfl, by decide, gt_mem 245 (by decide +kernel) rfl, kin_X5⟩
theorem kp_X5_9 : gt_F RX5 9 5 0 (.array .int) true := ⟨_, _, _, tyX5, rfl, by decide, gt_mem 245 (by decide +kernel) rfl, tyX5_ok 0 (by decide), rfl, kin_X5, tyX5_ok, nmX5, (fun _ => rfl)⟩
theorem kf_X9_271 : gt_Fr RX9 271 5 0 := ⟨_, _, _, rfl, by decide, gt_mem 246 (by decide +kernel) rfl, kin_X5⟩
theorem kf_X5_15 : gt_Fr RX5 15 5 1 := ⟨_, _, _, rfl, by decide, gt_mem 247 (by decide +kernel) rfl, kin_X5⟩
theorem kp_X5_15 : gt_F RX5 15 5 1 (.array .int) true := ⟨_, _, _, tyX5, rfl, by decide, gt_mem 247 (by decide +kernel) rfl, tyX5_ok 1 (by decide), rfl, kin_X5, tyX5_ok, nmX5, (fun _ => rfl)⟩
theorem kf_X5_20 : gt_Fr RX5 20 5 2 := ⟨_, _, _, rfl, by decide, gt_mem 248 (by decide +kernel) rfl, kin_X5⟩
theorem kp_X5_20 : gt_F RX5 20 5 2 (.array (.array .int)) true := ⟨_, _, _, tyX5, rfl, by decide, gt_mem 248 (by decide +kernel) rfl, tyX5_ok 2 (by decide), rfl, kin_X5, tyX5_ok, nmX5, (fun _ => rfl)⟩
theorem kf_X5_23 : gt_Fr RX5 23 5 3 := ⟨_, _, _, rfl, by decide, gt_mem 249 (by decide +kernel) rfl, kin_X5⟩
theorem kp_X5_23 : gt_F RX5 23 5 3 (.array (.array .int)) true := ⟨_, _, _, tyX5, rfl, by decide, gt_mem 249 (by decide +kernel) rfl, tyX5_ok 3 (by decide), rfl, kin_X5, tyX5_ok, nmX5, (fun _ => rfl)⟩
theorem kf_X5_46 : gt_Fr RX5 46 5 4 := ⟨_, _, _, rfl, by decide, gt_mem 250 (by decide +kernel) rfl, kin_X5⟩
theorem kp_X5_46 : gt_F RX5 46 5 4 .int false := ⟨_, _, _, tyX5, rfl, by decide, gt_mem 250 (by decide +kernel) rfl, tyX5_ok 4 (by decide), rfl, kin_X5, tyX5_ok, nmX5, (fun q => by cases q)⟩
theorem kf_X5_35 : gt_Fr RX5 35 5 5 := ⟨_, _, _, rfl, by decide, gt_mem 251 (by decide +kernel) rfl, kin_X5⟩
theorem kp_X5_35 : gt_F RX5 35 5 5 .int false := ⟨_, _, _, tyX5, rfl, by decide, gt_mem 251 (by decide +kernel) rfl, tyX5_ok 5 (by decide), rfl, kin_X5, tyX5_ok, nmX5, (fun q => by cases q)⟩
theorem kf_X7_11 : gt_Fr RX7 11 7 0 := ⟨_, _, _, rfl, by decide, gt_mem 272 (by decide +kernel) rfl, kin_X7⟩
theorem kp_X7_11 : gt_F RX7 11 7 0 (.array (.array .int)) true := ⟨_, _, _, tyX7, rfl, by decide, gt_mem 272 (by decide +kernel) rfl, tyX7_ok 0 (by decide), rfl, kin_X7, tyX7_ok, nmX7, (fun _ => rfl)⟩
theorem kf_X2_10 : gt_Fr RX2 10 2 0 := ⟨_, _, _, rfl, by decide, gt_mem 283 (by decide +kernel) rfl, kin_X2⟩
theorem kp_X2_10 : gt_F RX2 10 2 0 (.object "GurdyTide$State") true := ⟨_, _, _, tyX2, rfl, by decide, gt_mem 283 (by decide +kernel) rfl, tyX2_ok 0 (by decide), rfl, kin_X2, tyX2_ok, nmX2, (fun _ => rfl)⟩
theorem kf_X9_306 : gt_Fr RX9 306 2 0 := ⟨_, _, _, rfl, by decide, gt_mem 284 (by decide +kernel) rfl, kin_X2⟩
theorem kf_X9_309 : gt_Fr RX9 309 2 1 := ⟨_, _, _, rfl, by decide, gt_mem 285 (by decide +kernel) rfl, kin_X2⟩
theorem kp_X9_309 : gt_F RX9 309 2 1 .int false := ⟨_, _, _, tyX2, rfl, by decide, gt_mem 285 (by decide +kernel) rfl, tyX2_ok 1 (by decide), rfl, kin_X2, tyX2_ok, nmX2, (fun q => by cases q)⟩
theorem kf_X9_109 : gt_Fr RX9 109 2 2 := ⟨_, _, _, rfl, by decide, gt_mem 286 (by decide +kernel) rfl, kin_X2⟩
theorem kp_X9_109 : gt_F RX9 109 2 2 .boolean false := ⟨_, _, _, tyX2, rfl, by decide, gt_mem 286 (by decide +kernel) rfl, tyX2_ok 2 (by decide), rfl, kin_X2, tyX2_ok, nmX2, (fun q => by cases q)⟩
theorem kf_X9_10 : gt_Fr RX9 10 9 0 := ⟨_, _, _, rfl, by decide, gt_mem 294 (by decide +kernel) rfl, kin_X9⟩
theorem kp_X9_10 : gt_F RX9 10 9 0 (.object "GurdyTide$Reader") true := ⟨_, _, _, tyX9, rfl, by decide, gt_mem 294 (by decide +kernel) rfl, tyX9_ok 0 (by decide), rfl, kin_X9, tyX9_ok, nmX9, (fun _ => rfl)⟩
theorem kf_X9_19 : gt_Fr RX9 19 9 1 := ⟨_, _, _, rfl, by decide, gt_mem 295 (by decide +kernel) rfl, kin_X9⟩
theorem kp_X9_19 : gt_F RX9 19 9 1 (.object "GurdyTide$Coast") false := ⟨_, _, _, tyX9, rfl, by decide, gt_mem 295 (by decide +kernel) rfl, tyX9_ok 1 (by decide), rfl, kin_X9, tyX9_ok, nmX9, (fun q => by cases q)⟩
theorem kf_X9_23 : gt_Fr RX9 23 9 2 := ⟨_, _, _, rfl, by decide, gt_mem 296 (by decide +kernel) rfl, kin_X9⟩
theorem kp_X9_23 : gt_F RX9 23 9 2 (.object "GurdyTide$Coast") false := ⟨_, _, _, tyX9, rfl, by decide, gt_mem 296 (by decide +kernel) rfl, tyX9_ok 2 (by decide), rfl, kin_X9, tyX9_ok, nmX9, (fun q => by cases q)⟩
theorem kf_X9_29 : gt_Fr RX9 29 9 3 := ⟨_, _, _, rfl, by decide, gt_mem 297 (by decide +kernel) rfl, kin_X9⟩
theorem kp_X9_29 : gt_F RX9 29 9 3 (.object "GurdyTide$State") true := ⟨_, _, _, tyX9, rfl, by decide, gt_mem 297 (by decide +kernel) rfl, tyX9_ok 3 (by decide), rfl, kin_X9, tyX9_ok, nmX9, (fun _ => rfl)⟩
theorem kf_X9_33 : gt_Fr RX9 33 9 4 := ⟨_, _, _, rfl, by decide, gt_mem 298 (by decide +kernel) rfl, kin_X9⟩
theorem kp_X9_33 : gt_F RX9 33 9 4 (.object "GurdyTide$State") true := ⟨_, _, _, tyX9, rfl, by decide, gt_mem 298 (by decide +kernel) rfl, tyX9_ok 4 (by decide), rfl, kin_X9, tyX9_ok, nmX9, (fun _ => rfl)⟩
theorem kf_X9_39 : gt_Fr RX9 39 9 5 := ⟨_, _, _, rfl, by decide, gt_mem 299 (by decide +kernel) rfl, kin_X9⟩
theorem kp_X9_39 : gt_F RX9 39 9 5 (.object "GurdyTide$Past") true := ⟨_, _, _, tyX9, rfl, by decide, gt_mem 299 (by decide +kernel) rfl, tyX9_ok 5 (by decide), rfl, kin_X9, tyX9_ok, nmX9, (fun _ => rfl)⟩
theorem kf_X9_45 : gt_Fr RX9 45 9 6 := ⟨_, _, _, rfl, by decide, gt_mem 300 (by decide +kernel) rfl, kin_X9⟩
theorem kp_X9_45 : gt_F RX9 45 9 6 (.array (.object "GurdyTide$Image")) true := ⟨_, _, _, tyX9, rfl, by decide, gt_mem 300 (by decide +kernel) rfl, tyX9_ok 6 (by decide), rfl, kin_X9, tyX9_ok, nmX9, (fun _ => rfl)⟩
theorem kf_X9_52 : gt_Fr RX9 52 9 7 := ⟨_, _, _, rfl, by decide, gt_mem 301 (by decide +kernel) rfl, kin_X9⟩
theorem kp_X9_52 : gt_F RX9 52 9 7 (.object "GurdyTide$Draws") true := ⟨_, _, _, tyX9, rfl, by decide, gt_mem 301 (by decide +kernel) rfl, tyX9_ok 7 (by decide), rfl, kin_X9, tyX9_ok, nmX9, (fun _ => rfl)⟩
theorem kf_X9_59 : gt_Fr RX9 59 9 8 := ⟨_, _, _, rfl, by decide, gt_mem 302 (by decide +kernel) rfl, kin_X9⟩
theorem kp_X9_59 : gt_F RX9 59 9 8 (.object "GurdyTide$Notes") true := ⟨_, _, _, tyX9, rfl, by decide, gt_mem 302 (by decide +kernel) rfl, tyX9_ok 8 (by decide), rfl, kin_X9, tyX9_ok, nmX9, (fun _ => rfl)⟩
theorem kf_X9_66 : gt_Fr RX9 66 9 9 := ⟨_, _, _, rfl, by decide, gt_mem 303 (by decide +kernel) rfl, kin_X9⟩
theorem kp_X9_66 : gt_F RX9 66 9 9 (.object "GurdyTide$Plan") true := ⟨_, _, _, tyX9, rfl, by decide, gt_mem 303 (by decide +kernel) rfl, tyX9_ok 9 (by decide), rfl, kin_X9, tyX9_ok, nmX9, (fun _ => rfl)⟩
theorem kf_X9_73 : gt_Fr RX9 73 9 10 := ⟨_, _, _, rfl, by decide, gt_mem 304 (by decide +kernel) rfl, kin_X9⟩
theorem kp_X9_73 : gt_F RX9 73 9 10 (.object "GurdyTide$Sleepers") true := ⟨_, _, _, tyX9, rfl, by decide, gt_mem 304 (by decide +kernel) rfl, tyX9_ok 10 (by decide), rfl, kin_X9, tyX9_ok, nmX9, (fun _ => rfl)⟩
theorem kf_X9_77 : gt_Fr RX9 77 9 11 := ⟨_, _, _, rfl, by decide, gt_mem 305 (by decide +kernel) rfl, kin_X9⟩
theorem kp_X9_77 : gt_F RX9 77 9 11 .int false := ⟨_, _, _, tyX9, rfl, by decide, gt_mem 305 (by decide +kernel) rfl, tyX9_ok 11 (by decide), rfl, kin_X9, tyX9_ok, nmX9, (fun q => by cases q)⟩
theorem kf_X10_7 : gt_Fr RX10 7 10 0 := ⟨_, _, _, rfl, by decide, gt_mem 817 (by decide +kernel) rfl, kin_X10⟩
theorem kp_X10_7 : gt_F RX10 7 10 0 (.array .int) true := ⟨_, _, _, tyX10, rfl, by decide, gt_mem 817 (by decide +kernel) rfl, tyX10_ok 0 (by decide), rfl, kin_X10, tyX10_ok, nmX10, (fun _ => rfl)⟩
theorem kf_X10_13 : gt_Fr RX10 13 10 1 := ⟨_, _, _, rfl, by decide, gt_mem 818 (by decide +kernel) rfl, kin_X10⟩
theorem kp_X10_13 : gt_F RX10 13 10 1 (.array .int) true := ⟨_, _, _, tyX10, rfl, by decide, gt_mem 818 (by decide +kernel) rfl, tyX10_ok 1 (by decide), rfl, kin_X10, tyX10_ok, nmX10, (fun _ => rfl)⟩
theorem kf_X10_16 : gt_Fr RX10 16 10 2 := ⟨_, _, _, rfl, by decide, gt_mem 819 (by decide +kernel) rfl, kin_X10⟩
theorem kp_X10_16 : gt_F RX10 16 10 2 (.array .int) true := ⟨_, _, _, tyX10, rfl, by decide, gt_mem 819 (by decide +kernel) rfl, tyX10_ok 2 (by decide), rfl, kin_X10, tyX10_ok, nmX10, (fun _ => rfl)⟩
theorem kf_X10_19 : gt_Fr RX10 19 10 3 := ⟨_, _, _, rfl, by decide, gt_mem 820 (by decide +kernel) rfl, kin_X10⟩
theorem kp_X10_19 : gt_F RX10 19 10 3 (.array .int) true := ⟨_, _, _, tyX10, rfl, by decide, gt_mem 820 (by decide +kernel) rfl, tyX10_ok 3 (by decide), rfl, kin_X10, tyX10_ok, nmX10, (fun _ => rfl)⟩
theorem kf_X10_22 : gt_Fr RX10 22 10 4 := ⟨_, _, _, rfl, by decide, gt_mem 821 (by decide +kernel) rfl, kin_X10⟩
theorem kp_X10_22 : gt_F RX10 22 10 4 (.array .int) true := ⟨_, _, _, tyX10, rfl, by decide, gt_mem 821 (by decide +kernel) rfl, tyX10_ok 4 (by decide), rfl, kin_X10, tyX10_ok, nmX10, (fun _ => rfl)⟩
theorem kf_X10_72 : gt_Fr RX10 72 10 5 := ⟨_, _, _, rfl, by decide, gt_mem 822 (by decide +kernel) rfl, kin_X10⟩
theorem kp_X10_72 : gt_F RX10 72 10 5 .int false := ⟨_, _, _, tyX10, rfl, by decide, gt_mem 822 (by decide +kernel) rfl, tyX10_ok 5 (by decide), rfl, kin_X10, tyX10_ok, nmX10, (fun q => by cases q)⟩
theorem kf_X10_25 : gt_Fr RX10 25 10 6 := ⟨_, _, _, rfl, by decide, gt_mem 823 (by decide +kernel) rfl, kin_X10⟩
theorem kp_X10_25 : gt_F RX10 25 10 6 (.array .int) true := ⟨_, _, _, tyX10, rfl, by decide, gt_mem 823 (by decide +kernel) rfl, tyX10_ok 6 (by decide), rfl, kin_X10, tyX10_ok, nmX10, (fun _ => rfl)⟩
theorem kf_X10_28 : gt_Fr RX10 28 10 7 := ⟨_, _, _, rfl, by decide, gt_mem 824 (by decide +kernel) rfl, kin_X10⟩
theorem kp_X10_28 : gt_F RX10 28 10 7 (.array .boolean) true := ⟨_, _, _, tyX10, rfl, by decide, gt_mem 824 (by decide +kernel) rfl, tyX10_ok 7 (by decide), rfl, kin_X10, tyX10_ok, nmX10, (fun _ => rfl)⟩
theorem kf_X10_237 : gt_Fr RX10 237 10 8 := ⟨_, _, _, rfl, by decide, gt_mem 825 (by decide +kernel) rfl, kin_X10⟩
theorem kp_X10_237 : gt_F RX10 237 10 8 .long false := ⟨_, _, _, tyX10, rfl, by decide, gt_mem 825 (by decide +kernel) rfl, tyX10_ok 8 (by decide), rfl, kin_X10, tyX10_ok, nmX10, (fun q => by cases q)⟩
theorem kf_X10_32 : gt_Fr RX10 32 10 9 := ⟨_, _, _, rfl, by decide, gt_mem 826 (by decide +kernel) rfl, kin_X10⟩
theorem kp_X10_32 : gt_F RX10 32 10 9 (.array .int) true := ⟨_, _, _, tyX10, rfl, by decide, gt_mem 826 (by decide +kernel) rfl, tyX10_ok 9 (by decide), rfl, kin_X10, tyX10_ok, nmX10, (fun _ => rfl)⟩
theorem kf_X10_87 : gt_Fr RX10 87 10 10 := ⟨_, _, _, rfl, by decide, gt_mem 827 (by decide +kernel) rfl, kin_X10⟩
theorem kp_X10_87 : gt_F RX10 87 10 10 .int false := ⟨_, _, _, tyX10, rfl, by decide, gt_mem 827 (by decide +kernel) rfl, tyX10_ok 10 (by decide), rfl, kin_X10, tyX10_ok, nmX10, (fun q => by cases q)⟩
theorem kf_X10_35 : gt_Fr RX10 35 10 11 := ⟨_, _, _, rfl, by decide, gt_mem 828 (by decide +kernel) rfl, kin_X10⟩
theorem kp_X10_35 : gt_F RX10 35 10 11 .int false := ⟨_, _, _, tyX10, rfl, by decide, gt_mem 828 (by decide +kernel) rfl, tyX10_ok 11 (by decide), rfl, kin_X10, tyX10_ok, nmX10, (fun q => by cases q)⟩
theorem kf_X10_39 : gt_Fr RX10 39 10 12 := ⟨_, _, _, rfl, by decide, gt_mem 829 (by decide +kernel) rfl, kin_X10⟩
theorem kp_X10_39 : gt_F RX10 39 10 12 (.array .int) true := ⟨_, _, _, tyX10, rfl, by decide, gt_mem 829 (by decide +kernel) rfl, tyX10_ok 12 (by decide), rfl, kin_X10, tyX10_ok, nmX10, (fun _ => rfl)⟩
theorem kf_X10_75 : gt_Fr RX10 75 10 13 := ⟨_, _, _, rfl, by decide, gt_mem 830 (by decide +kernel) rfl, kin_X10⟩
theorem kp_X10_75 : gt_F RX10 75 10 13 .int false := ⟨_, _, _, tyX10, rfl, by decide, gt_mem 830 (by decide +kernel) rfl, tyX10_ok 13 (by decide), rfl, kin_X10, tyX10_ok, nmX10, (fun q => by cases q)⟩
theorem kf_X10_42 : gt_Fr RX10 42 10 14 := ⟨_, _, _, rfl, by decide, gt_mem 831 (by decide +kernel) rfl, kin_X10⟩
theorem kp_X10_42 : gt_F RX10 42 10 14 (.array .int) true := ⟨_, _, _, tyX10, rfl, by decide, gt_mem 831 (by decide +kernel) rfl, tyX10_ok 14 (by decide), rfl, kin_X10, tyX10_ok, nmX10, (fun _ => rfl)⟩
theorem kf_X10_78 : gt_Fr RX10 78 10 15 := ⟨_, _, _, rfl, by decide, gt_mem 832 (by decide +kernel) rfl, kin_X10⟩
theorem kp_X10_78 : gt_F RX10 78 10 15 .int false := ⟨_, _, _, tyX10, rfl, by decide, gt_mem 832 (by decide +kernel) rfl, tyX10_ok 15 (by decide), rfl, kin_X10, tyX10_ok, nmX10, (fun q => by cases q)⟩
theorem kf_X10_45 : gt_Fr RX10 45 10 16 := ⟨_, _, _, rfl, by decide, gt_mem 833 (by decide +kernel) rfl, kin_X10⟩
theorem kp_X10_45 : gt_F RX10 45 10 16 (.array .int) true := ⟨_, _, _, tyX10, rfl, by decide, gt_mem 833 (by decide +kernel) rfl, tyX10_ok 16 (by decide), rfl, kin_X10, tyX10_ok, nmX10, (fun _ => rfl)⟩
theorem kf_X10_81 : gt_Fr RX10 81 10 17 := ⟨_, _, _, rfl, by decide, gt_mem 834 (by decide +kernel) rfl, kin_X10⟩
theorem kp_X10_81 : gt_F RX10 81 10 17 .int false := ⟨_, _, _, tyX10, rfl, by decide, gt_mem 834 (by decide +kernel) rfl, tyX10_ok 17 (by decide), rfl, kin_X10, tyX10_ok, nmX10, (fun q => by cases q)⟩
theorem kf_X10_91 : gt_Fr RX10 91 10 18 := ⟨_, _, _, rfl, by decide, gt_mem 835 (by decide +kernel) rfl, kin_X10⟩
theorem kp_X10_91 : gt_F RX10 91 10 18 .int false := ⟨_, _, _, tyX10, rfl, by decide, gt_mem 835 (by decide +kernel) rfl, tyX10_ok 18 (by decide), rfl, kin_X10, tyX10_ok, nmX10, (fun q => by cases q)⟩
theorem kf_X10_98 : gt_Fr RX10 98 10 19 := ⟨_, _, _, rfl, by decide, gt_mem 836 (by decide +kernel) rfl, kin_X10⟩
theorem kp_X10_98 : gt_F RX10 98 10 19 .int false := ⟨_, _, _, tyX10, rfl, by decide, gt_mem 836 (by decide +kernel) rfl, tyX10_ok 19 (by decide), rfl, kin_X10, tyX10_ok, nmX10, (fun q => by cases q)⟩
theorem kf_X10_101 : gt_Fr RX10 101 10 20 := ⟨_, _, _, rfl, by decide, gt_mem 837 (by decide +kernel) rfl, kin_X10⟩
theorem kp_X10_101 : gt_F RX10 101 10 20 .int false := ⟨_, _, _, tyX10, rfl, by decide, gt_mem 837 (by decide +kernel) rfl, tyX10_ok 20 (by decide), rfl, kin_X10, tyX10_ok, nmX10, (fun q => by cases q)⟩
theorem kf_X10_104 : gt_Fr RX10 104 10 21 := ⟨_, _, _, rfl, by decide, gt_mem 838 (by decide +kernel) rfl, kin_X10⟩
theorem kp_X10_104 : gt_F RX10 104 10 21 .int false := ⟨_, _, _, tyX10, rfl, by decide, gt_mem 838 (by decide +kernel) rfl, tyX10_ok 21 (by decide), rfl, kin_X10, tyX10_ok, nmX10, (fun q => by cases q)⟩
theorem kf_X10_107 : gt_Fr RX10 107 10 22 := ⟨_, _, _, rfl, by decide, gt_mem 839 (by decide +kernel) rfl, kin_X10⟩
theorem kp_X10_107 : gt_F RX10 107 10 22 .int false := ⟨_, _, _, tyX10, rfl, by decide, gt_mem 839 (by decide +kernel) rfl, tyX10_ok 22 (by decide), rfl, kin_X10, tyX10_ok, nmX10, (fun q => by cases q)⟩
theorem kf_X10_114 : gt_Fr RX10 114 10 23 := ⟨_, _, _, rfl, by decide, gt_mem 840 (by decide +kernel) rfl, kin_X10⟩
theorem kp_X10_114 : gt_F RX10 114 10 23 .int false := ⟨_, _, _, tyX10, rfl, by decide, gt_mem 840 (by decide +kernel) rfl, tyX10_ok 23 (by decide), rfl, kin_X10, tyX10_ok, nmX10, (fun q => by cases q)⟩
theorem kf_X10_48 : gt_Fr RX10 48 10 24 := ⟨_, _, _, rfl, by decide, gt_mem 841 (by decide +kernel) rfl, kin_X10⟩
theorem kp_X10_48 : gt_F RX10 48 10 24 (.array .int) true := ⟨_, _, _, tyX10, rfl, by decide, gt_mem 841 (by decide +kernel) rfl, tyX10_ok 24 (by decide), rfl, kin_X10, tyX10_ok, nmX10, (fun _ => rfl)⟩
theorem kf_X10_51 : gt_Fr RX10 51 10 25 := ⟨_, _, _, rfl, by decide, gt_mem 842 (by decide +kernel) rfl, kin_X10⟩
theorem kp_X10_51 : gt_F RX10 51 10 25 (.array .int) true := ⟨_, _, _, tyX10, rfl, by decide, gt_mem 842 (by decide +kernel) rfl, tyX10_ok 25 (by decide), rfl, kin_X10, tyX10_ok, nmX10, (fun _ => rfl)⟩
theorem kf_X10_260 : gt_Fr RX10 260 10 26 := ⟨_, _, _, rfl, by decide, gt_mem 843 (by decide +kernel) rfl, kin_X10⟩
theorem kp_X10_260 : gt_F RX10 260 10 26 .int false := ⟨_, _, _, tyX10, rfl, by decide, gt_mem 843 (by decide +kernel) rfl, tyX10_ok 26 (by decide), rfl, kin_X10, tyX10_ok, nmX10, (fun q => by cases q)⟩
theorem kf_X10_263 : gt_Fr RX10 263 10 27 := ⟨_, _, _, rfl, by decide, gt_mem 844 (by decide +kernel) rfl, kin_X10⟩
theorem kp_X10_263 : gt_F RX10 263 10 27 .int false := ⟨_, _, _, tyX10, rfl, by decide, gt_mem 844 (by decide +kernel) rfl, tyX10_ok 27 (by decide), rfl, kin_X10, tyX10_ok, nmX10, (fun q => by cases q)⟩
theorem kf_X10_54 : gt_Fr RX10 54 10 28 := ⟨_, _, _, rfl, by decide, gt_mem 845 (by decide +kernel) rfl, kin_X10⟩
theorem kp_X10_54 : gt_F RX10 54 10 28 (.array .int) true := ⟨_, _, _, tyX10, rfl, by decide, gt_mem 845 (by decide +kernel) rfl, tyX10_ok 28 (by decide), rfl, kin_X10, tyX10_ok, nmX10, (fun _ => rfl)⟩
theorem km_L_9 : Cond.methodLink RL 9 yX9_init ∈ gt_tbl := gt_mem 17 (by decide +kernel) rfl
theorem kv_X9_init : gt_I yX9_init cX9_init 2 0 := ⟨rfl, gt_mem 18 (by decide +kernel) rfl, gt_mem 1 (by decide +kernel) rfl, gt_mem 19 (by decide +kernel) rfl, ⟨by decide +kernel, by decide +kernel, by decide +kernel⟩, by decide⟩
theorem km_X9_1 : Cond.methodLink RX9 1 Lib.objectInit ∈ gt_tbl := gt_mem 20 (by decide +kernel) rfl
theorem kv_X6_init : gt_I yX6_init cX6_init 1 0 := ⟨rfl, gt_mem 26 (by decide +kernel) rfl, gt_mem 2 (by decide +kernel) rfl, gt_mem 27 (by decide +kernel) rfl, ⟨by decide +kernel, by decide +kernel, by decide +kernel⟩, by decide⟩
theorem km_X6_3 : Cond.methodLink RX6 3 Lib.objectInit ∈ gt_tbl := gt_mem 28 (by decide +kernel) rfl
theorem kv_X0_init : gt_I yX0_init cX0_init 1 0 := ⟨rfl, gt_mem 49 (by decide +kernel) rfl, gt_mem 3 (by decide +kernel) rfl, gt_mem 50 (by decide +kernel) rfl, ⟨by decide +kernel, by decide +kernel, by decide +kernel⟩, by decide⟩
theorem km_X0_3 : Cond.methodLink RX0 3 Lib.objectInit ∈ gt_tbl := gt_mem 51 (by decide +kernel) rfl
theorem kv_X8_init : gt_I yX8_init cX8_init 1 0 := ⟨rfl, gt_mem 128 (by decide +kernel) rfl, gt_mem 4 (by decide +kernel) rfl, gt_mem 129 (by decide +kernel) rfl, ⟨by decide +kernel, by decide +kernel, by decide +kernel⟩, by decide⟩
theorem km_X8_3 : Cond.methodLink RX8 3 Lib.objectInit ∈ gt_tbl := gt_mem 130 (by decide +kernel) rfl
theorem km_X9_38 : Cond.methodLink RX9 38 yX4_init ∈ gt_tbl := gt_mem 163 (by decide +kernel) rfl
theorem kv_X4_init : gt_I yX4_init cX4_init 2 0 := ⟨rfl, gt_mem 164 (by decide +kernel) rfl, gt_mem 5 (by decide +kernel) rfl, gt_mem 165 (by decide +kernel) rfl, ⟨by decide +kernel, by decide +kernel, by decide +kernel⟩, by decide⟩
theorem km_X4_3 : Cond.methodLink RX4 3 Lib.objectInit ∈ gt_tbl := gt_mem 166 (by decide +kernel) rfl
theorem kv_X1_init : gt_I yX1_init cX1_init 1 0 := ⟨rfl, gt_mem 186 (by decide +kernel) rfl, gt_mem 6 (by decide +kernel) rfl, gt_mem 187 (by decide +kernel) rfl, ⟨by decide +kernel, by decide +kernel, by decide +kernel⟩, by decide⟩
theorem km_X1_3 : Cond.methodLink RX1 3 Lib.objectInit ∈ gt_tbl := gt_mem 188 (by decide +kernel) rfl
theorem kv_X3_init : gt_I yX3_init cX3_init 1 0 := ⟨rfl, gt_mem 197 (by decide +kernel) rfl, gt_mem 7 (by decide +kernel) rfl, gt_mem 198 (by decide +kernel) rfl, ⟨by decide +kernel, by decide +kernel, by decide +kernel⟩, by decide⟩
theorem km_X3_3 : Cond.methodLink RX3 3 Lib.objectInit ∈ gt_tbl := gt_mem 199 (by decide +kernel) rfl
theorem kv_X5_init : gt_I yX5_init cX5_init 1 0 := ⟨rfl, gt_mem 240 (by decide +kernel) rfl, gt_mem 8 (by decide +kernel) rfl, gt_mem 241 (by decide +kernel) rfl, ⟨by decide +kernel, by decide +kernel, by decide +kernel⟩, by decide⟩
theorem km_X5_3 : Cond.methodLink RX5 3 Lib.objectInit ∈ gt_tbl := gt_mem 242 (by decide +kernel) rfl
theorem kv_X7_init : gt_I yX7_init cX7_init 1 0 := ⟨rfl, gt_mem 268 (by decide +kernel) rfl, gt_mem 9 (by decide +kernel) rfl, gt_mem 269 (by decide +kernel) rfl, ⟨by decide +kernel, by decide +kernel, by decide +kernel⟩, by decide⟩
theorem km_X7_3 : Cond.methodLink RX7 3 Lib.objectInit ∈ gt_tbl := gt_mem 270 (by decide +kernel) rfl
theorem kv_X2_init : gt_I yX2_init cX2_init 1 0 := ⟨rfl, gt_mem 278 (by decide +kernel) rfl, gt_mem 10 (by decide +kernel) rfl, gt_mem 279 (by decide +kernel) rfl, ⟨by decide +kernel, by decide +kernel, by decide +kernel⟩, by decide⟩
theorem km_X2_1 : Cond.methodLink RX2 1 Lib.objectInit ∈ gt_tbl := gt_mem 280 (by decide +kernel) rfl
theorem km_L_13 : Cond.methodLink RL 13 yX9_feed ∈ gt_tbl := gt_mem 331 (by decide +kernel) rfl
theorem kv_X9_feed : gt_V yX9_feed cX9_feed 2 (some .int) 1 := ⟨gt_mem 332 (by decide +kernel) rfl, gt_mem 333 (by decide +kernel) rfl, gt_mem 1 (by decide +kernel) rfl, gt_mem 334 (by decide +kernel) rfl, ⟨by decide +kernel, by decide +kernel, by decide +kernel⟩, by decide⟩
theorem km_X9_82 : Cond.methodLink RX9 82 yX9_within ∈ gt_tbl := gt_mem 335 (by decide +kernel) rfl
theorem kv_X9_within : gt_S yX9_within cX9_within 3 (some .boolean) 3 := ⟨gt_mem 336 (by decide +kernel) rfl, gt_mem 1 (by decide +kernel) rfl, gt_mem 337 (by decide +kernel) rfl, ⟨by decide +kernel, by decide +kernel, by decide +kernel⟩, by decide⟩
theorem kc_X9_86 : Cond.constant RX9 86 (-1000000002) ∈ gt_tbl := gt_mem 338 (by decide +kernel) rfl
theorem km_X9_87 : Cond.methodLink RX9 87 yX6_add ∈ gt_tbl := gt_mem 339 (by decide +kernel) rfl
theorem kv_X6_add : gt_V yX6_add cX6_add 2 (some .int) 1 := ⟨gt_mem 340 (by decide +kernel) rfl, gt_mem 341 (by decide +kernel) rfl, gt_mem 2 (by decide +kernel) rfl, gt_mem 342 (by decide +kernel) rfl, ⟨by decide +kernel, by decide +kernel, by decide +kernel⟩, by decide⟩
theorem kc_X6_22 : Cond.constant RX6 22 (-1000000004) ∈ gt_tbl := gt_mem 343 (by decide +kernel) rfl
theorem km_L_18 : Cond.methodLink RL 18 yX9_coast ∈ gt_tbl := gt_mem 344 (by decide +kernel) rfl
theorem kv_X9_coast : gt_V yX9_coast cX9_coast 4 (some .int) 0 := ⟨gt_mem 345 (by decide +kernel) rfl, gt_mem 346 (by decide +kernel) rfl, gt_mem 1 (by decide +kernel) rfl, gt_mem 347 (by decide +kernel) rfl, ⟨by decide +kernel, by decide +kernel, by decide +kernel⟩, by decide⟩
theorem km_X9_91 : Cond.methodLink RX9 91 yX6_readInto ∈ gt_tbl := gt_mem 348 (by decide +kernel) rfl
theorem kv_X6_readInto : gt_V yX6_readInto cX6_readInto 3 (some .int) 1 := ⟨gt_mem 349 (by decide +kernel) rfl, gt_mem 350 (by decide +kernel) rfl, gt_mem 2 (by decide +kernel) rfl, gt_mem 351 (by decide +kernel) rfl, ⟨by decide +kernel, by decide +kernel, by decide +kernel⟩, by decide⟩
theorem km_X6_29 : Cond.methodLink RX6 29 yX0_clear ∈ gt_tbl := gt_mem 352 (by decide +kernel) rfl
theorem kv_X0_clear : gt_V yX0_clear cX0_clear 1 none 0 := ⟨gt_mem 353 (by decide +kernel) rfl, gt_mem 354 (by decide +kernel) rfl, gt_mem 3 (by decide +kernel) rfl, gt_mem 355 (by decide +kernel) rfl, ⟨by decide +kernel, by decide +kernel, by decide +kernel⟩, by decide⟩
theorem km_X6_34 : Cond.methodLink RX6 34 yX6_moreComes ∈ gt_tbl := gt_mem 356 (by decide +kernel) rfl
theorem kv_X6_moreComes : gt_V yX6_moreComes cX6_moreComes 1 (some .boolean) 0 := ⟨gt_mem 358 (by decide +kernel) rfl, gt_memp (y := yX6_moreComes) (c := 5) 0 (by decide +kernel), gt_mem 2 (by decide +kernel) rfl, gt_mem 359 (by decide +kernel) rfl, ⟨by decide +kernel, by decide +kernel, by decide +kernel⟩, by decide⟩
theorem km_X6_38 : Cond.methodLink RX6 38 yX6_readCells ∈ gt_tbl := gt_mem 360 (by decide +kernel) rfl
theorem kv_X6_readCells : gt_V yX6_readCells cX6_readCells 3 none 1 := ⟨gt_mem 362 (by decide +kernel) rfl, gt_memp (y := yX6_readCells) (c := 5) 1 (by decide +kernel), gt_mem 2 (by decide +kernel) rfl, gt_mem 363 (by decide +kernel) rfl, ⟨by decide +kernel, by decide +kernel, by decide +kernel⟩, by decide⟩
theorem km_X6_45 : Cond.methodLink RX6 45 yX6_takeSign ∈ gt_tbl := gt_mem 364 (by decide +kernel) rfl
theorem kv_X6_takeSign : gt_V yX6_takeSign cX6_takeSign 2 none 1 := ⟨gt_mem 366 (by decide +kernel) rfl, gt_memp (y := yX6_takeSign) (c := 5) 2 (by decide +kernel), gt_mem 2 (by decide +kernel) rfl, gt_mem 367 (by decide +kernel) rfl, ⟨by decide +kernel, by decide +kernel, by decide +kernel⟩, by decide⟩
theorem km_X6_59 : Cond.methodLink RX6 59 yX6_nextIs ∈ gt_tbl := gt_mem 368 (by decide +kernel) rfl
theorem kv_X6_nextIs : gt_V yX6_nextIs cX6_nextIs 2 (some .boolean) 1 := ⟨gt_mem 370 (by decide +kernel) rfl, gt_memp (y := yX6_nextIs) (c := 5) 3 (by decide +kernel), gt_mem 2 (by decide +kernel) rfl, gt_mem 371 (by decide +kernel) rfl, ⟨by decide +kernel, by decide +kernel, by decide +kernel⟩, by decide⟩
theorem km_X6_63 : Cond.methodLink RX6 63 yX6_fail ∈ gt_tbl := gt_mem 372 (by decide +kernel) rfl
theorem kv_X6_fail : gt_V yX6_fail cX6_fail 3 none 2 := ⟨gt_mem 374 (by decide +kernel) rfl, gt_memp (y := yX6_fail) (c := 5) 4 (by decide +kernel), gt_mem 2 (by decide +kernel) rfl, gt_mem 375 (by decide +kernel) rfl, ⟨by decide +kernel, by decide +kernel, by decide +kernel⟩, by decide⟩
theorem km_X6_52 : Cond.methodLink RX6 52 yX6_takeNumber ∈ gt_tbl := gt_mem 376 (by decide +kernel) rfl
theorem kv_X6_takeNumber : gt_V yX6_takeNumber cX6_takeNumber 5 (some .int) 2 := ⟨gt_mem 378 (by decide +kernel) rfl, gt_memp (y := yX6_takeNumber) (c := 5) 5 (by decide +kernel), gt_mem 2 (by decide +kernel) rfl, gt_mem 379 (by decide +kernel) rfl, ⟨by decide +kernel, by decide +kernel, by decide +kernel⟩, by decide⟩
theorem km_X6_103 : Cond.methodLink RX6 103 yX6_isFigure ∈ gt_tbl := gt_mem 380 (by decide +kernel) rfl
theorem kv_X6_isFigure : gt_S yX6_isFigure cX6_isFigure 1 (some .boolean) 1 := ⟨gt_mem 381 (by decide +kernel) rfl, gt_mem 2 (by decide +kernel) rfl, gt_mem 382 (by decide +kernel) rfl, ⟨by decide +kernel, by decide +kernel, by decide +kernel⟩, by decide⟩
theorem km_X6_42 : Cond.methodLink RX6 42 yX6_readClause ∈ gt_tbl := gt_mem 383 (by decide +kernel) rfl
theorem kv_X6_readClause : gt_V yX6_readClause cX6_readClause 2 none 1 := ⟨gt_mem 385 (by decide +kernel) rfl, gt_memp (y := yX6_readClause) (c := 5) 6 (by decide +kernel), gt_mem 2 (by decide +kernel) rfl, gt_mem 386 (by decide +kernel) rfl, ⟨by decide +kernel, by decide +kernel, by decide +kernel⟩, by decide⟩
theorem km_X6_67 : Cond.methodLink RX6 67 yX6_readTower ∈ gt_tbl := gt_mem 387 (by decide +kernel) rfl
theorem kv_X6_readTower : gt_V yX6_readTower cX6_readTower 3 none 1 := ⟨gt_mem 389 (by decide +kernel) rfl, gt_memp (y := yX6_readTower) (c := 5) 7 (by decide +kernel), gt_mem 2 (by decide +kernel) rfl, gt_mem 390 (by decide +kernel) rfl, ⟨by decide +kernel, by decide +kernel, by decide +kernel⟩, by decide⟩
theorem km_X6_70 : Cond.methodLink RX6 70 yX6_readPlayer ∈ gt_tbl := gt_mem 391 (by decide +kernel) rfl
theorem kv_X6_readPlayer : gt_V yX6_readPlayer cX6_readPlayer 3 none 1 := ⟨gt_mem 393 (by decide +kernel) rfl, gt_memp (y := yX6_readPlayer) (c := 5) 8 (by decide +kernel), gt_mem 2 (by decide +kernel) rfl, gt_mem 394 (by decide +kernel) rfl, ⟨by decide +kernel, by decide +kernel, by decide +kernel⟩, by decide⟩
theorem km_X6_73 : Cond.methodLink RX6 73 yX6_readBoat ∈ gt_tbl := gt_mem 395 (by decide +kernel) rfl
theorem kv_X6_readBoat : gt_V yX6_readBoat cX6_readBoat 3 none 1 := ⟨gt_mem 397 (by decide +kernel) rfl, gt_memp (y := yX6_readBoat) (c := 5) 9 (by decide +kernel), gt_mem 2 (by decide +kernel) rfl, gt_mem 398 (by decide +kernel) rfl, ⟨by decide +kernel, by decide +kernel, by decide +kernel⟩, by decide⟩
theorem km_X9_95 : Cond.methodLink RX9 95 yX6_faultPlace ∈ gt_tbl := gt_mem 399 (by decide +kernel) rfl
theorem kv_X6_faultPlace : gt_V yX6_faultPlace cX6_faultPlace 1 (some .int) 0 := ⟨gt_mem 400 (by decide +kernel) rfl, gt_mem 401 (by decide +kernel) rfl, gt_mem 2 (by decide +kernel) rfl, gt_mem 402 (by decide +kernel) rfl, ⟨by decide +kernel, by decide +kernel, by decide +kernel⟩, by decide⟩
theorem km_X9_99 : Cond.methodLink RX9 99 yX8_begin ∈ gt_tbl := gt_mem 403 (by decide +kernel) rfl
theorem kv_X8_begin : gt_V yX8_begin cX8_begin 3 none 1 := ⟨gt_mem 404 (by decide +kernel) rfl, gt_mem 405 (by decide +kernel) rfl, gt_mem 4 (by decide +kernel) rfl, gt_mem 406 (by decide +kernel) rfl, ⟨by decide +kernel, by decide +kernel, by decide +kernel⟩, by decide⟩
theorem km_X8_31 : Cond.methodLink RX8 31 yJ7_fill_53178 ∈ gt_tbl := gt_mem 407 (by decide +kernel) rfl
theorem kv_J7_fill_53178 : gt_S yJ7_fill_53178 cJ7_fill_53178 4 none 2 := ⟨gt_mem 408 (by decide +kernel) rfl, gt_mem 12 (by decide +kernel) rfl, gt_mem 409 (by decide +kernel) rfl, ⟨by decide +kernel, by decide +kernel, by decide +kernel⟩, by decide⟩
theorem km_X9_103 : Cond.methodLink RX9 103 yX4_forget ∈ gt_tbl := gt_mem 410 (by decide +kernel) rfl
theorem kv_X4_forget : gt_V yX4_forget cX4_forget 1 none 0 := ⟨gt_mem 411 (by decide +kernel) rfl, gt_mem 412 (by decide +kernel) rfl, gt_mem 5 (by decide +kernel) rfl, gt_mem 413 (by decide +kernel) rfl, ⟨by decide +kernel, by decide +kernel, by decide +kernel⟩, by decide⟩
theorem km_X9_106 : Cond.methodLink RX9 106 yX3_clear ∈ gt_tbl := gt_mem 414 (by decide +kernel) rfl
theorem kv_X3_clear : gt_V yX3_clear cX3_clear 1 none 0 := ⟨gt_mem 415 (by decide +kernel) rfl, gt_mem 416 (by decide +kernel) rfl, gt_mem 7 (by decide +kernel) rfl, gt_mem 417 (by decide +kernel) rfl, ⟨by decide +kernel, by decide +kernel, by decide +kernel⟩, by decide⟩
theorem km_L_23 : Cond.methodLink RL 23 yX9_fault ∈ gt_tbl := gt_mem 418 (by decide +kernel) rfl
theorem kv_X9_fault : gt_V yX9_fault cX9_fault 1 (some .int) 0 := ⟨gt_mem 419 (by decide +kernel) rfl, gt_mem 420 (by decide +kernel) rfl, gt_mem 1 (by decide +kernel) rfl, gt_mem 421 (by decide +kernel) rfl, ⟨by decide +kernel, by decide +kernel, by decide +kernel⟩, by decide⟩
theorem km_L_27 : Cond.methodLink RL 27 yX9_told ∈ gt_tbl := gt_mem 422 (by decide +kernel) rfl
theorem kv_X9_told : gt_V yX9_told cX9_told 2 (some .int) 1 := ⟨gt_mem 423 (by decide +kernel) rfl, gt_mem 424 (by decide +kernel) rfl, gt_mem 1 (by decide +kernel) rfl, gt_mem 425 (by decide +kernel) rfl, ⟨by decide +kernel, by decide +kernel, by decide +kernel⟩, by decide⟩
theorem km_X9_125 : Cond.methodLink RX9 125 yX6_letters ∈ gt_tbl := gt_mem 426 (by decide +kernel) rfl
theorem kv_X6_letters : gt_V yX6_letters cX6_letters 1 (some .int) 0 := ⟨gt_mem 427 (by decide +kernel) rfl, gt_mem 428 (by decide +kernel) rfl, gt_mem 2 (by decide +kernel) rfl, gt_mem 429 (by decide +kernel) rfl, ⟨by decide +kernel, by decide +kernel, by decide +kernel⟩, by decide⟩
theorem km_X9_131 : Cond.methodLink RX9 131 yX8_slope ∈ gt_tbl := gt_mem 430 (by decide +kernel) rfl
theorem kv_X8_slope : gt_V yX8_slope cX8_slope 3 (some .int) 1 := ⟨gt_mem 431 (by decide +kernel) rfl, gt_mem 432 (by decide +kernel) rfl, gt_mem 4 (by decide +kernel) rfl, gt_mem 433 (by decide +kernel) rfl, ⟨by decide +kernel, by decide +kernel, by decide +kernel⟩, by decide⟩
theorem km_X8_113 : Cond.methodLink RX8 113 yX8_steepest ∈ gt_tbl := gt_mem 434 (by decide +kernel) rfl
theorem kv_X8_steepest : gt_V yX8_steepest cX8_steepest 6 (some .int) 1 := ⟨gt_mem 435 (by decide +kernel) rfl, gt_mem 436 (by decide +kernel) rfl, gt_mem 4 (by decide +kernel) rfl, gt_mem 437 (by decide +kernel) rfl, ⟨by decide +kernel, by decide +kernel, by decide +kernel⟩, by decide⟩
theorem km_X8_110 : Cond.methodLink RX8 110 yX8_unlikeness ∈ gt_tbl := gt_mem 438 (by decide +kernel) rfl
theorem kv_X8_unlikeness : gt_V yX8_unlikeness cX8_unlikeness 3 (some .int) 2 := ⟨gt_mem 440 (by decide +kernel) rfl, gt_memp (y := yX8_unlikeness) (c := 6) 10 (by decide +kernel), gt_mem 4 (by decide +kernel) rfl, gt_mem 441 (by decide +kernel) rfl, ⟨by decide +kernel, by decide +kernel, by decide +kernel⟩, by decide⟩
theorem km_X8_101 : Cond.methodLink RX8 101 yX8_seaAt ∈ gt_tbl := gt_mem 442 (by decide +kernel) rfl
theorem kv_X8_seaAt : gt_V yX8_seaAt cX8_seaAt 5 (some .int) 2 := ⟨gt_mem 443 (by decide +kernel) rfl, gt_mem 444 (by decide +kernel) rfl, gt_mem 4 (by decide +kernel) rfl, gt_mem 445 (by decide +kernel) rfl, ⟨by decide +kernel, by decide +kernel, by decide +kernel⟩, by decide⟩
theorem km_X8_98 : Cond.methodLink RX8 98 yX0_bears ∈ gt_tbl := gt_mem 446 (by decide +kernel) rfl
theorem kv_X0_bears : gt_V yX0_bears cX0_bears 4 (some .int) 3 := ⟨gt_mem 447 (by decide +kernel) rfl, gt_mem 448 (by decide +kernel) rfl, gt_mem 3 (by decide +kernel) rfl, gt_mem 449 (by decide +kernel) rfl, ⟨by decide +kernel, by decide +kernel, by decide +kernel⟩, by decide⟩
theorem km_X0_46 : Cond.methodLink RX0 46 Lib.Math.abs.name ∈ gt_tbl := gt_mem 450 (by decide +kernel) rfl
theorem km_X0_52 : Cond.methodLink RX0 52 Lib.Math.max.name ∈ gt_tbl := gt_mem 453 (by decide +kernel) rfl
theorem km_X8_117 : Cond.methodLink RX8 117 Lib.Math.abs.name ∈ gt_tbl := gt_mem 456 (by decide +kernel) rfl
theorem km_X9_134 : Cond.methodLink RX9 134 yX8_steepest ∈ gt_tbl := gt_mem 457 (by decide +kernel) rfl
theorem km_X9_137 : Cond.methodLink RX9 137 yX8_wet ∈ gt_tbl := gt_mem 458 (by decide +kernel) rfl
theorem kv_X8_wet : gt_V yX8_wet cX8_wet 4 (some .int) 1 := ⟨gt_mem 459 (by decide +kernel) rfl, gt_mem 460 (by decide +kernel) rfl, gt_mem 4 (by decide +kernel) rfl, gt_mem 461 (by decide +kernel) rfl, ⟨by decide +kernel, by decide +kernel, by decide +kernel⟩, by decide⟩
theorem km_X8_91 : Cond.methodLink RX8 91 yX8_depthAt ∈ gt_tbl := gt_mem 462 (by decide +kernel) rfl
theorem kv_X8_depthAt : gt_V yX8_depthAt cX8_depthAt 3 (some .int) 2 := ⟨gt_mem 463 (by decide +kernel) rfl, gt_mem 464 (by decide +kernel) rfl, gt_mem 4 (by decide +kernel) rfl, gt_mem 465 (by decide +kernel) rfl, ⟨by decide +kernel, by decide +kernel, by decide +kernel⟩, by decide⟩
theorem km_X8_82 : Cond.methodLink RX8 82 Lib.Math.max.name ∈ gt_tbl := gt_mem 466 (by decide +kernel) rfl
theorem km_X9_140 : Cond.methodLink RX9 140 yX8_aground ∈ gt_tbl := gt_mem 467 (by decide +kernel) rfl
theorem kv_X8_aground : gt_V yX8_aground cX8_aground 4 (some .int) 1 := ⟨gt_mem 468 (by decide +kernel) rfl, gt_mem 469 (by decide +kernel) rfl, gt_mem 4 (by decide +kernel) rfl, gt_mem 470 (by decide +kernel) rfl, ⟨by decide +kernel, by decide +kernel, by decide +kernel⟩, by decide⟩
theorem km_X9_143 : Cond.methodLink RX9 143 yX8_arrived ∈ gt_tbl := gt_mem 471 (by decide +kernel) rfl
theorem kv_X8_arrived : gt_V yX8_arrived cX8_arrived 4 (some .int) 1 := ⟨gt_mem 472 (by decide +kernel) rfl, gt_mem 473 (by decide +kernel) rfl, gt_mem 4 (by decide +kernel) rfl, gt_mem 474 (by decide +kernel) rfl, ⟨by decide +kernel, by decide +kernel, by decide +kernel⟩, by decide⟩
theorem km_X9_146 : Cond.methodLink RX9 146 yX8_sitting ∈ gt_tbl := gt_mem 475 (by decide +kernel) rfl
theorem kv_X8_sitting : gt_V yX8_sitting cX8_sitting 4 (some .int) 1 := ⟨gt_mem 476 (by decide +kernel) rfl, gt_mem 477 (by decide +kernel) rfl, gt_mem 4 (by decide +kernel) rfl, gt_mem 478 (by decide +kernel) rfl, ⟨by decide +kernel, by decide +kernel, by decide +kernel⟩, by decide⟩
theorem km_X9_155 : Cond.methodLink RX9 155 yX7_fitting ∈ gt_tbl := gt_mem 479 (by decide +kernel) rfl
theorem kv_X7_fitting : gt_V yX7_fitting cX7_fitting 7 (some .int) 4 := ⟨gt_mem 480 (by decide +kernel) rfl, gt_mem 481 (by decide +kernel) rfl, gt_mem 9 (by decide +kernel) rfl, gt_mem 482 (by decide +kernel) rfl, ⟨by decide +kernel, by decide +kernel, by decide +kernel⟩, by decide⟩
theorem km_X7_28 : Cond.methodLink RX7 28 yX7_fits ∈ gt_tbl := gt_mem 483 (by decide +kernel) rfl
theorem kv_X7_fits : gt_V yX7_fits cX7_fits 8 (some .boolean) 5 := ⟨gt_mem 485 (by decide +kernel) rfl, gt_memp (y := yX7_fits) (c := 1) 11 (by decide +kernel), gt_mem 9 (by decide +kernel) rfl, gt_mem 486 (by decide +kernel) rfl, ⟨by decide +kernel, by decide +kernel, by decide +kernel⟩, by decide⟩
theorem km_X7_32 : Cond.methodLink RX7 32 yX7_beginAsleep ∈ gt_tbl := gt_mem 487 (by decide +kernel) rfl
theorem kv_X7_beginAsleep : gt_V yX7_beginAsleep cX7_beginAsleep 4 none 3 := ⟨gt_mem 489 (by decide +kernel) rfl, gt_memp (y := yX7_beginAsleep) (c := 1) 12 (by decide +kernel), gt_mem 9 (by decide +kernel) rfl, gt_mem 490 (by decide +kernel) rfl, ⟨by decide +kernel, by decide +kernel, by decide +kernel⟩, by decide⟩
theorem km_X7_50 : Cond.methodLink RX7 50 yX8_copy ∈ gt_tbl := gt_mem 491 (by decide +kernel) rfl
theorem kv_X8_copy : gt_V yX8_copy cX8_copy 2 none 1 := ⟨gt_mem 492 (by decide +kernel) rfl, gt_mem 493 (by decide +kernel) rfl, gt_mem 4 (by decide +kernel) rfl, gt_mem 494 (by decide +kernel) rfl, ⟨by decide +kernel, by decide +kernel, by decide +kernel⟩, by decide⟩
theorem km_X8_45 : Cond.methodLink RX8 45 arraycopyName ∈ gt_tbl := gt_mem 495 (by decide +kernel) rfl
theorem km_X7_36 : Cond.methodLink RX7 36 yX3_lastMark ∈ gt_tbl := gt_mem 498 (by decide +kernel) rfl
theorem kv_X3_lastMark : gt_V yX3_lastMark cX3_lastMark 3 (some .int) 0 := ⟨gt_mem 499 (by decide +kernel) rfl, gt_mem 500 (by decide +kernel) rfl, gt_mem 7 (by decide +kernel) rfl, gt_mem 501 (by decide +kernel) rfl, ⟨by decide +kernel, by decide +kernel, by decide +kernel⟩, by decide⟩
theorem km_X3_47 : Cond.methodLink RX3 47 Lib.Math.max.name ∈ gt_tbl := gt_mem 502 (by decide +kernel) rfl
theorem km_X7_42 : Cond.methodLink RX7 42 yX8_wind ∈ gt_tbl := gt_mem 503 (by decide +kernel) rfl
theorem kv_X8_wind : gt_V yX8_wind cX8_wind 5 none 1 := ⟨gt_mem 504 (by decide +kernel) rfl, gt_mem 505 (by decide +kernel) rfl, gt_mem 4 (by decide +kernel) rfl, gt_mem 506 (by decide +kernel) rfl, ⟨by decide +kernel, by decide +kernel, by decide +kernel⟩, by decide⟩
theorem km_X8_62 : Cond.methodLink RX8 62 yX0_hasTower ∈ gt_tbl := gt_mem 507 (by decide +kernel) rfl
theorem kv_X0_hasTower : gt_V yX0_hasTower cX0_hasTower 2 (some .boolean) 1 := ⟨gt_mem 508 (by decide +kernel) rfl, gt_mem 509 (by decide +kernel) rfl, gt_mem 3 (by decide +kernel) rfl, gt_mem 510 (by decide +kernel) rfl, ⟨by decide +kernel, by decide +kernel, by decide +kernel⟩, by decide⟩
theorem km_X8_66 : Cond.methodLink RX8 66 yX8_sleeps ∈ gt_tbl := gt_mem 511 (by decide +kernel) rfl
theorem kv_X8_sleeps : gt_V yX8_sleeps cX8_sleeps 2 (some .boolean) 1 := ⟨gt_mem 512 (by decide +kernel) rfl, gt_mem 513 (by decide +kernel) rfl, gt_mem 4 (by decide +kernel) rfl, gt_mem 514 (by decide +kernel) rfl, ⟨by decide +kernel, by decide +kernel, by decide +kernel⟩, by decide⟩
theorem km_X8_72 : Cond.methodLink RX8 72 yX8_woundMore ∈ gt_tbl := gt_mem 515 (by decide +kernel) rfl
theorem kv_X8_woundMore : gt_S yX8_woundMore cX8_woundMore 3 (some .int) 3 := ⟨gt_mem 516 (by decide +kernel) rfl, gt_mem 4 (by decide +kernel) rfl, gt_mem 517 (by decide +kernel) rfl, ⟨by decide +kernel, by decide +kernel, by decide +kernel⟩, by decide⟩
theorem km_X8_76 : Cond.methodLink RX8 76 Lib.Math.min.name ∈ gt_tbl := gt_mem 518 (by decide +kernel) rfl
theorem km_X7_46 : Cond.methodLink RX7 46 yX3_marksAreSo ∈ gt_tbl := gt_mem 521 (by decide +kernel) rfl
theorem kv_X3_marksAreSo : gt_V yX3_marksAreSo cX3_marksAreSo 5 (some .boolean) 3 := ⟨gt_mem 522 (by decide +kernel) rfl, gt_mem 523 (by decide +kernel) rfl, gt_mem 7 (by decide +kernel) rfl, gt_mem 524 (by decide +kernel) rfl, ⟨by decide +kernel, by decide +kernel, by decide +kernel⟩, by decide⟩
theorem km_X3_53 : Cond.methodLink RX3 53 yX8_seaAt ∈ gt_tbl := gt_mem 525 (by decide +kernel) rfl
theorem km_X9_162 : Cond.methodLink RX9 162 yX3_guts ∈ gt_tbl := gt_mem 526 (by decide +kernel) rfl
theorem kv_X3_guts : gt_V yX3_guts cX3_guts 3 (some .int) 0 := ⟨gt_mem 527 (by decide +kernel) rfl, gt_mem 528 (by decide +kernel) rfl, gt_mem 7 (by decide +kernel) rfl, gt_mem 529 (by decide +kernel) rfl, ⟨by decide +kernel, by decide +kernel, by decide +kernel⟩, by decide⟩
theorem km_X3_59 : Cond.methodLink RX3 59 yX3_seenIsSo ∈ gt_tbl := gt_mem 530 (by decide +kernel) rfl
theorem kv_X3_seenIsSo : gt_V yX3_seenIsSo cX3_seenIsSo 3 (some .boolean) 1 := ⟨gt_mem 532 (by decide +kernel) rfl, gt_memp (y := yX3_seenIsSo) (c := 11) 13 (by decide +kernel), gt_mem 7 (by decide +kernel) rfl, gt_mem 533 (by decide +kernel) rfl, ⟨by decide +kernel, by decide +kernel, by decide +kernel⟩, by decide⟩
theorem km_L_31 : Cond.methodLink RL 31 yX9_cell ∈ gt_tbl := gt_mem 534 (by decide +kernel) rfl
theorem kv_X9_cell : gt_V yX9_cell cX9_cell 3 (some .int) 2 := ⟨gt_mem 535 (by decide +kernel) rfl, gt_mem 536 (by decide +kernel) rfl, gt_mem 1 (by decide +kernel) rfl, gt_mem 537 (by decide +kernel) rfl, ⟨by decide +kernel, by decide +kernel, by decide +kernel⟩, by decide⟩
theorem km_X9_171 : Cond.methodLink RX9 171 yX0_hasCell ∈ gt_tbl := gt_mem 538 (by decide +kernel) rfl
theorem kv_X0_hasCell : gt_V yX0_hasCell cX0_hasCell 2 (some .boolean) 1 := ⟨gt_mem 539 (by decide +kernel) rfl, gt_mem 540 (by decide +kernel) rfl, gt_mem 3 (by decide +kernel) rfl, gt_mem 541 (by decide +kernel) rfl, ⟨by decide +kernel, by decide +kernel, by decide +kernel⟩, by decide⟩
theorem kc_X9_175 : Cond.constant RX9 175 (-1000000001) ∈ gt_tbl := gt_mem 542 (by decide +kernel) rfl
theorem km_X9_180 : Cond.methodLink RX9 180 yX8_seaAt ∈ gt_tbl := gt_mem 543 (by decide +kernel) rfl
theorem km_X9_184 : Cond.methodLink RX9 184 yX8_depthAt ∈ gt_tbl := gt_mem 544 (by decide +kernel) rfl
theorem km_X9_187 : Cond.methodLink RX9 187 yX8_strongest ∈ gt_tbl := gt_mem 545 (by decide +kernel) rfl
theorem kv_X8_strongest : gt_V yX8_strongest cX8_strongest 7 (some .int) 2 := ⟨gt_mem 546 (by decide +kernel) rfl, gt_mem 547 (by decide +kernel) rfl, gt_mem 4 (by decide +kernel) rfl, gt_mem 548 (by decide +kernel) rfl, ⟨by decide +kernel, by decide +kernel, by decide +kernel⟩, by decide⟩
theorem km_L_36 : Cond.methodLink RL 36 yX9_tower ∈ gt_tbl := gt_mem 549 (by decide +kernel) rfl
theorem kv_X9_tower : gt_V yX9_tower cX9_tower 3 (some .int) 2 := ⟨gt_mem 550 (by decide +kernel) rfl, gt_mem 551 (by decide +kernel) rfl, gt_mem 1 (by decide +kernel) rfl, gt_mem 552 (by decide +kernel) rfl, ⟨by decide +kernel, by decide +kernel, by decide +kernel⟩, by decide⟩
theorem km_X9_190 : Cond.methodLink RX9 190 yX0_hasTower ∈ gt_tbl := gt_mem 553 (by decide +kernel) rfl
theorem km_X9_202 : Cond.methodLink RX9 202 yX8_sitterAt ∈ gt_tbl := gt_mem 554 (by decide +kernel) rfl
theorem kv_X8_sitterAt : gt_V yX8_sitterAt cX8_sitterAt 4 (some .int) 2 := ⟨gt_mem 555 (by decide +kernel) rfl, gt_mem 556 (by decide +kernel) rfl, gt_mem 4 (by decide +kernel) rfl, gt_mem 557 (by decide +kernel) rfl, ⟨by decide +kernel, by decide +kernel, by decide +kernel⟩, by decide⟩
theorem km_L_40 : Cond.methodLink RL 40 yX9_player ∈ gt_tbl := gt_mem 558 (by decide +kernel) rfl
theorem kv_X9_player : gt_V yX9_player cX9_player 3 (some .int) 2 := ⟨gt_mem 559 (by decide +kernel) rfl, gt_mem 560 (by decide +kernel) rfl, gt_mem 1 (by decide +kernel) rfl, gt_mem 561 (by decide +kernel) rfl, ⟨by decide +kernel, by decide +kernel, by decide +kernel⟩, by decide⟩
theorem km_X9_205 : Cond.methodLink RX9 205 yX0_hasPlayer ∈ gt_tbl := gt_mem 562 (by decide +kernel) rfl
theorem kv_X0_hasPlayer : gt_V yX0_hasPlayer cX0_hasPlayer 2 (some .boolean) 1 := ⟨gt_mem 563 (by decide +kernel) rfl, gt_mem 564 (by decide +kernel) rfl, gt_mem 3 (by decide +kernel) rfl, gt_mem 565 (by decide +kernel) rfl, ⟨by decide +kernel, by decide +kernel, by decide +kernel⟩, by decide⟩
theorem km_X9_217 : Cond.methodLink RX9 217 yX8_sleeps ∈ gt_tbl := gt_mem 566 (by decide +kernel) rfl
theorem km_L_44 : Cond.methodLink RL 44 yX9_boat ∈ gt_tbl := gt_mem 567 (by decide +kernel) rfl
theorem kv_X9_boat : gt_V yX9_boat cX9_boat 3 (some .int) 2 := ⟨gt_mem 568 (by decide +kernel) rfl, gt_mem 569 (by decide +kernel) rfl, gt_mem 1 (by decide +kernel) rfl, gt_mem 570 (by decide +kernel) rfl, ⟨by decide +kernel, by decide +kernel, by decide +kernel⟩, by decide⟩
theorem km_X9_220 : Cond.methodLink RX9 220 yX0_hasBoat ∈ gt_tbl := gt_mem 571 (by decide +kernel) rfl
theorem kv_X0_hasBoat : gt_V yX0_hasBoat cX0_hasBoat 2 (some .boolean) 1 := ⟨gt_mem 572 (by decide +kernel) rfl, gt_mem 573 (by decide +kernel) rfl, gt_mem 3 (by decide +kernel) rfl, gt_mem 574 (by decide +kernel) rfl, ⟨by decide +kernel, by decide +kernel, by decide +kernel⟩, by decide⟩
theorem km_L_48 : Cond.methodLink RL 48 yX9_hour ∈ gt_tbl := gt_mem 575 (by decide +kernel) rfl
theorem kv_X9_hour : gt_V yX9_hour cX9_hour 4 (some .int) 1 := ⟨gt_mem 576 (by decide +kernel) rfl, gt_mem 577 (by decide +kernel) rfl, gt_mem 1 (by decide +kernel) rfl, gt_mem 578 (by decide +kernel) rfl, ⟨by decide +kernel, by decide +kernel, by decide +kernel⟩, by decide⟩
theorem km_X9_235 : Cond.methodLink RX9 235 yX9_refusalOfHours ∈ gt_tbl := gt_mem 579 (by decide +kernel) rfl
theorem kv_X9_refusalOfHours : gt_V yX9_refusalOfHours cX9_refusalOfHours 2 (some .int) 1 := ⟨gt_mem 581 (by decide +kernel) rfl, gt_memp (y := yX9_refusalOfHours) (c := 12) 14 (by decide +kernel), gt_mem 1 (by decide +kernel) rfl, gt_mem 582 (by decide +kernel) rfl, ⟨by decide +kernel, by decide +kernel, by decide +kernel⟩, by decide⟩
theorem kc_X9_245 : Cond.constant RX9 245 (-1000000003) ∈ gt_tbl := gt_mem 583 (by decide +kernel) rfl
theorem kc_X9_310 : Cond.constant RX9 310 (-1000000004) ∈ gt_tbl := gt_mem 584 (by decide +kernel) rfl
theorem km_X9_238 : Cond.methodLink RX9 238 yX4_remember ∈ gt_tbl := gt_mem 585 (by decide +kernel) rfl
theorem kv_X4_remember : gt_V yX4_remember cX4_remember 2 none 1 := ⟨gt_mem 586 (by decide +kernel) rfl, gt_mem 587 (by decide +kernel) rfl, gt_mem 5 (by decide +kernel) rfl, gt_mem 588 (by decide +kernel) rfl, ⟨by decide +kernel, by decide +kernel, by decide +kernel⟩, by decide⟩
theorem km_X4_22 : Cond.methodLink RX4 22 yX8_copy ∈ gt_tbl := gt_mem 589 (by decide +kernel) rfl
theorem km_X4_29 : Cond.methodLink RX4 29 Lib.Math.min.name ∈ gt_tbl := gt_mem 590 (by decide +kernel) rfl
theorem km_X9_242 : Cond.methodLink RX9 242 yX8_passHour ∈ gt_tbl := gt_mem 591 (by decide +kernel) rfl
theorem kv_X8_passHour : gt_V yX8_passHour cX8_passHour 3 none 1 := ⟨gt_mem 592 (by decide +kernel) rfl, gt_mem 593 (by decide +kernel) rfl, gt_mem 4 (by decide +kernel) rfl, gt_mem 594 (by decide +kernel) rfl, ⟨by decide +kernel, by decide +kernel, by decide +kernel⟩, by decide⟩
theorem km_X8_54 : Cond.methodLink RX8 54 yX8_wind ∈ gt_tbl := gt_mem 595 (by decide +kernel) rfl
theorem km_X8_58 : Cond.methodLink RX8 58 yX8_sail ∈ gt_tbl := gt_mem 596 (by decide +kernel) rfl
theorem kv_X8_sail : gt_V yX8_sail cX8_sail 5 none 2 := ⟨gt_mem 597 (by decide +kernel) rfl, gt_mem 598 (by decide +kernel) rfl, gt_mem 4 (by decide +kernel) rfl, gt_mem 599 (by decide +kernel) rfl, ⟨by decide +kernel, by decide +kernel, by decide +kernel⟩, by decide⟩
theorem km_L_52 : Cond.methodLink RL 52 yX9_sit ∈ gt_tbl := gt_mem 600 (by decide +kernel) rfl
theorem kv_X9_sit : gt_V yX9_sit cX9_sit 4 (some .int) 2 := ⟨gt_mem 601 (by decide +kernel) rfl, gt_mem 602 (by decide +kernel) rfl, gt_mem 1 (by decide +kernel) rfl, gt_mem 603 (by decide +kernel) rfl, ⟨by decide +kernel, by decide +kernel, by decide +kernel⟩, by decide⟩
theorem km_L_56 : Cond.methodLink RL 56 yX9_rest ∈ gt_tbl := gt_mem 604 (by decide +kernel) rfl
theorem kv_X9_rest : gt_V yX9_rest cX9_rest 3 (some .int) 1 := ⟨gt_mem 605 (by decide +kernel) rfl, gt_mem 606 (by decide +kernel) rfl, gt_mem 1 (by decide +kernel) rfl, gt_mem 607 (by decide +kernel) rfl, ⟨by decide +kernel, by decide +kernel, by decide +kernel⟩, by decide⟩
theorem km_L_60 : Cond.methodLink RL 60 yX9_sleep ∈ gt_tbl := gt_mem 608 (by decide +kernel) rfl
theorem kv_X9_sleep : gt_V yX9_sleep cX9_sleep 4 (some .int) 2 := ⟨gt_mem 609 (by decide +kernel) rfl, gt_mem 610 (by decide +kernel) rfl, gt_mem 1 (by decide +kernel) rfl, gt_mem 611 (by decide +kernel) rfl, ⟨by decide +kernel, by decide +kernel, by decide +kernel⟩, by decide⟩
theorem km_X9_246 : Cond.methodLink RX9 246 yX8_setAsleep ∈ gt_tbl := gt_mem 612 (by decide +kernel) rfl
theorem kv_X8_setAsleep : gt_V yX8_setAsleep cX8_setAsleep 3 none 2 := ⟨gt_mem 613 (by decide +kernel) rfl, gt_mem 614 (by decide +kernel) rfl, gt_mem 4 (by decide +kernel) rfl, gt_mem 615 (by decide +kernel) rfl, ⟨by decide +kernel, by decide +kernel, by decide +kernel⟩, by decide⟩
theorem km_L_65 : Cond.methodLink RL 65 yX9_turn ∈ gt_tbl := gt_mem 616 (by decide +kernel) rfl
theorem kv_X9_turn : gt_V yX9_turn cX9_turn 4 (some .int) 2 := ⟨gt_mem 617 (by decide +kernel) rfl, gt_mem 618 (by decide +kernel) rfl, gt_mem 1 (by decide +kernel) rfl, gt_mem 619 (by decide +kernel) rfl, ⟨by decide +kernel, by decide +kernel, by decide +kernel⟩, by decide⟩
theorem km_L_69 : Cond.methodLink RL 69 yX9_send ∈ gt_tbl := gt_mem 620 (by decide +kernel) rfl
theorem kv_X9_send : gt_V yX9_send cX9_send 3 (some .int) 1 := ⟨gt_mem 621 (by decide +kernel) rfl, gt_mem 622 (by decide +kernel) rfl, gt_mem 1 (by decide +kernel) rfl, gt_mem 623 (by decide +kernel) rfl, ⟨by decide +kernel, by decide +kernel, by decide +kernel⟩, by decide⟩
theorem km_L_73 : Cond.methodLink RL 73 yX9_drift ∈ gt_tbl := gt_mem 624 (by decide +kernel) rfl
theorem kv_X9_drift : gt_V yX9_drift cX9_drift 4 (some .int) 1 := ⟨gt_mem 625 (by decide +kernel) rfl, gt_mem 626 (by decide +kernel) rfl, gt_mem 1 (by decide +kernel) rfl, gt_mem 627 (by decide +kernel) rfl, ⟨by decide +kernel, by decide +kernel, by decide +kernel⟩, by decide⟩
theorem km_X9_250 : Cond.methodLink RX9 250 yX1_stir ∈ gt_tbl := gt_mem 628 (by decide +kernel) rfl
theorem kv_X1_stir : gt_V yX1_stir cX1_stir 4 none 2 := ⟨gt_mem 629 (by decide +kernel) rfl, gt_mem 630 (by decide +kernel) rfl, gt_mem 6 (by decide +kernel) rfl, gt_mem 631 (by decide +kernel) rfl, ⟨by decide +kernel, by decide +kernel, by decide +kernel⟩, by decide⟩
theorem km_X1_29 : Cond.methodLink RX1 29 yX1_next ∈ gt_tbl := gt_mem 632 (by decide +kernel) rfl
theorem kv_X1_next : gt_V yX1_next cX1_next 2 (some .int) 1 := ⟨gt_mem 634 (by decide +kernel) rfl, gt_memp (y := yX1_next) (c := 1) 15 (by decide +kernel), gt_mem 6 (by decide +kernel) rfl, gt_mem 635 (by decide +kernel) rfl, ⟨by decide +kernel, by decide +kernel, by decide +kernel⟩, by decide⟩
theorem kc_X1_15 : Cond.constantLong RX1 15 1103515245 ∈ gt_tbl := gt_mem 636 (by decide +kernel) rfl
theorem kc_X1_17 : Cond.constantLong RX1 17 12345 ∈ gt_tbl := gt_mem 637 (by decide +kernel) rfl
theorem kc_X1_21 : Cond.constantLong RX1 21 2147483647 ∈ gt_tbl := gt_mem 638 (by decide +kernel) rfl
theorem kc_X1_23 : Cond.constant RX1 23 65536 ∈ gt_tbl := gt_mem 639 (by decide +kernel) rfl
theorem km_X1_33 : Cond.methodLink RX1 33 yX8_setAsleep ∈ gt_tbl := gt_mem 640 (by decide +kernel) rfl
theorem km_X1_43 : Cond.methodLink RX1 43 yX1_sitByDraw ∈ gt_tbl := gt_mem 641 (by decide +kernel) rfl
theorem kv_X1_sitByDraw : gt_V yX1_sitByDraw cX1_sitByDraw 5 none 3 := ⟨gt_mem 643 (by decide +kernel) rfl, gt_memp (y := yX1_sitByDraw) (c := 1) 16 (by decide +kernel), gt_mem 6 (by decide +kernel) rfl, gt_mem 644 (by decide +kernel) rfl, ⟨by decide +kernel, by decide +kernel, by decide +kernel⟩, by decide⟩
theorem km_X1_50 : Cond.methodLink RX1 50 yX8_sitterAt ∈ gt_tbl := gt_mem 645 (by decide +kernel) rfl
theorem km_L_77 : Cond.methodLink RL 77 yX9_undo ∈ gt_tbl := gt_mem 646 (by decide +kernel) rfl
theorem kv_X9_undo : gt_V yX9_undo cX9_undo 1 (some .int) 0 := ⟨gt_mem 647 (by decide +kernel) rfl, gt_mem 648 (by decide +kernel) rfl, gt_mem 1 (by decide +kernel) rfl, gt_mem 649 (by decide +kernel) rfl, ⟨by decide +kernel, by decide +kernel, by decide +kernel⟩, by decide⟩
theorem km_X9_254 : Cond.methodLink RX9 254 yX4_recall ∈ gt_tbl := gt_mem 650 (by decide +kernel) rfl
theorem kv_X4_recall : gt_V yX4_recall cX4_recall 2 none 1 := ⟨gt_mem 651 (by decide +kernel) rfl, gt_mem 652 (by decide +kernel) rfl, gt_mem 5 (by decide +kernel) rfl, gt_mem 653 (by decide +kernel) rfl, ⟨by decide +kernel, by decide +kernel, by decide +kernel⟩, by decide⟩
theorem km_L_81 : Cond.methodLink RL 81 yX9_sea ∈ gt_tbl := gt_mem 654 (by decide +kernel) rfl
theorem kv_X9_sea : gt_V yX9_sea cX9_sea 5 (some .int) 3 := ⟨gt_mem 655 (by decide +kernel) rfl, gt_mem 656 (by decide +kernel) rfl, gt_mem 1 (by decide +kernel) rfl, gt_mem 657 (by decide +kernel) rfl, ⟨by decide +kernel, by decide +kernel, by decide +kernel⟩, by decide⟩
theorem km_X9_257 : Cond.methodLink RX9 257 yX8_copy ∈ gt_tbl := gt_mem 658 (by decide +kernel) rfl
theorem km_X9_260 : Cond.methodLink RX9 260 yX8_wind ∈ gt_tbl := gt_mem 659 (by decide +kernel) rfl
theorem km_L_86 : Cond.methodLink RL 86 yX9_deepest ∈ gt_tbl := gt_mem 660 (by decide +kernel) rfl
theorem kv_X9_deepest : gt_V yX9_deepest cX9_deepest 8 (some .int) 3 := ⟨gt_mem 661 (by decide +kernel) rfl, gt_mem 662 (by decide +kernel) rfl, gt_mem 1 (by decide +kernel) rfl, gt_mem 663 (by decide +kernel) rfl, ⟨by decide +kernel, by decide +kernel, by decide +kernel⟩, by decide⟩
theorem km_L_90 : Cond.methodLink RL 90 yX9_comes ∈ gt_tbl := gt_mem 664 (by decide +kernel) rfl
theorem kv_X9_comes : gt_V yX9_comes cX9_comes 3 (some .int) 1 := ⟨gt_mem 665 (by decide +kernel) rfl, gt_mem 666 (by decide +kernel) rfl, gt_mem 1 (by decide +kernel) rfl, gt_mem 667 (by decide +kernel) rfl, ⟨by decide +kernel, by decide +kernel, by decide +kernel⟩, by decide⟩
theorem km_X9_263 : Cond.methodLink RX9 263 yX8_sail ∈ gt_tbl := gt_mem 668 (by decide +kernel) rfl
theorem km_L_94 : Cond.methodLink RL 94 yX9_seats ∈ gt_tbl := gt_mem 669 (by decide +kernel) rfl
theorem kv_X9_seats : gt_V yX9_seats cX9_seats 6 (some .int) 4 := ⟨gt_mem 670 (by decide +kernel) rfl, gt_mem 671 (by decide +kernel) rfl, gt_mem 1 (by decide +kernel) rfl, gt_mem 672 (by decide +kernel) rfl, ⟨by decide +kernel, by decide +kernel, by decide +kernel⟩, by decide⟩
theorem km_X9_267 : Cond.methodLink RX9 267 yX5_search ∈ gt_tbl := gt_mem 673 (by decide +kernel) rfl
theorem kv_X5_search : gt_V yX5_search cX5_search 8 (some .int) 5 := ⟨gt_mem 674 (by decide +kernel) rfl, gt_mem 675 (by decide +kernel) rfl, gt_mem 8 (by decide +kernel) rfl, gt_mem 676 (by decide +kernel) rfl, ⟨by decide +kernel, by decide +kernel, by decide +kernel⟩, by decide⟩
theorem km_X5_31 : Cond.methodLink RX5 31 yX5_seaIfAllRest ∈ gt_tbl := gt_mem 677 (by decide +kernel) rfl
theorem kv_X5_seaIfAllRest : gt_V yX5_seaIfAllRest cX5_seaIfAllRest 7 (some .int) 4 := ⟨gt_mem 679 (by decide +kernel) rfl, gt_memp (y := yX5_seaIfAllRest) (c := 6) 17 (by decide +kernel), gt_mem 8 (by decide +kernel) rfl, gt_mem 680 (by decide +kernel) rfl, ⟨by decide +kernel, by decide +kernel, by decide +kernel⟩, by decide⟩
theorem km_X5_70 : Cond.methodLink RX5 70 yX5_letDown ∈ gt_tbl := gt_mem 681 (by decide +kernel) rfl
theorem kv_X5_letDown : gt_S yX5_letDown cX5_letDown 2 (some .int) 2 := ⟨gt_mem 682 (by decide +kernel) rfl, gt_mem 8 (by decide +kernel) rfl, gt_mem 683 (by decide +kernel) rfl, ⟨by decide +kernel, by decide +kernel, by decide +kernel⟩, by decide⟩
theorem km_X5_77 : Cond.methodLink RX5 77 Lib.Math.max.name ∈ gt_tbl := gt_mem 684 (by decide +kernel) rfl
theorem km_X5_73 : Cond.methodLink RX5 73 yX0_bears ∈ gt_tbl := gt_mem 685 (by decide +kernel) rfl
theorem km_X5_39 : Cond.methodLink RX5 39 yX5_noteGains ∈ gt_tbl := gt_mem 686 (by decide +kernel) rfl
theorem kv_X5_noteGains : gt_V yX5_noteGains cX5_noteGains 9 none 4 := ⟨gt_mem 688 (by decide +kernel) rfl, gt_memp (y := yX5_noteGains) (c := 6) 18 (by decide +kernel), gt_mem 8 (by decide +kernel) rfl, gt_mem 689 (by decide +kernel) rfl, ⟨by decide +kernel, by decide +kernel, by decide +kernel⟩, by decide⟩
theorem km_X5_80 : Cond.methodLink RX5 80 yJ7_fill_53178 ∈ gt_tbl := gt_mem 690 (by decide +kernel) rfl
theorem km_X5_86 : Cond.methodLink RX5 86 yX5_woundBy ∈ gt_tbl := gt_mem 691 (by decide +kernel) rfl
theorem kv_X5_woundBy : gt_S yX5_woundBy cX5_woundBy 7 (some .int) 5 := ⟨gt_mem 692 (by decide +kernel) rfl, gt_mem 8 (by decide +kernel) rfl, gt_mem 693 (by decide +kernel) rfl, ⟨by decide +kernel, by decide +kernel, by decide +kernel⟩, by decide⟩
theorem km_X5_94 : Cond.methodLink RX5 94 yX8_sleeps ∈ gt_tbl := gt_mem 694 (by decide +kernel) rfl
theorem km_X5_55 : Cond.methodLink RX5 55 Lib.Math.min.name ∈ gt_tbl := gt_mem 695 (by decide +kernel) rfl
theorem km_X5_104 : Cond.methodLink RX5 104 yX8_woundMore ∈ gt_tbl := gt_mem 696 (by decide +kernel) rfl
theorem km_X5_90 : Cond.methodLink RX5 90 yX5_noteMostGain ∈ gt_tbl := gt_mem 697 (by decide +kernel) rfl
theorem kv_X5_noteMostGain : gt_V yX5_noteMostGain cX5_noteMostGain 4 none 2 := ⟨gt_mem 699 (by decide +kernel) rfl, gt_memp (y := yX5_noteMostGain) (c := 6) 19 (by decide +kernel), gt_mem 8 (by decide +kernel) rfl, gt_mem 700 (by decide +kernel) rfl, ⟨by decide +kernel, by decide +kernel, by decide +kernel⟩, by decide⟩
theorem kc_X5_45 : Cond.constant RX5 45 2147483647 ∈ gt_tbl := gt_mem 701 (by decide +kernel) rfl
theorem km_X5_61 : Cond.methodLink RX5 61 yX5_seatFrom ∈ gt_tbl := gt_mem 702 (by decide +kernel) rfl
theorem kv_X5_seatFrom : gt_S yX5_seatFrom cX5_seatFrom 8 none 7 := ⟨gt_mem 703 (by decide +kernel) rfl, gt_mem 8 (by decide +kernel) rfl, gt_mem 704 (by decide +kernel) rfl, ⟨by decide +kernel, by decide +kernel, by decide +kernel⟩, by decide⟩
theorem km_X5_107 : Cond.methodLink RX5 107 yX5_take ∈ gt_tbl := gt_mem 705 (by decide +kernel) rfl
theorem kv_X5_take : gt_V yX5_take cX5_take 3 none 2 := ⟨gt_mem 707 (by decide +kernel) rfl, gt_memp (y := yX5_take) (c := 6) 20 (by decide +kernel), gt_mem 8 (by decide +kernel) rfl, gt_mem 708 (by decide +kernel) rfl, ⟨by decide +kernel, by decide +kernel, by decide +kernel⟩, by decide⟩
theorem km_X5_110 : Cond.methodLink RX5 110 arraycopyName ∈ gt_tbl := gt_mem 709 (by decide +kernel) rfl
theorem km_L_99 : Cond.methodLink RL 99 yX9_leave ∈ gt_tbl := gt_mem 710 (by decide +kernel) rfl
theorem kv_X9_leave : gt_V yX9_leave cX9_leave 6 (some .int) 1 := ⟨gt_mem 711 (by decide +kernel) rfl, gt_mem 712 (by decide +kernel) rfl, gt_mem 1 (by decide +kernel) rfl, gt_mem 713 (by decide +kernel) rfl, ⟨by decide +kernel, by decide +kernel, by decide +kernel⟩, by decide⟩
theorem km_L_103 : Cond.methodLink RL 103 yX9_share ∈ gt_tbl := gt_mem 714 (by decide +kernel) rfl
theorem kv_X9_share : gt_V yX9_share cX9_share 6 (some .int) 2 := ⟨gt_mem 715 (by decide +kernel) rfl, gt_mem 716 (by decide +kernel) rfl, gt_mem 1 (by decide +kernel) rfl, gt_mem 717 (by decide +kernel) rfl, ⟨by decide +kernel, by decide +kernel, by decide +kernel⟩, by decide⟩
theorem km_X9_274 : Cond.methodLink RX9 274 yX8_dryGround ∈ gt_tbl := gt_mem 718 (by decide +kernel) rfl
theorem kv_X8_dryGround : gt_V yX8_dryGround cX8_dryGround 4 (some .int) 1 := ⟨gt_mem 719 (by decide +kernel) rfl, gt_mem 720 (by decide +kernel) rfl, gt_mem 4 (by decide +kernel) rfl, gt_mem 721 (by decide +kernel) rfl, ⟨by decide +kernel, by decide +kernel, by decide +kernel⟩, by decide⟩
theorem km_X9_277 : Cond.methodLink RX9 277 yX9_shareOf ∈ gt_tbl := gt_mem 722 (by decide +kernel) rfl
theorem kv_X9_shareOf : gt_V yX9_shareOf cX9_shareOf 4 (some .int) 3 := ⟨gt_mem 724 (by decide +kernel) rfl, gt_memp (y := yX9_shareOf) (c := 12) 21 (by decide +kernel), gt_mem 1 (by decide +kernel) rfl, gt_mem 725 (by decide +kernel) rfl, ⟨by decide +kernel, by decide +kernel, by decide +kernel⟩, by decide⟩
theorem km_L_107 : Cond.methodLink RL 107 yX9_calm ∈ gt_tbl := gt_mem 726 (by decide +kernel) rfl
theorem kv_X9_calm : gt_V yX9_calm cX9_calm 6 (some .int) 2 := ⟨gt_mem 727 (by decide +kernel) rfl, gt_mem 728 (by decide +kernel) rfl, gt_mem 1 (by decide +kernel) rfl, gt_mem 729 (by decide +kernel) rfl, ⟨by decide +kernel, by decide +kernel, by decide +kernel⟩, by decide⟩
theorem kc_X9_281 : Cond.constantLong RX9 281 1000000000 ∈ gt_tbl := gt_mem 730 (by decide +kernel) rfl
theorem kc_X9_283 : Cond.constantLong RX9 283 100 ∈ gt_tbl := gt_mem 731 (by decide +kernel) rfl
theorem km_L_111 : Cond.methodLink RL 111 yX9_mark ∈ gt_tbl := gt_mem 732 (by decide +kernel) rfl
theorem kv_X9_mark : gt_V yX9_mark cX9_mark 4 (some .int) 3 := ⟨gt_mem 733 (by decide +kernel) rfl, gt_mem 734 (by decide +kernel) rfl, gt_mem 1 (by decide +kernel) rfl, gt_mem 735 (by decide +kernel) rfl, ⟨by decide +kernel, by decide +kernel, by decide +kernel⟩, by decide⟩
theorem km_X9_285 : Cond.methodLink RX9 285 yX3_addMark ∈ gt_tbl := gt_mem 736 (by decide +kernel) rfl
theorem kv_X3_addMark : gt_V yX3_addMark cX3_addMark 4 (some .int) 3 := ⟨gt_mem 737 (by decide +kernel) rfl, gt_mem 738 (by decide +kernel) rfl, gt_mem 7 (by decide +kernel) rfl, gt_mem 739 (by decide +kernel) rfl, ⟨by decide +kernel, by decide +kernel, by decide +kernel⟩, by decide⟩
theorem kc_X3_46 : Cond.constant RX3 46 (-1000000004) ∈ gt_tbl := gt_mem 740 (by decide +kernel) rfl
theorem km_L_115 : Cond.methodLink RL 115 yX9_look ∈ gt_tbl := gt_mem 741 (by decide +kernel) rfl
theorem kv_X9_look : gt_V yX9_look cX9_look 2 (some .int) 0 := ⟨gt_mem 742 (by decide +kernel) rfl, gt_mem 743 (by decide +kernel) rfl, gt_mem 1 (by decide +kernel) rfl, gt_mem 744 (by decide +kernel) rfl, ⟨by decide +kernel, by decide +kernel, by decide +kernel⟩, by decide⟩
theorem km_X9_288 : Cond.methodLink RX9 288 yX7_bestMark ∈ gt_tbl := gt_mem 745 (by decide +kernel) rfl
theorem kv_X7_bestMark : gt_V yX7_bestMark cX7_bestMark 10 (some .int) 4 := ⟨gt_mem 746 (by decide +kernel) rfl, gt_mem 747 (by decide +kernel) rfl, gt_mem 9 (by decide +kernel) rfl, gt_mem 748 (by decide +kernel) rfl, ⟨by decide +kernel, by decide +kernel, by decide +kernel⟩, by decide⟩
theorem km_X7_57 : Cond.methodLink RX7 57 yX7_noteSeas ∈ gt_tbl := gt_mem 749 (by decide +kernel) rfl
theorem kv_X7_noteSeas : gt_V yX7_noteSeas cX7_noteSeas 6 none 3 := ⟨gt_mem 751 (by decide +kernel) rfl, gt_memp (y := yX7_noteSeas) (c := 1) 22 (by decide +kernel), gt_mem 9 (by decide +kernel) rfl, gt_mem 752 (by decide +kernel) rfl, ⟨by decide +kernel, by decide +kernel, by decide +kernel⟩, by decide⟩
theorem km_X7_68 : Cond.methodLink RX7 68 yX8_seaAt ∈ gt_tbl := gt_mem 753 (by decide +kernel) rfl
theorem km_X7_64 : Cond.methodLink RX7 64 yX7_mostAlike ∈ gt_tbl := gt_mem 754 (by decide +kernel) rfl
theorem kv_X7_mostAlike : gt_V yX7_mostAlike cX7_mostAlike 7 (some .int) 2 := ⟨gt_mem 756 (by decide +kernel) rfl, gt_memp (y := yX7_mostAlike) (c := 1) 23 (by decide +kernel), gt_mem 9 (by decide +kernel) rfl, gt_mem 757 (by decide +kernel) rfl, ⟨by decide +kernel, by decide +kernel, by decide +kernel⟩, by decide⟩
theorem km_X7_72 : Cond.methodLink RX7 72 Lib.Math.max.name ∈ gt_tbl := gt_mem 758 (by decide +kernel) rfl
theorem km_L_119 : Cond.methodLink RL 119 yX9_see ∈ gt_tbl := gt_mem 759 (by decide +kernel) rfl
theorem kv_X9_see : gt_V yX9_see cX9_see 4 (some .int) 3 := ⟨gt_mem 760 (by decide +kernel) rfl, gt_mem 761 (by decide +kernel) rfl, gt_mem 1 (by decide +kernel) rfl, gt_mem 762 (by decide +kernel) rfl, ⟨by decide +kernel, by decide +kernel, by decide +kernel⟩, by decide⟩
theorem km_X9_292 : Cond.methodLink RX9 292 yX3_addSeen ∈ gt_tbl := gt_mem 763 (by decide +kernel) rfl
theorem kv_X3_addSeen : gt_V yX3_addSeen cX3_addSeen 4 (some .int) 3 := ⟨gt_mem 764 (by decide +kernel) rfl, gt_mem 765 (by decide +kernel) rfl, gt_mem 7 (by decide +kernel) rfl, gt_mem 766 (by decide +kernel) rfl, ⟨by decide +kernel, by decide +kernel, by decide +kernel⟩, by decide⟩
theorem km_L_123 : Cond.methodLink RL 123 yX9_write ∈ gt_tbl := gt_mem 767 (by decide +kernel) rfl
theorem kv_X9_write : gt_V yX9_write cX9_write 3 (some .int) 2 := ⟨gt_mem 768 (by decide +kernel) rfl, gt_mem 769 (by decide +kernel) rfl, gt_mem 1 (by decide +kernel) rfl, gt_mem 770 (by decide +kernel) rfl, ⟨by decide +kernel, by decide +kernel, by decide +kernel⟩, by decide⟩
theorem km_X9_295 : Cond.methodLink RX9 295 yX3_addEntry ∈ gt_tbl := gt_mem 771 (by decide +kernel) rfl
theorem kv_X3_addEntry : gt_V yX3_addEntry cX3_addEntry 3 (some .int) 2 := ⟨gt_mem 772 (by decide +kernel) rfl, gt_mem 773 (by decide +kernel) rfl, gt_mem 7 (by decide +kernel) rfl, gt_mem 774 (by decide +kernel) rfl, ⟨by decide +kernel, by decide +kernel, by decide +kernel⟩, by decide⟩
theorem km_L_127 : Cond.methodLink RL 127 yX9_tear ∈ gt_tbl := gt_mem 775 (by decide +kernel) rfl
theorem kv_X9_tear : gt_V yX9_tear cX9_tear 2 (some .int) 0 := ⟨gt_mem 776 (by decide +kernel) rfl, gt_mem 777 (by decide +kernel) rfl, gt_mem 1 (by decide +kernel) rfl, gt_mem 778 (by decide +kernel) rfl, ⟨by decide +kernel, by decide +kernel, by decide +kernel⟩, by decide⟩
theorem km_L_131 : Cond.methodLink RL 131 yX9_judge ∈ gt_tbl := gt_mem 779 (by decide +kernel) rfl
theorem kv_X9_judge : gt_V yX9_judge cX9_judge 1 (some .int) 0 := ⟨gt_mem 780 (by decide +kernel) rfl, gt_mem 781 (by decide +kernel) rfl, gt_mem 1 (by decide +kernel) rfl, gt_mem 782 (by decide +kernel) rfl, ⟨by decide +kernel, by decide +kernel, by decide +kernel⟩, by decide⟩
theorem km_X9_299 : Cond.methodLink RX9 299 yX3_firstWrong ∈ gt_tbl := gt_mem 783 (by decide +kernel) rfl
theorem kv_X3_firstWrong : gt_V yX3_firstWrong cX3_firstWrong 4 (some .int) 2 := ⟨gt_mem 784 (by decide +kernel) rfl, gt_mem 785 (by decide +kernel) rfl, gt_mem 7 (by decide +kernel) rfl, gt_mem 786 (by decide +kernel) rfl, ⟨by decide +kernel, by decide +kernel, by decide +kernel⟩, by decide⟩
theorem km_L_135 : Cond.methodLink RL 135 yX9_seed ∈ gt_tbl := gt_mem 787 (by decide +kernel) rfl
theorem kv_X9_seed : gt_V yX9_seed cX9_seed 3 (some .int) 1 := ⟨gt_mem 788 (by decide +kernel) rfl, gt_mem 789 (by decide +kernel) rfl, gt_mem 1 (by decide +kernel) rfl, gt_mem 790 (by decide +kernel) rfl, ⟨by decide +kernel, by decide +kernel, by decide +kernel⟩, by decide⟩
theorem km_L_139 : Cond.methodLink RL 139 yX9_keep ∈ gt_tbl := gt_mem 791 (by decide +kernel) rfl
theorem kv_X9_keep : gt_V yX9_keep cX9_keep 2 (some .int) 1 := ⟨gt_mem 792 (by decide +kernel) rfl, gt_mem 793 (by decide +kernel) rfl, gt_mem 1 (by decide +kernel) rfl, gt_mem 794 (by decide +kernel) rfl, ⟨by decide +kernel, by decide +kernel, by decide +kernel⟩, by decide⟩
theorem km_L_143 : Cond.methodLink RL 143 yX9_goBack ∈ gt_tbl := gt_mem 795 (by decide +kernel) rfl
theorem kv_X9_goBack : gt_V yX9_goBack cX9_goBack 2 (some .int) 1 := ⟨gt_mem 796 (by decide +kernel) rfl, gt_mem 797 (by decide +kernel) rfl, gt_mem 1 (by decide +kernel) rfl, gt_mem 798 (by decide +kernel) rfl, ⟨by decide +kernel, by decide +kernel, by decide +kernel⟩, by decide⟩
theorem km_L_12 : Cond.methodLink RL 12 yX10_init ∈ gt_tbl := gt_mem 801 (by decide +kernel) rfl
theorem kv_X10_init : gt_I yX10_init cX10_init 1 0 := ⟨rfl, gt_mem 802 (by decide +kernel) rfl, gt_mem 11 (by decide +kernel) rfl, gt_mem 803 (by decide +kernel) rfl, ⟨by decide +kernel, by decide +kernel, by decide +kernel⟩, by decide⟩
theorem km_X10_1 : Cond.methodLink RX10 1 Lib.objectInit ∈ gt_tbl := gt_mem 804 (by decide +kernel) rfl
theorem km_X10_57 : Cond.methodLink RX10 57 yX10_begins ∈ gt_tbl := gt_mem 805 (by decide +kernel) rfl
theorem kv_X10_begins : gt_V yX10_begins cX10_begins 2 none 0 := ⟨gt_mem 807 (by decide +kernel) rfl, gt_memp (y := yX10_begins) (c := 29) 24 (by decide +kernel), gt_mem 11 (by decide +kernel) rfl, gt_mem 808 (by decide +kernel) rfl, ⟨by decide +kernel, by decide +kernel, by decide +kernel⟩, by decide⟩
theorem kc_X10_60 : Cond.constantLong RX10 60 12 ∈ gt_tbl := gt_mem 809 (by decide +kernel) rfl
theorem kc_X10_62 : Cond.constantLong RX10 62 17 ∈ gt_tbl := gt_mem 810 (by decide +kernel) rfl
theorem km_X10_64 : Cond.methodLink RX10 64 yX10_in ∈ gt_tbl := gt_mem 811 (by decide +kernel) rfl
theorem kv_X10_in : gt_S yX10_in cX10_in 6 (some .boolean) 3 := ⟨gt_mem 812 (by decide +kernel) rfl, gt_mem 11 (by decide +kernel) rfl, gt_mem 813 (by decide +kernel) rfl, ⟨by decide +kernel, by decide +kernel, by decide +kernel⟩, by decide⟩
theorem km_X10_68 : Cond.methodLink RX10 68 yX10_copies ∈ gt_tbl := gt_mem 814 (by decide +kernel) rfl
theorem kv_X10_copies : gt_S yX10_copies cX10_copies 6 none 5 := ⟨gt_mem 815 (by decide +kernel) rfl, gt_mem 11 (by decide +kernel) rfl, gt_mem 816 (by decide +kernel) rfl, ⟨by decide +kernel, by decide +kernel, by decide +kernel⟩, by decide⟩
theorem km_L_17 : Cond.methodLink RL 17 yX10_feed ∈ gt_tbl := gt_mem 906 (by decide +kernel) rfl
theorem kv_X10_feed : gt_V yX10_feed cX10_feed 2 (some .int) 1 := ⟨gt_mem 907 (by decide +kernel) rfl, gt_mem 908 (by decide +kernel) rfl, gt_mem 11 (by decide +kernel) rfl, gt_mem 909 (by decide +kernel) rfl, ⟨by decide +kernel, by decide +kernel, by decide +kernel⟩, by decide⟩
theorem kc_X10_84 : Cond.constantLong RX10 84 255 ∈ gt_tbl := gt_mem 910 (by decide +kernel) rfl
theorem kc_X10_86 : Cond.constant RX10 86 (-1000000002) ∈ gt_tbl := gt_mem 911 (by decide +kernel) rfl
theorem kc_X10_90 : Cond.constant RX10 90 (-1000000004) ∈ gt_tbl := gt_mem 912 (by decide +kernel) rfl
theorem km_L_22 : Cond.methodLink RL 22 yX10_coast ∈ gt_tbl := gt_mem 913 (by decide +kernel) rfl
theorem kv_X10_coast : gt_V yX10_coast cX10_coast 2 (some .int) 0 := ⟨gt_mem 914 (by decide +kernel) rfl, gt_mem 915 (by decide +kernel) rfl, gt_mem 11 (by decide +kernel) rfl, gt_mem 916 (by decide +kernel) rfl, ⟨by decide +kernel, by decide +kernel, by decide +kernel⟩, by decide⟩
theorem km_X10_117 : Cond.methodLink RX10 117 yX10_step ∈ gt_tbl := gt_mem 917 (by decide +kernel) rfl
theorem kv_X10_step : gt_V yX10_step cX10_step 1 none 0 := ⟨gt_mem 919 (by decide +kernel) rfl, gt_memp (y := yX10_step) (c := 29) 25 (by decide +kernel), gt_mem 11 (by decide +kernel) rfl, gt_mem 920 (by decide +kernel) rfl, ⟨by decide +kernel, by decide +kernel, by decide +kernel⟩, by decide⟩
theorem km_X10_94 : Cond.methodLink RX10 94 yX10_here ∈ gt_tbl := gt_mem 921 (by decide +kernel) rfl
theorem kv_X10_here : gt_V yX10_here cX10_here 1 (some .int) 0 := ⟨gt_mem 923 (by decide +kernel) rfl, gt_memp (y := yX10_here) (c := 29) 26 (by decide +kernel), gt_mem 11 (by decide +kernel) rfl, gt_mem 924 (by decide +kernel) rfl, ⟨by decide +kernel, by decide +kernel, by decide +kernel⟩, by decide⟩
theorem kc_X10_110 : Cond.constantLong RX10 110 48 ∈ gt_tbl := gt_mem 925 (by decide +kernel) rfl
theorem kc_X10_112 : Cond.constantLong RX10 112 57 ∈ gt_tbl := gt_mem 926 (by decide +kernel) rfl
theorem km_X10_144 : Cond.methodLink RX10 144 yX10_readsClause ∈ gt_tbl := gt_mem 927 (by decide +kernel) rfl
theorem kv_X10_readsClause : gt_V yX10_readsClause cX10_readsClause 1 (some .boolean) 0 := ⟨gt_mem 929 (by decide +kernel) rfl, gt_memp (y := yX10_readsClause) (c := 29) 27 (by decide +kernel), gt_mem 11 (by decide +kernel) rfl, gt_mem 930 (by decide +kernel) rfl, ⟨by decide +kernel, by decide +kernel, by decide +kernel⟩, by decide⟩
theorem km_X10_132 : Cond.methodLink RX10 132 yX10_readsCells ∈ gt_tbl := gt_mem 931 (by decide +kernel) rfl
theorem kv_X10_readsCells : gt_V yX10_readsCells cX10_readsCells 2 (some .boolean) 0 := ⟨gt_mem 933 (by decide +kernel) rfl, gt_memp (y := yX10_readsCells) (c := 29) 28 (by decide +kernel), gt_mem 11 (by decide +kernel) rfl, gt_mem 934 (by decide +kernel) rfl, ⟨by decide +kernel, by decide +kernel, by decide +kernel⟩, by decide⟩
theorem km_X10_120 : Cond.methodLink RX10 120 yX10_fails ∈ gt_tbl := gt_mem 935 (by decide +kernel) rfl
theorem kv_X10_fails : gt_V yX10_fails cX10_fails 2 (some .boolean) 1 := ⟨gt_mem 937 (by decide +kernel) rfl, gt_memp (y := yX10_fails) (c := 29) 29 (by decide +kernel), gt_mem 11 (by decide +kernel) rfl, gt_mem 938 (by decide +kernel) rfl, ⟨by decide +kernel, by decide +kernel, by decide +kernel⟩, by decide⟩
theorem km_X10_124 : Cond.methodLink RX10 124 yX10_number ∈ gt_tbl := gt_mem 939 (by decide +kernel) rfl
theorem kv_X10_number : gt_V yX10_number cX10_number 4 (some .boolean) 3 := ⟨gt_mem 941 (by decide +kernel) rfl, gt_memp (y := yX10_number) (c := 29) 30 (by decide +kernel), gt_mem 11 (by decide +kernel) rfl, gt_mem 942 (by decide +kernel) rfl, ⟨by decide +kernel, by decide +kernel, by decide +kernel⟩, by decide⟩
theorem km_X10_135 : Cond.methodLink RX10 135 yX10_readsTower ∈ gt_tbl := gt_mem 943 (by decide +kernel) rfl
theorem kv_X10_readsTower : gt_V yX10_readsTower cX10_readsTower 2 (some .boolean) 0 := ⟨gt_mem 945 (by decide +kernel) rfl, gt_memp (y := yX10_readsTower) (c := 29) 31 (by decide +kernel), gt_mem 11 (by decide +kernel) rfl, gt_mem 946 (by decide +kernel) rfl, ⟨by decide +kernel, by decide +kernel, by decide +kernel⟩, by decide⟩
theorem km_X10_128 : Cond.methodLink RX10 128 yX10_ends ∈ gt_tbl := gt_mem 947 (by decide +kernel) rfl
theorem kv_X10_ends : gt_V yX10_ends cX10_ends 1 (some .boolean) 0 := ⟨gt_mem 949 (by decide +kernel) rfl, gt_memp (y := yX10_ends) (c := 29) 32 (by decide +kernel), gt_mem 11 (by decide +kernel) rfl, gt_mem 950 (by decide +kernel) rfl, ⟨by decide +kernel, by decide +kernel, by decide +kernel⟩, by decide⟩
theorem km_X10_138 : Cond.methodLink RX10 138 yX10_readsPlayer ∈ gt_tbl := gt_mem 951 (by decide +kernel) rfl
theorem kv_X10_readsPlayer : gt_V yX10_readsPlayer cX10_readsPlayer 2 (some .boolean) 0 := ⟨gt_mem 953 (by decide +kernel) rfl, gt_memp (y := yX10_readsPlayer) (c := 29) 33 (by decide +kernel), gt_mem 11 (by decide +kernel) rfl, gt_mem 954 (by decide +kernel) rfl, ⟨by decide +kernel, by decide +kernel, by decide +kernel⟩, by decide⟩
theorem km_X10_141 : Cond.methodLink RX10 141 yX10_readsBoat ∈ gt_tbl := gt_mem 955 (by decide +kernel) rfl
theorem kv_X10_readsBoat : gt_V yX10_readsBoat cX10_readsBoat 2 (some .boolean) 0 := ⟨gt_mem 957 (by decide +kernel) rfl, gt_memp (y := yX10_readsBoat) (c := 29) 34 (by decide +kernel), gt_mem 11 (by decide +kernel) rfl, gt_mem 958 (by decide +kernel) rfl, ⟨by decide +kernel, by decide +kernel, by decide +kernel⟩, by decide⟩
theorem km_L_26 : Cond.methodLink RL 26 yX10_fault ∈ gt_tbl := gt_mem 959 (by decide +kernel) rfl
theorem kv_X10_fault : gt_V yX10_fault cX10_fault 1 (some .int) 0 := ⟨gt_mem 960 (by decide +kernel) rfl, gt_mem 961 (by decide +kernel) rfl, gt_mem 11 (by decide +kernel) rfl, gt_mem 962 (by decide +kernel) rfl, ⟨by decide +kernel, by decide +kernel, by decide +kernel⟩, by decide⟩
theorem km_L_30 : Cond.methodLink RL 30 yX10_told ∈ gt_tbl := gt_mem 963 (by decide +kernel) rfl
theorem kv_X10_told : gt_V yX10_told cX10_told 2 (some .int) 1 := ⟨gt_mem 964 (by decide +kernel) rfl, gt_mem 965 (by decide +kernel) rfl, gt_mem 11 (by decide +kernel) rfl, gt_mem 966 (by decide +kernel) rfl, ⟨by decide +kernel, by decide +kernel, by decide +kernel⟩, by decide⟩
theorem km_X10_169 : Cond.methodLink RX10 169 yX10_slopeOn ∈ gt_tbl := gt_mem 967 (by decide +kernel) rfl
theorem kv_X10_slopeOn : gt_V yX10_slopeOn cX10_slopeOn 3 (some .int) 1 := ⟨gt_mem 969 (by decide +kernel) rfl, gt_memp (y := yX10_slopeOn) (c := 29) 35 (by decide +kernel), gt_mem 11 (by decide +kernel) rfl, gt_mem 970 (by decide +kernel) rfl, ⟨by decide +kernel, by decide +kernel, by decide +kernel⟩, by decide⟩
theorem km_X10_162 : Cond.methodLink RX10 162 yX10_steepest ∈ gt_tbl := gt_mem 971 (by decide +kernel) rfl
theorem kv_X10_steepest : gt_V yX10_steepest cX10_steepest 4 (some .int) 1 := ⟨gt_mem 973 (by decide +kernel) rfl, gt_memp (y := yX10_steepest) (c := 29) 36 (by decide +kernel), gt_mem 11 (by decide +kernel) rfl, gt_mem 974 (by decide +kernel) rfl, ⟨by decide +kernel, by decide +kernel, by decide +kernel⟩, by decide⟩
theorem km_X10_159 : Cond.methodLink RX10 159 yX10_unlike ∈ gt_tbl := gt_mem 975 (by decide +kernel) rfl
theorem kv_X10_unlike : gt_V yX10_unlike cX10_unlike 4 (some .int) 2 := ⟨gt_mem 977 (by decide +kernel) rfl, gt_memp (y := yX10_unlike) (c := 29) 37 (by decide +kernel), gt_mem 11 (by decide +kernel) rfl, gt_mem 978 (by decide +kernel) rfl, ⟨by decide +kernel, by decide +kernel, by decide +kernel⟩, by decide⟩
theorem km_X10_155 : Cond.methodLink RX10 155 yX10_seaOn ∈ gt_tbl := gt_mem 979 (by decide +kernel) rfl
theorem kv_X10_seaOn : gt_V yX10_seaOn cX10_seaOn 5 (some .int) 2 := ⟨gt_mem 981 (by decide +kernel) rfl, gt_memp (y := yX10_seaOn) (c := 29) 38 (by decide +kernel), gt_mem 11 (by decide +kernel) rfl, gt_mem 982 (by decide +kernel) rfl, ⟨by decide +kernel, by decide +kernel, by decide +kernel⟩, by decide⟩
theorem km_X10_151 : Cond.methodLink RX10 151 yX10_bears ∈ gt_tbl := gt_mem 983 (by decide +kernel) rfl
theorem kv_X10_bears : gt_V yX10_bears cX10_bears 5 (some .int) 3 := ⟨gt_mem 985 (by decide +kernel) rfl, gt_memp (y := yX10_bears) (c := 29) 39 (by decide +kernel), gt_mem 11 (by decide +kernel) rfl, gt_mem 986 (by decide +kernel) rfl, ⟨by decide +kernel, by decide +kernel, by decide +kernel⟩, by decide⟩
theorem km_X10_147 : Cond.methodLink RX10 147 yX10_greater ∈ gt_tbl := gt_mem 987 (by decide +kernel) rfl
theorem kv_X10_greater : gt_S yX10_greater cX10_greater 2 (some .int) 2 := ⟨gt_mem 988 (by decide +kernel) rfl, gt_mem 11 (by decide +kernel) rfl, gt_mem 989 (by decide +kernel) rfl, ⟨by decide +kernel, by decide +kernel, by decide +kernel⟩, by decide⟩
theorem km_X10_172 : Cond.methodLink RX10 172 yX10_wet ∈ gt_tbl := gt_mem 990 (by decide +kernel) rfl
theorem kv_X10_wet : gt_V yX10_wet cX10_wet 3 (some .int) 0 := ⟨gt_mem 992 (by decide +kernel) rfl, gt_memp (y := yX10_wet) (c := 29) 40 (by decide +kernel), gt_mem 11 (by decide +kernel) rfl, gt_mem 993 (by decide +kernel) rfl, ⟨by decide +kernel, by decide +kernel, by decide +kernel⟩, by decide⟩
theorem km_X10_166 : Cond.methodLink RX10 166 yX10_depthOn ∈ gt_tbl := gt_mem 994 (by decide +kernel) rfl
theorem kv_X10_depthOn : gt_V yX10_depthOn cX10_depthOn 3 (some .int) 2 := ⟨gt_mem 996 (by decide +kernel) rfl, gt_memp (y := yX10_depthOn) (c := 29) 41 (by decide +kernel), gt_mem 11 (by decide +kernel) rfl, gt_mem 997 (by decide +kernel) rfl, ⟨by decide +kernel, by decide +kernel, by decide +kernel⟩, by decide⟩
theorem km_X10_175 : Cond.methodLink RX10 175 yX10_boats ∈ gt_tbl := gt_mem 998 (by decide +kernel) rfl
theorem kv_X10_boats : gt_V yX10_boats cX10_boats 5 (some .int) 1 := ⟨gt_mem 1000 (by decide +kernel) rfl, gt_memp (y := yX10_boats) (c := 29) 42 (by decide +kernel), gt_mem 11 (by decide +kernel) rfl, gt_mem 1001 (by decide +kernel) rfl, ⟨by decide +kernel, by decide +kernel, by decide +kernel⟩, by decide⟩
theorem km_X10_179 : Cond.methodLink RX10 179 yX10_whoSits ∈ gt_tbl := gt_mem 1002 (by decide +kernel) rfl
theorem kv_X10_whoSits : gt_V yX10_whoSits cX10_whoSits 3 (some .int) 0 := ⟨gt_mem 1004 (by decide +kernel) rfl, gt_memp (y := yX10_whoSits) (c := 29) 43 (by decide +kernel), gt_mem 11 (by decide +kernel) rfl, gt_mem 1005 (by decide +kernel) rfl, ⟨by decide +kernel, by decide +kernel, by decide +kernel⟩, by decide⟩
theorem km_X10_182 : Cond.methodLink RX10 182 yX10_slept ∈ gt_tbl := gt_mem 1006 (by decide +kernel) rfl
theorem kv_X10_slept : gt_V yX10_slept cX10_slept 5 (some .int) 0 := ⟨gt_mem 1008 (by decide +kernel) rfl, gt_memp (y := yX10_slept) (c := 29) 44 (by decide +kernel), gt_mem 11 (by decide +kernel) rfl, gt_mem 1009 (by decide +kernel) rfl, ⟨by decide +kernel, by decide +kernel, by decide +kernel⟩, by decide⟩
theorem km_X10_289 : Cond.methodLink RX10 289 yX10_layThen ∈ gt_tbl := gt_mem 1010 (by decide +kernel) rfl
theorem kv_X10_layThen : gt_V yX10_layThen cX10_layThen 4 none 1 := ⟨gt_mem 1012 (by decide +kernel) rfl, gt_memp (y := yX10_layThen) (c := 29) 45 (by decide +kernel), gt_mem 11 (by decide +kernel) rfl, gt_mem 1013 (by decide +kernel) rfl, ⟨by decide +kernel, by decide +kernel, by decide +kernel⟩, by decide⟩
theorem km_X10_257 : Cond.methodLink RX10 257 yX10_layAside ∈ gt_tbl := gt_mem 1014 (by decide +kernel) rfl
theorem kv_X10_layAside : gt_V yX10_layAside cX10_layAside 1 none 0 := ⟨gt_mem 1016 (by decide +kernel) rfl, gt_memp (y := yX10_layAside) (c := 29) 46 (by decide +kernel), gt_mem 11 (by decide +kernel) rfl, gt_mem 1017 (by decide +kernel) rfl, ⟨by decide +kernel, by decide +kernel, by decide +kernel⟩, by decide⟩
theorem km_X10_215 : Cond.methodLink RX10 215 yX10_winds ∈ gt_tbl := gt_mem 1018 (by decide +kernel) rfl
theorem kv_X10_winds : gt_V yX10_winds cX10_winds 5 none 1 := ⟨gt_mem 1020 (by decide +kernel) rfl, gt_memp (y := yX10_winds) (c := 29) 47 (by decide +kernel), gt_mem 11 (by decide +kernel) rfl, gt_mem 1021 (by decide +kernel) rfl, ⟨by decide +kernel, by decide +kernel, by decide +kernel⟩, by decide⟩
theorem km_X10_208 : Cond.methodLink RX10 208 yX10_has ∈ gt_tbl := gt_mem 1022 (by decide +kernel) rfl
theorem kv_X10_has : gt_S yX10_has cX10_has 2 (some .boolean) 2 := ⟨gt_mem 1023 (by decide +kernel) rfl, gt_mem 11 (by decide +kernel) rfl, gt_mem 1024 (by decide +kernel) rfl, ⟨by decide +kernel, by decide +kernel, by decide +kernel⟩, by decide⟩
theorem km_X10_212 : Cond.methodLink RX10 212 yX10_lesser ∈ gt_tbl := gt_mem 1025 (by decide +kernel) rfl
theorem kv_X10_lesser : gt_S yX10_lesser cX10_lesser 2 (some .int) 2 := ⟨gt_mem 1026 (by decide +kernel) rfl, gt_mem 11 (by decide +kernel) rfl, gt_mem 1027 (by decide +kernel) rfl, ⟨by decide +kernel, by decide +kernel, by decide +kernel⟩, by decide⟩
theorem km_X10_185 : Cond.methodLink RX10 185 yX10_guts ∈ gt_tbl := gt_mem 1028 (by decide +kernel) rfl
theorem kv_X10_guts : gt_V yX10_guts cX10_guts 5 (some .int) 0 := ⟨gt_mem 1030 (by decide +kernel) rfl, gt_memp (y := yX10_guts) (c := 29) 48 (by decide +kernel), gt_mem 11 (by decide +kernel) rfl, gt_mem 1031 (by decide +kernel) rfl, ⟨by decide +kernel, by decide +kernel, by decide +kernel⟩, by decide⟩
theorem km_L_35 : Cond.methodLink RL 35 yX10_cell ∈ gt_tbl := gt_mem 1032 (by decide +kernel) rfl
theorem kv_X10_cell : gt_V yX10_cell cX10_cell 3 (some .int) 2 := ⟨gt_mem 1033 (by decide +kernel) rfl, gt_mem 1034 (by decide +kernel) rfl, gt_mem 11 (by decide +kernel) rfl, gt_mem 1035 (by decide +kernel) rfl, ⟨by decide +kernel, by decide +kernel, by decide +kernel⟩, by decide⟩
theorem km_X10_188 : Cond.methodLink RX10 188 yX10_isCell ∈ gt_tbl := gt_mem 1036 (by decide +kernel) rfl
theorem kv_X10_isCell : gt_V yX10_isCell cX10_isCell 2 (some .boolean) 1 := ⟨gt_mem 1038 (by decide +kernel) rfl, gt_memp (y := yX10_isCell) (c := 29) 49 (by decide +kernel), gt_mem 11 (by decide +kernel) rfl, gt_mem 1039 (by decide +kernel) rfl, ⟨by decide +kernel, by decide +kernel, by decide +kernel⟩, by decide⟩
theorem kc_X10_191 : Cond.constant RX10 191 (-1000000001) ∈ gt_tbl := gt_mem 1040 (by decide +kernel) rfl
theorem km_X10_192 : Cond.methodLink RX10 192 yX10_strongest ∈ gt_tbl := gt_mem 1041 (by decide +kernel) rfl
theorem kv_X10_strongest : gt_V yX10_strongest cX10_strongest 4 (some .int) 1 := ⟨gt_mem 1043 (by decide +kernel) rfl, gt_memp (y := yX10_strongest) (c := 29) 50 (by decide +kernel), gt_mem 11 (by decide +kernel) rfl, gt_mem 1044 (by decide +kernel) rfl, ⟨by decide +kernel, by decide +kernel, by decide +kernel⟩, by decide⟩
theorem km_L_39 : Cond.methodLink RL 39 yX10_tower ∈ gt_tbl := gt_mem 1045 (by decide +kernel) rfl
theorem kv_X10_tower : gt_V yX10_tower cX10_tower 3 (some .int) 2 := ⟨gt_mem 1046 (by decide +kernel) rfl, gt_mem 1047 (by decide +kernel) rfl, gt_mem 11 (by decide +kernel) rfl, gt_mem 1048 (by decide +kernel) rfl, ⟨by decide +kernel, by decide +kernel, by decide +kernel⟩, by decide⟩
theorem km_X10_196 : Cond.methodLink RX10 196 yX10_isTower ∈ gt_tbl := gt_mem 1049 (by decide +kernel) rfl
theorem kv_X10_isTower : gt_V yX10_isTower cX10_isTower 2 (some .boolean) 1 := ⟨gt_mem 1051 (by decide +kernel) rfl, gt_memp (y := yX10_isTower) (c := 29) 51 (by decide +kernel), gt_mem 11 (by decide +kernel) rfl, gt_mem 1052 (by decide +kernel) rfl, ⟨by decide +kernel, by decide +kernel, by decide +kernel⟩, by decide⟩
theorem km_X10_199 : Cond.methodLink RX10 199 yX10_sitterOn ∈ gt_tbl := gt_mem 1053 (by decide +kernel) rfl
theorem kv_X10_sitterOn : gt_V yX10_sitterOn cX10_sitterOn 5 (some .int) 2 := ⟨gt_mem 1055 (by decide +kernel) rfl, gt_memp (y := yX10_sitterOn) (c := 29) 52 (by decide +kernel), gt_mem 11 (by decide +kernel) rfl, gt_mem 1056 (by decide +kernel) rfl, ⟨by decide +kernel, by decide +kernel, by decide +kernel⟩, by decide⟩
theorem km_L_43 : Cond.methodLink RL 43 yX10_player ∈ gt_tbl := gt_mem 1057 (by decide +kernel) rfl
theorem kv_X10_player : gt_V yX10_player cX10_player 3 (some .int) 2 := ⟨gt_mem 1058 (by decide +kernel) rfl, gt_mem 1059 (by decide +kernel) rfl, gt_mem 11 (by decide +kernel) rfl, gt_mem 1060 (by decide +kernel) rfl, ⟨by decide +kernel, by decide +kernel, by decide +kernel⟩, by decide⟩
theorem km_X10_202 : Cond.methodLink RX10 202 yX10_isPlayer ∈ gt_tbl := gt_mem 1061 (by decide +kernel) rfl
theorem kv_X10_isPlayer : gt_V yX10_isPlayer cX10_isPlayer 2 (some .boolean) 1 := ⟨gt_mem 1063 (by decide +kernel) rfl, gt_memp (y := yX10_isPlayer) (c := 29) 53 (by decide +kernel), gt_mem 11 (by decide +kernel) rfl, gt_mem 1064 (by decide +kernel) rfl, ⟨by decide +kernel, by decide +kernel, by decide +kernel⟩, by decide⟩
theorem km_L_47 : Cond.methodLink RL 47 yX10_boat ∈ gt_tbl := gt_mem 1065 (by decide +kernel) rfl
theorem kv_X10_boat : gt_V yX10_boat cX10_boat 3 (some .int) 2 := ⟨gt_mem 1066 (by decide +kernel) rfl, gt_mem 1067 (by decide +kernel) rfl, gt_mem 11 (by decide +kernel) rfl, gt_mem 1068 (by decide +kernel) rfl, ⟨by decide +kernel, by decide +kernel, by decide +kernel⟩, by decide⟩
theorem km_X10_205 : Cond.methodLink RX10 205 yX10_isBoat ∈ gt_tbl := gt_mem 1069 (by decide +kernel) rfl
theorem kv_X10_isBoat : gt_V yX10_isBoat cX10_isBoat 2 (some .boolean) 1 := ⟨gt_mem 1071 (by decide +kernel) rfl, gt_memp (y := yX10_isBoat) (c := 29) 54 (by decide +kernel), gt_mem 11 (by decide +kernel) rfl, gt_mem 1072 (by decide +kernel) rfl, ⟨by decide +kernel, by decide +kernel, by decide +kernel⟩, by decide⟩
theorem km_L_51 : Cond.methodLink RL 51 yX10_hour ∈ gt_tbl := gt_mem 1073 (by decide +kernel) rfl
theorem kv_X10_hour : gt_V yX10_hour cX10_hour 4 (some .int) 1 := ⟨gt_mem 1074 (by decide +kernel) rfl, gt_mem 1075 (by decide +kernel) rfl, gt_mem 11 (by decide +kernel) rfl, gt_mem 1076 (by decide +kernel) rfl, ⟨by decide +kernel, by decide +kernel, by decide +kernel⟩, by decide⟩
theorem km_X10_222 : Cond.methodLink RX10 222 yX10_refuses ∈ gt_tbl := gt_mem 1077 (by decide +kernel) rfl
theorem kv_X10_refuses : gt_V yX10_refuses cX10_refuses 2 (some .int) 1 := ⟨gt_mem 1079 (by decide +kernel) rfl, gt_memp (y := yX10_refuses) (c := 29) 55 (by decide +kernel), gt_mem 11 (by decide +kernel) rfl, gt_mem 1080 (by decide +kernel) rfl, ⟨by decide +kernel, by decide +kernel, by decide +kernel⟩, by decide⟩
theorem kc_X10_219 : Cond.constantLong RX10 219 60 ∈ gt_tbl := gt_mem 1081 (by decide +kernel) rfl
theorem kc_X10_221 : Cond.constant RX10 221 (-1000000003) ∈ gt_tbl := gt_mem 1082 (by decide +kernel) rfl
theorem km_X10_225 : Cond.methodLink RX10 225 yX10_remember ∈ gt_tbl := gt_mem 1083 (by decide +kernel) rfl
theorem kv_X10_remember : gt_V yX10_remember cX10_remember 2 none 0 := ⟨gt_mem 1085 (by decide +kernel) rfl, gt_memp (y := yX10_remember) (c := 29) 56 (by decide +kernel), gt_mem 11 (by decide +kernel) rfl, gt_mem 1086 (by decide +kernel) rfl, ⟨by decide +kernel, by decide +kernel, by decide +kernel⟩, by decide⟩
theorem km_X10_228 : Cond.methodLink RX10 228 yX10_hourGoes ∈ gt_tbl := gt_mem 1087 (by decide +kernel) rfl
theorem kv_X10_hourGoes : gt_V yX10_hourGoes cX10_hourGoes 6 none 1 := ⟨gt_mem 1089 (by decide +kernel) rfl, gt_memp (y := yX10_hourGoes) (c := 29) 57 (by decide +kernel), gt_mem 11 (by decide +kernel) rfl, gt_mem 1090 (by decide +kernel) rfl, ⟨by decide +kernel, by decide +kernel, by decide +kernel⟩, by decide⟩
theorem km_L_55 : Cond.methodLink RL 55 yX10_sit ∈ gt_tbl := gt_mem 1091 (by decide +kernel) rfl
theorem kv_X10_sit : gt_V yX10_sit cX10_sit 4 (some .int) 2 := ⟨gt_mem 1092 (by decide +kernel) rfl, gt_mem 1093 (by decide +kernel) rfl, gt_mem 11 (by decide +kernel) rfl, gt_mem 1094 (by decide +kernel) rfl, ⟨by decide +kernel, by decide +kernel, by decide +kernel⟩, by decide⟩
theorem km_L_59 : Cond.methodLink RL 59 yX10_rest ∈ gt_tbl := gt_mem 1095 (by decide +kernel) rfl
theorem kv_X10_rest : gt_V yX10_rest cX10_rest 3 (some .int) 1 := ⟨gt_mem 1096 (by decide +kernel) rfl, gt_mem 1097 (by decide +kernel) rfl, gt_mem 11 (by decide +kernel) rfl, gt_mem 1098 (by decide +kernel) rfl, ⟨by decide +kernel, by decide +kernel, by decide +kernel⟩, by decide⟩
theorem km_L_64 : Cond.methodLink RL 64 yX10_sleep ∈ gt_tbl := gt_mem 1099 (by decide +kernel) rfl
theorem kv_X10_sleep : gt_V yX10_sleep cX10_sleep 4 (some .int) 2 := ⟨gt_mem 1100 (by decide +kernel) rfl, gt_mem 1101 (by decide +kernel) rfl, gt_mem 11 (by decide +kernel) rfl, gt_mem 1102 (by decide +kernel) rfl, ⟨by decide +kernel, by decide +kernel, by decide +kernel⟩, by decide⟩
theorem km_X10_231 : Cond.methodLink RX10 231 yX10_sleeps ∈ gt_tbl := gt_mem 1103 (by decide +kernel) rfl
theorem kv_X10_sleeps : gt_V yX10_sleeps cX10_sleeps 3 none 2 := ⟨gt_mem 1105 (by decide +kernel) rfl, gt_memp (y := yX10_sleeps) (c := 29) 58 (by decide +kernel), gt_mem 11 (by decide +kernel) rfl, gt_mem 1106 (by decide +kernel) rfl, ⟨by decide +kernel, by decide +kernel, by decide +kernel⟩, by decide⟩
theorem km_L_68 : Cond.methodLink RL 68 yX10_turn ∈ gt_tbl := gt_mem 1107 (by decide +kernel) rfl
theorem kv_X10_turn : gt_V yX10_turn cX10_turn 4 (some .int) 2 := ⟨gt_mem 1108 (by decide +kernel) rfl, gt_mem 1109 (by decide +kernel) rfl, gt_mem 11 (by decide +kernel) rfl, gt_mem 1110 (by decide +kernel) rfl, ⟨by decide +kernel, by decide +kernel, by decide +kernel⟩, by decide⟩
theorem kc_X10_235 : Cond.constantLong RX10 235 99 ∈ gt_tbl := gt_mem 1111 (by decide +kernel) rfl
theorem km_L_72 : Cond.methodLink RL 72 yX10_send ∈ gt_tbl := gt_mem 1112 (by decide +kernel) rfl
theorem kv_X10_send : gt_V yX10_send cX10_send 3 (some .int) 1 := ⟨gt_mem 1113 (by decide +kernel) rfl, gt_mem 1114 (by decide +kernel) rfl, gt_mem 11 (by decide +kernel) rfl, gt_mem 1115 (by decide +kernel) rfl, ⟨by decide +kernel, by decide +kernel, by decide +kernel⟩, by decide⟩
theorem km_L_76 : Cond.methodLink RL 76 yX10_drift ∈ gt_tbl := gt_mem 1116 (by decide +kernel) rfl
theorem kv_X10_drift : gt_V yX10_drift cX10_drift 4 (some .int) 1 := ⟨gt_mem 1117 (by decide +kernel) rfl, gt_mem 1118 (by decide +kernel) rfl, gt_mem 11 (by decide +kernel) rfl, gt_mem 1119 (by decide +kernel) rfl, ⟨by decide +kernel, by decide +kernel, by decide +kernel⟩, by decide⟩
theorem km_X10_252 : Cond.methodLink RX10 252 yX10_draws ∈ gt_tbl := gt_mem 1120 (by decide +kernel) rfl
theorem kv_X10_draws : gt_V yX10_draws cX10_draws 4 none 0 := ⟨gt_mem 1122 (by decide +kernel) rfl, gt_memp (y := yX10_draws) (c := 29) 59 (by decide +kernel), gt_mem 11 (by decide +kernel) rfl, gt_mem 1123 (by decide +kernel) rfl, ⟨by decide +kernel, by decide +kernel, by decide +kernel⟩, by decide⟩
theorem km_X10_249 : Cond.methodLink RX10 249 yX10_draw ∈ gt_tbl := gt_mem 1124 (by decide +kernel) rfl
theorem kv_X10_draw : gt_V yX10_draw cX10_draw 2 (some .int) 1 := ⟨gt_mem 1126 (by decide +kernel) rfl, gt_memp (y := yX10_draw) (c := 29) 60 (by decide +kernel), gt_mem 11 (by decide +kernel) rfl, gt_mem 1127 (by decide +kernel) rfl, ⟨by decide +kernel, by decide +kernel, by decide +kernel⟩, by decide⟩
theorem kc_X10_241 : Cond.constantLong RX10 241 1103515245 ∈ gt_tbl := gt_mem 1128 (by decide +kernel) rfl
theorem kc_X10_243 : Cond.constantLong RX10 243 12345 ∈ gt_tbl := gt_mem 1129 (by decide +kernel) rfl
theorem kc_X10_245 : Cond.constantLong RX10 245 2147483648 ∈ gt_tbl := gt_mem 1130 (by decide +kernel) rfl
theorem kc_X10_247 : Cond.constantLong RX10 247 65536 ∈ gt_tbl := gt_mem 1131 (by decide +kernel) rfl
theorem km_L_80 : Cond.methodLink RL 80 yX10_undo ∈ gt_tbl := gt_mem 1132 (by decide +kernel) rfl
theorem kv_X10_undo : gt_V yX10_undo cX10_undo 1 (some .int) 0 := ⟨gt_mem 1133 (by decide +kernel) rfl, gt_mem 1134 (by decide +kernel) rfl, gt_mem 11 (by decide +kernel) rfl, gt_mem 1135 (by decide +kernel) rfl, ⟨by decide +kernel, by decide +kernel, by decide +kernel⟩, by decide⟩
theorem km_L_85 : Cond.methodLink RL 85 yX10_sea ∈ gt_tbl := gt_mem 1136 (by decide +kernel) rfl
theorem kv_X10_sea : gt_V yX10_sea cX10_sea 5 (some .int) 3 := ⟨gt_mem 1137 (by decide +kernel) rfl, gt_mem 1138 (by decide +kernel) rfl, gt_mem 11 (by decide +kernel) rfl, gt_mem 1139 (by decide +kernel) rfl, ⟨by decide +kernel, by decide +kernel, by decide +kernel⟩, by decide⟩
theorem kc_X10_255 : Cond.constantLong RX10 255 100 ∈ gt_tbl := gt_mem 1140 (by decide +kernel) rfl
theorem km_L_89 : Cond.methodLink RL 89 yX10_deepest ∈ gt_tbl := gt_mem 1141 (by decide +kernel) rfl
theorem kv_X10_deepest : gt_V yX10_deepest cX10_deepest 8 (some .int) 3 := ⟨gt_mem 1142 (by decide +kernel) rfl, gt_mem 1143 (by decide +kernel) rfl, gt_mem 11 (by decide +kernel) rfl, gt_mem 1144 (by decide +kernel) rfl, ⟨by decide +kernel, by decide +kernel, by decide +kernel⟩, by decide⟩
theorem km_L_93 : Cond.methodLink RL 93 yX10_comes ∈ gt_tbl := gt_mem 1145 (by decide +kernel) rfl
theorem kv_X10_comes : gt_V yX10_comes cX10_comes 3 (some .int) 1 := ⟨gt_mem 1146 (by decide +kernel) rfl, gt_mem 1147 (by decide +kernel) rfl, gt_mem 11 (by decide +kernel) rfl, gt_mem 1148 (by decide +kernel) rfl, ⟨by decide +kernel, by decide +kernel, by decide +kernel⟩, by decide⟩
theorem km_L_98 : Cond.methodLink RL 98 yX10_seats ∈ gt_tbl := gt_mem 1149 (by decide +kernel) rfl
theorem kv_X10_seats : gt_V yX10_seats cX10_seats 5 (some .int) 4 := ⟨gt_mem 1150 (by decide +kernel) rfl, gt_mem 1151 (by decide +kernel) rfl, gt_mem 11 (by decide +kernel) rfl, gt_mem 1152 (by decide +kernel) rfl, ⟨by decide +kernel, by decide +kernel, by decide +kernel⟩, by decide⟩
theorem kc_X10_277 : Cond.constantLong RX10 277 20 ∈ gt_tbl := gt_mem 1153 (by decide +kernel) rfl
theorem km_X10_279 : Cond.methodLink RX10 279 yX10_plans ∈ gt_tbl := gt_mem 1154 (by decide +kernel) rfl
theorem kv_X10_plans : gt_V yX10_plans cX10_plans 5 none 3 := ⟨gt_mem 1156 (by decide +kernel) rfl, gt_memp (y := yX10_plans) (c := 29) 61 (by decide +kernel), gt_mem 11 (by decide +kernel) rfl, gt_mem 1157 (by decide +kernel) rfl, ⟨by decide +kernel, by decide +kernel, by decide +kernel⟩, by decide⟩
theorem kc_X10_269 : Cond.constant RX10 269 100000000 ∈ gt_tbl := gt_mem 1158 (by decide +kernel) rfl
theorem km_X10_270 : Cond.methodLink RX10 270 yX10_weighs ∈ gt_tbl := gt_mem 1159 (by decide +kernel) rfl
theorem kv_X10_weighs : gt_V yX10_weighs cX10_weighs 8 none 3 := ⟨gt_mem 1161 (by decide +kernel) rfl, gt_memp (y := yX10_weighs) (c := 29) 62 (by decide +kernel), gt_mem 11 (by decide +kernel) rfl, gt_mem 1162 (by decide +kernel) rfl, ⟨by decide +kernel, by decide +kernel, by decide +kernel⟩, by decide⟩
theorem km_X10_274 : Cond.methodLink RX10 274 yX10_goesOn ∈ gt_tbl := gt_mem 1163 (by decide +kernel) rfl
theorem kv_X10_goesOn : gt_V yX10_goesOn cX10_goesOn 2 (some .int) 1 := ⟨gt_mem 1165 (by decide +kernel) rfl, gt_memp (y := yX10_goesOn) (c := 29) 63 (by decide +kernel), gt_mem 11 (by decide +kernel) rfl, gt_mem 1166 (by decide +kernel) rfl, ⟨by decide +kernel, by decide +kernel, by decide +kernel⟩, by decide⟩
theorem km_X10_266 : Cond.methodLink RX10 266 yX10_mayBe ∈ gt_tbl := gt_mem 1167 (by decide +kernel) rfl
theorem kv_X10_mayBe : gt_V yX10_mayBe cX10_mayBe 4 (some .boolean) 1 := ⟨gt_mem 1169 (by decide +kernel) rfl, gt_memp (y := yX10_mayBe) (c := 29) 64 (by decide +kernel), gt_mem 11 (by decide +kernel) rfl, gt_mem 1170 (by decide +kernel) rfl, ⟨by decide +kernel, by decide +kernel, by decide +kernel⟩, by decide⟩
theorem km_L_102 : Cond.methodLink RL 102 yX10_leave ∈ gt_tbl := gt_mem 1171 (by decide +kernel) rfl
theorem kv_X10_leave : gt_V yX10_leave cX10_leave 6 (some .int) 1 := ⟨gt_mem 1172 (by decide +kernel) rfl, gt_mem 1173 (by decide +kernel) rfl, gt_mem 11 (by decide +kernel) rfl, gt_mem 1174 (by decide +kernel) rfl, ⟨by decide +kernel, by decide +kernel, by decide +kernel⟩, by decide⟩
theorem km_L_106 : Cond.methodLink RL 106 yX10_share ∈ gt_tbl := gt_mem 1175 (by decide +kernel) rfl
theorem kv_X10_share : gt_V yX10_share cX10_share 5 (some .int) 2 := ⟨gt_mem 1176 (by decide +kernel) rfl, gt_mem 1177 (by decide +kernel) rfl, gt_mem 11 (by decide +kernel) rfl, gt_mem 1178 (by decide +kernel) rfl, ⟨by decide +kernel, by decide +kernel, by decide +kernel⟩, by decide⟩
theorem kc_X10_282 : Cond.constantLong RX10 282 999 ∈ gt_tbl := gt_mem 1179 (by decide +kernel) rfl
theorem km_X10_284 : Cond.methodLink RX10 284 yX10_shareOf ∈ gt_tbl := gt_mem 1180 (by decide +kernel) rfl
theorem kv_X10_shareOf : gt_V yX10_shareOf cX10_shareOf 5 (some .int) 2 := ⟨gt_mem 1182 (by decide +kernel) rfl, gt_memp (y := yX10_shareOf) (c := 29) 65 (by decide +kernel), gt_mem 11 (by decide +kernel) rfl, gt_mem 1183 (by decide +kernel) rfl, ⟨by decide +kernel, by decide +kernel, by decide +kernel⟩, by decide⟩
theorem km_L_110 : Cond.methodLink RL 110 yX10_calm ∈ gt_tbl := gt_mem 1184 (by decide +kernel) rfl
theorem kv_X10_calm : gt_V yX10_calm cX10_calm 6 (some .int) 2 := ⟨gt_mem 1185 (by decide +kernel) rfl, gt_mem 1186 (by decide +kernel) rfl, gt_mem 11 (by decide +kernel) rfl, gt_mem 1187 (by decide +kernel) rfl, ⟨by decide +kernel, by decide +kernel, by decide +kernel⟩, by decide⟩
theorem kc_X10_287 : Cond.constantLong RX10 287 1000000000 ∈ gt_tbl := gt_mem 1188 (by decide +kernel) rfl
theorem km_L_114 : Cond.methodLink RL 114 yX10_mark ∈ gt_tbl := gt_mem 1189 (by decide +kernel) rfl
theorem kv_X10_mark : gt_V yX10_mark cX10_mark 4 (some .int) 3 := ⟨gt_mem 1190 (by decide +kernel) rfl, gt_mem 1191 (by decide +kernel) rfl, gt_mem 11 (by decide +kernel) rfl, gt_mem 1192 (by decide +kernel) rfl, ⟨by decide +kernel, by decide +kernel, by decide +kernel⟩, by decide⟩
theorem km_L_118 : Cond.methodLink RL 118 yX10_look ∈ gt_tbl := gt_mem 1193 (by decide +kernel) rfl
theorem kv_X10_look : gt_V yX10_look cX10_look 7 (some .int) 0 := ⟨gt_mem 1194 (by decide +kernel) rfl, gt_mem 1195 (by decide +kernel) rfl, gt_mem 11 (by decide +kernel) rfl, gt_mem 1196 (by decide +kernel) rfl, ⟨by decide +kernel, by decide +kernel, by decide +kernel⟩, by decide⟩
theorem km_X10_293 : Cond.methodLink RX10 293 yX10_bits ∈ gt_tbl := gt_mem 1197 (by decide +kernel) rfl
theorem kv_X10_bits : gt_S yX10_bits cX10_bits 3 (some .int) 1 := ⟨gt_mem 1198 (by decide +kernel) rfl, gt_mem 11 (by decide +kernel) rfl, gt_mem 1199 (by decide +kernel) rfl, ⟨by decide +kernel, by decide +kernel, by decide +kernel⟩, by decide⟩
theorem km_X10_296 : Cond.methodLink RX10 296 yX10_greatestPart ∈ gt_tbl := gt_mem 1200 (by decide +kernel) rfl
theorem kv_X10_greatestPart : gt_V yX10_greatestPart cX10_greatestPart 7 (some .int) 2 := ⟨gt_mem 1202 (by decide +kernel) rfl, gt_memp (y := yX10_greatestPart) (c := 29) 66 (by decide +kernel), gt_mem 11 (by decide +kernel) rfl, gt_mem 1203 (by decide +kernel) rfl, ⟨by decide +kernel, by decide +kernel, by decide +kernel⟩, by decide⟩
theorem km_L_122 : Cond.methodLink RL 122 yX10_see ∈ gt_tbl := gt_mem 1204 (by decide +kernel) rfl
theorem kv_X10_see : gt_V yX10_see cX10_see 4 (some .int) 3 := ⟨gt_mem 1205 (by decide +kernel) rfl, gt_mem 1206 (by decide +kernel) rfl, gt_mem 11 (by decide +kernel) rfl, gt_mem 1207 (by decide +kernel) rfl, ⟨by decide +kernel, by decide +kernel, by decide +kernel⟩, by decide⟩
theorem kc_X10_299 : Cond.constantLong RX10 299 9 ∈ gt_tbl := gt_mem 1208 (by decide +kernel) rfl
theorem km_L_126 : Cond.methodLink RL 126 yX10_write ∈ gt_tbl := gt_mem 1209 (by decide +kernel) rfl
theorem kv_X10_write : gt_V yX10_write cX10_write 3 (some .int) 2 := ⟨gt_mem 1210 (by decide +kernel) rfl, gt_mem 1211 (by decide +kernel) rfl, gt_mem 11 (by decide +kernel) rfl, gt_mem 1212 (by decide +kernel) rfl, ⟨by decide +kernel, by decide +kernel, by decide +kernel⟩, by decide⟩
theorem km_L_130 : Cond.methodLink RL 130 yX10_tear ∈ gt_tbl := gt_mem 1213 (by decide +kernel) rfl
theorem kv_X10_tear : gt_V yX10_tear cX10_tear 2 (some .int) 0 := ⟨gt_mem 1214 (by decide +kernel) rfl, gt_mem 1215 (by decide +kernel) rfl, gt_mem 11 (by decide +kernel) rfl, gt_mem 1216 (by decide +kernel) rfl, ⟨by decide +kernel, by decide +kernel, by decide +kernel⟩, by decide⟩
theorem km_L_134 : Cond.methodLink RL 134 yX10_judge ∈ gt_tbl := gt_mem 1217 (by decide +kernel) rfl
theorem kv_X10_judge : gt_V yX10_judge cX10_judge 2 (some .int) 0 := ⟨gt_mem 1218 (by decide +kernel) rfl, gt_mem 1219 (by decide +kernel) rfl, gt_mem 11 (by decide +kernel) rfl, gt_mem 1220 (by decide +kernel) rfl, ⟨by decide +kernel, by decide +kernel, by decide +kernel⟩, by decide⟩
theorem km_L_138 : Cond.methodLink RL 138 yX10_seed ∈ gt_tbl := gt_mem 1221 (by decide +kernel) rfl
theorem kv_X10_seed : gt_V yX10_seed cX10_seed 3 (some .int) 1 := ⟨gt_mem 1222 (by decide +kernel) rfl, gt_mem 1223 (by decide +kernel) rfl, gt_mem 11 (by decide +kernel) rfl, gt_mem 1224 (by decide +kernel) rfl, ⟨by decide +kernel, by decide +kernel, by decide +kernel⟩, by decide⟩
theorem km_L_142 : Cond.methodLink RL 142 yX10_keep ∈ gt_tbl := gt_mem 1225 (by decide +kernel) rfl
theorem kv_X10_keep : gt_V yX10_keep cX10_keep 2 (some .int) 1 := ⟨gt_mem 1226 (by decide +kernel) rfl, gt_mem 1227 (by decide +kernel) rfl, gt_mem 11 (by decide +kernel) rfl, gt_mem 1228 (by decide +kernel) rfl, ⟨by decide +kernel, by decide +kernel, by decide +kernel⟩, by decide⟩
theorem km_L_146 : Cond.methodLink RL 146 yX10_goBack ∈ gt_tbl := gt_mem 1229 (by decide +kernel) rfl
theorem kv_X10_goBack : gt_V yX10_goBack cX10_goBack 2 (some .int) 1 := ⟨gt_mem 1230 (by decide +kernel) rfl, gt_mem 1231 (by decide +kernel) rfl, gt_mem 11 (by decide +kernel) rfl, gt_mem 1232 (by decide +kernel) rfl, ⟨by decide +kernel, by decide +kernel, by decide +kernel⟩, by decide⟩
theorem kmath_max : Cond.static Lib.Math.max.name ∈ gt_tbl ∧ Cond.initialized "java/lang/Math" ∈ gt_tbl ∧ Cond.code Lib.Math.max.name Lib.Math.max.code 2 (some .int) ∈ gt_tbl := ⟨gt_mem 454 (by decide +kernel) rfl, gt_mem 13 (by decide +kernel) rfl, gt_mem 455 (by decide +kernel) rfl⟩
theorem kmath_min : Cond.static Lib.Math.min.name ∈ gt_tbl ∧ Cond.initialized "java/lang/Math" ∈ gt_tbl ∧ Cond.code Lib.Math.min.name Lib.Math.min.code 2 (some .int) ∈ gt_tbl := ⟨gt_mem 519 (by decide +kernel) rfl, gt_mem 13 (by decide +kernel) rfl, gt_mem 520 (by decide +kernel) rfl⟩
theorem kmath_abs : Cond.static Lib.Math.abs.name ∈ gt_tbl ∧ Cond.initialized "java/lang/Math" ∈ gt_tbl ∧ Cond.code Lib.Math.abs.name Lib.Math.abs.code 1 (some .int) ∈ gt_tbl := ⟨gt_mem 451 (by decide +kernel) rfl, gt_mem 13 (by decide +kernel) rfl, gt_mem 452 (by decide +kernel) rfl⟩
theorem kcopy : Cond.native arraycopyName ∈ gt_tbl ∧ Cond.static arraycopyName ∈ gt_tbl ∧ Cond.initialized "java/lang/System" ∈ gt_tbl := ⟨gt_mem 497 (by decide +kernel) rfl, gt_mem 496 (by decide +kernel) rfl, gt_mem 14 (by decide +kernel) rfl⟩
theorem kcopy_w : nativeFrameWords "java/lang/System" "arraycopy" 5 + 11 ≤ 32 := by decide +kernel
theorem kobj : Cond.instanceMethod Lib.objectInit ∈ gt_tbl ∧ Cond.code Lib.objectInit ⟨#[0xb1]⟩ 1 none ∈ gt_tbl := ⟨gt_mem 21 (by decide +kernel) rfl, gt_mem 22 (by decide +kernel) rfl⟩
theorem karrI : Cond.arrayClass .int ∈ gt_tbl := gt_mem 45 (by decide +kernel) rfl
theorem karrZ : Cond.arrayClass .boolean ∈ gt_tbl := gt_mem 905 (by decide +kernel) rfl
theorem kl_L_7 : Cond.classLink RL 7 "GurdyTide" ∈ gt_tbl := gt_mem 15 (by decide +kernel) rfl
theorem kn_L_7 : gt_Nw RL 7 9 12 [.null, .null, .null, .null, .null, .null, .null, .null, .null, .null, .null, .int 0] := ⟨_, _, tyX9, rfl, kl_L_7, gt_mem 16 (by decide +kernel) rfl, gt_mem 1 (by decide +kernel) rfl, kin_X9, tyX9_ok, by decide +kernel⟩
theorem kl_X9_7 : Cond.classLink RX9 7 "GurdyTide$Reader" ∈ gt_tbl := gt_mem 23 (by decide +kernel) rfl
theorem kn_X9_7 : gt_Nw RX9 7 6 5 [.null, .int 0, .int 0, .int 0, .int 0] := ⟨_, _, tyX6, rfl, kl_X9_7, gt_mem 24 (by decide +kernel) rfl, gt_mem 2 (by decide +kernel) rfl, kin_X6, tyX6_ok, by decide +kernel⟩
theorem kl_X9_16 : Cond.classLink RX9 16 "GurdyTide$Coast" ∈ gt_tbl := gt_mem 46 (by decide +kernel) rfl
theorem kn_X9_16 : gt_Nw RX9 16 0 11 [.int 0, .int 0, .int 0, .int 0, .null, .null, .null, .null, .null, .null, .null] := ⟨_, _, tyX0, rfl, kl_X9_16, gt_mem 47 (by decide +kernel) rfl, gt_mem 3 (by decide +kernel) rfl, kin_X0, tyX0_ok, by decide +kernel⟩
theorem kl_X9_26 : Cond.classLink RX9 26 "GurdyTide$State" ∈ gt_tbl := gt_mem 125 (by decide +kernel) rfl
theorem kn_X9_26 : gt_Nw RX9 26 8 6 [.int 0, .int 0, .null, .null, .null, .null] := ⟨_, _, tyX8, rfl, kl_X9_26, gt_mem 126 (by decide +kernel) rfl, gt_mem 4 (by decide +kernel) rfl, kin_X8, tyX8_ok, by decide +kernel⟩
theorem kl_X9_36 : Cond.classLink RX9 36 "GurdyTide$Past" ∈ gt_tbl := gt_mem 161 (by decide +kernel) rfl
theorem kn_X9_36 : gt_Nw RX9 36 4 3 [.null, .int 0, .int 0] := ⟨_, _, tyX4, rfl, kl_X9_36, gt_mem 162 (by decide +kernel) rfl, gt_mem 5 (by decide +kernel) rfl, kin_X4, tyX4_ok, by decide +kernel⟩
theorem kl_X4_9 : Cond.classLink RX4 9 "GurdyTide$State" ∈ gt_tbl := gt_mem 167 (by decide +kernel) rfl
theorem kn_X4_9 : gt_Nw RX4 9 8 6 [.int 0, .int 0, .null, .null, .null, .null] := ⟨_, _, tyX8, rfl, kl_X4_9, gt_mem 126 (by decide +kernel) rfl, gt_mem 4 (by decide +kernel) rfl, kin_X8, tyX8_ok, by decide +kernel⟩
theorem kl_X9_43 : Cond.classLink RX9 43 "GurdyTide$Image" ∈ gt_tbl := gt_mem 181 (by decide +kernel) rfl
theorem kn_X9_43 : gt_Nw RX9 43 2 3 [.null, .int 0, .int 0] := ⟨_, _, tyX2, rfl, kl_X9_43, gt_mem 276 (by decide +kernel) rfl, gt_mem 10 (by decide +kernel) rfl, kin_X2, tyX2_ok, by decide +kernel⟩
theorem kl_X9_49 : Cond.classLink RX9 49 "GurdyTide$Draws" ∈ gt_tbl := gt_mem 183 (by decide +kernel) rfl
theorem kn_X9_49 : gt_Nw RX9 49 1 1 [.int 0] := ⟨_, _, tyX1, rfl, kl_X9_49, gt_mem 184 (by decide +kernel) rfl, gt_mem 6 (by decide +kernel) rfl, kin_X1, tyX1_ok, by decide +kernel⟩
theorem kl_X9_56 : Cond.classLink RX9 56 "GurdyTide$Notes" ∈ gt_tbl := gt_mem 194 (by decide +kernel) rfl
theorem kn_X9_56 : gt_Nw RX9 56 3 11 [.int 0, .int 0, .int 0, .null, .null, .null, .null, .null, .null, .null, .null] := ⟨_, _, tyX3, rfl, kl_X9_56, gt_mem 195 (by decide +kernel) rfl, gt_mem 7 (by decide +kernel) rfl, kin_X3, tyX3_ok, by decide +kernel⟩
theorem kl_X9_63 : Cond.classLink RX9 63 "GurdyTide$Plan" ∈ gt_tbl := gt_mem 237 (by decide +kernel) rfl
theorem kn_X9_63 : gt_Nw RX9 63 5 6 [.null, .null, .null, .null, .int 0, .int 0] := ⟨_, _, tyX5, rfl, kl_X9_63, gt_mem 238 (by decide +kernel) rfl, gt_mem 8 (by decide +kernel) rfl, kin_X5, tyX5_ok, by decide +kernel⟩
theorem kl_X5_18 : Cond.classLink RX5 18 "[[I" ∈ gt_tbl := gt_mem 243 (by decide +kernel) rfl
theorem kl_X9_70 : Cond.classLink RX9 70 "GurdyTide$Sleepers" ∈ gt_tbl := gt_mem 265 (by decide +kernel) rfl
theorem kn_X9_70 : gt_Nw RX9 70 7 1 [.null] := ⟨_, _, tyX7, rfl, kl_X9_70, gt_mem 266 (by decide +kernel) rfl, gt_mem 9 (by decide +kernel) rfl, kin_X7, tyX7_ok, by decide +kernel⟩
theorem kl_X7_9 : Cond.classLink RX7 9 "[[I" ∈ gt_tbl := gt_mem 271 (by decide +kernel) rfl
theorem kl_X2_7 : Cond.classLink RX2 7 "GurdyTide$State" ∈ gt_tbl := gt_mem 281 (by decide +kernel) rfl
theorem kn_X2_7 : gt_Nw RX2 7 8 6 [.int 0, .int 0, .null, .null, .null, .null] := ⟨_, _, tyX8, rfl, kl_X2_7, gt_mem 126 (by decide +kernel) rfl, gt_mem 4 (by decide +kernel) rfl, kin_X8, tyX8_ok, by decide +kernel⟩
theorem kl_L_10 : Cond.classLink RL 10 "GurdyTideModel" ∈ gt_tbl := gt_mem 799 (by decide +kernel) rfl
theorem kn_L_10 : gt_Nw RL 10 10 29 [.null, .null, .null, .null, .null, .int 0, .null, .null, .long 0, .null, .int 0, .int 0, .null, .int 0, .null, .int 0, .null, .int 0, .int 0, .int 0, .int 0, .int 0, .int 0, .int 0, .null, .null, .int 0, .int 0, .null] := ⟨_, _, tyX10, rfl, kl_L_10, gt_mem 800 (by decide +kernel) rfl, gt_mem 11 (by decide +kernel) rfl, kin_X10, tyX10_ok, by decide +kernel⟩
end
section
theorem dX0_init_0 : decode cX0_init 0 = .ok (.aload_n 0, 1) := by decide +kernel
theorem dX0_init_1 : decode cX0_init 1 = .ok (.invokespecial 3, 3) := by decide +kernel
theorem dX0_init_4 : decode cX0_init 4 = .ok (.aload_n 0, 1) := by decide +kernel
theorem dX0_init_5 : decode cX0_init 5 = .ok (.bipush 10, 2) := by decide +kernel
theorem dX0_init_7 : decode cX0_init 7 = .ok (.newarray .int, 2) := by decide +kernel
theorem dX0_init_9 : decode cX0_init 9 = .ok (.putfield 9, 3) := by decide +kernel
theorem dX0_init_12 : decode cX0_init 12 = .ok (.aload_n 0, 1) := by decide +kernel
theorem dX0_init_13 : decode cX0_init 13 = .ok (.bipush 6, 2) := by decide +kernel
theorem dX0_init_15 : decode cX0_init 15 = .ok (.newarray .int, 2) := by decide +kernel
theorem dX0_init_17 : decode cX0_init 17 = .ok (.putfield 15, 3) := by decide +kernel
theorem dX0_init_20 : decode cX0_init 20 = .ok (.aload_n 0, 1) := by decide +kernel
theorem dX0_init_21 : decode cX0_init 21 = .ok (.bipush 6, 2) := by decide +kernel
theorem dX0_init_23 : decode cX0_init 23 = .ok (.newarray .int, 2) := by decide +kernel
theorem dX0_init_25 : decode cX0_init 25 = .ok (.putfield 18, 3) := by decide +kernel
theorem dX0_init_28 : decode cX0_init 28 = .ok (.aload_n 0, 1) := by decide +kernel
theorem dX0_init_29 : decode cX0_init 29 = .ok (.bipush 6, 2) := by decide +kernel
theorem dX0_init_31 : decode cX0_init 31 = .ok (.newarray .int, 2) := by decide +kernel
theorem dX0_init_33 : decode cX0_init 33 = .ok (.putfield 21, 3) := by decide +kernel
theorem dX0_init_36 : decode cX0_init 36 = .ok (.aload_n 0, 1) := by decide +kernel
theorem dX0_init_37 : decode cX0_init 37 = .ok (.iconst 4, 1) := by decide +kernel
theorem dX0_init_38 : decode cX0_init 38 = .ok (.newarray .int, 2) := by decide +kernel
theorem dX0_init_40 : decode cX0_init 40 = .ok (.putfield 24, 3) := by decide +kernel
theorem dX0_init_43 : decode cX0_init 43 = .ok (.aload_n 0, 1) := by decide +kernel
theorem dX0_init_44 : decode cX0_init 44 = .ok (.iconst 4, 1) := by decide +kernel
theorem dX0_init_45 : decode cX0_init 45 = .ok (.newarray .int, 2) := by decide +kernel
theorem dX0_init_47 : decode cX0_init 47 = .ok (.putfield 27, 3) := by decide +kernel
theorem dX0_init_50 : decode cX0_init 50 = .ok (.aload_n 0, 1) := by decide +kernel
theorem dX0_init_51 : decode cX0_init 51 = .ok (.iconst 4, 1) := by decide +kernel
theorem dX0_init_52 : decode cX0_init 52 = .ok (.newarray .int, 2) := by decide +kernel
theorem dX0_init_54 : decode cX0_init 54 = .ok (.putfield 30, 3) := by decide +kernel
theorem dX0_init_57 : decode cX0_init 57 = .ok (.return_, 1) := by decide +kernel
theorem dX0_clear_0 : decode cX0_clear 0 = .ok (.aload_n 0, 1) := by decide +kernel
theorem dX0_clear_1 : decode cX0_clear 1 = .ok (.iconst 0, 1) := by decide +kernel
theorem dX0_clear_2 : decode cX0_clear 2 = .ok (.putfield 33, 3) := by decide +kernel
theorem dX0_clear_5 : decode cX0_clear 5 = .ok (.aload_n 0, 1) := by decide +kernel
theorem dX0_clear_6 : decode cX0_clear 6 = .ok (.iconst 0, 1) := by decide +kernel
theorem dX0_clear_7 : decode cX0_clear 7 = .ok (.putfield 37, 3) := by decide +kernel
theorem dX0_clear_10 : decode cX0_clear 10 = .ok (.aload_n 0, 1) := by decide +kernel
theorem dX0_clear_11 : decode cX0_clear 11 = .ok (.iconst 0, 1) := by decide +kernel
theorem dX0_clear_12 : decode cX0_clear 12 = .ok (.putfield 40, 3) := by decide +kernel
theorem dX0_clear_15 : decode cX0_clear 15 = .ok (.aload_n 0, 1) := by decide +kernel
theorem dX0_clear_16 : decode cX0_clear 16 = .ok (.iconst 0, 1) := by decide +kernel
theorem dX0_clear_17 : decode cX0_clear 17 = .ok (.putfield 43, 3) := by decide +kernel
theorem dX0_clear_20 : decode cX0_clear 20 = .ok (.return_, 1) := by decide +kernel
theorem dX0_hasCell_0 : decode cX0_hasCell 0 = .ok (.iload_n 1, 1) := by decide +kernel
theorem dX0_hasCell_1 : decode cX0_hasCell 1 = .ok (.ifCond .lt 15, 3) := by decide +kernel
theorem dX0_hasCell_4 : decode cX0_hasCell 4 = .ok (.iload_n 1, 1) := by decide +kernel
theorem dX0_hasCell_5 : decode cX0_hasCell 5 = .ok (.aload_n 0, 1) := by decide +kernel
theorem dX0_hasCell_6 : decode cX0_hasCell 6 = .ok (.getfield 33, 3) := by decide +kernel
theorem dX0_hasCell_9 : decode cX0_hasCell 9 = .ok (.if_icmp .ge 7, 3) := by decide +kernel
theorem dX0_hasCell_12 : decode cX0_hasCell 12 = .ok (.iconst 1, 1) := by decide +kernel
theorem dX0_hasCell_13 : decode cX0_hasCell 13 = .ok (.goto 4, 3) := by decide +kernel
theorem dX0_hasCell_16 : decode cX0_hasCell 16 = .ok (.iconst 0, 1) := by decide +kernel
theorem dX0_hasCell_17 : decode cX0_hasCell 17 = .ok (.ireturn, 1) := by decide +kernel
theorem dX0_hasTower_0 : decode cX0_hasTower 0 = .ok (.iload_n 1, 1) := by decide +kernel
theorem dX0_hasTower_1 : decode cX0_hasTower 1 = .ok (.ifCond .lt 15, 3) := by decide +kernel
theorem dX0_hasTower_4 : decode cX0_hasTower 4 = .ok (.iload_n 1, 1) := by decide +kernel
theorem dX0_hasTower_5 : decode cX0_hasTower 5 = .ok (.aload_n 0, 1) := by decide +kernel
theorem dX0_hasTower_6 : decode cX0_hasTower 6 = .ok (.getfield 37, 3) := by decide +kernel
theorem dX0_hasTower_9 : decode cX0_hasTower 9 = .ok (.if_icmp .ge 7, 3) := by decide +kernel
theorem dX0_hasTower_12 : decode cX0_hasTower 12 = .ok (.iconst 1, 1) := by decide +kernel
theorem dX0_hasTower_13 : decode cX0_hasTower 13 = .ok (.goto 4, 3) := by decide +kernel
theorem dX0_hasTower_16 : decode cX0_hasTower 16 = .ok (.iconst 0, 1) := by decide +kernel
theorem dX0_hasTower_17 : decode cX0_hasTower 17 = .ok (.ireturn, 1) := by decide +kernel
theorem dX0_hasPlayer_0 : decode cX0_hasPlayer 0 = .ok (.iload_n 1, 1) := by decide +kernel
theorem dX0_hasPlayer_1 : decode cX0_hasPlayer 1 = .ok (.ifCond .lt 15, 3) := by decide +kernel
theorem dX0_hasPlayer_4 : decode cX0_hasPlayer 4 = .ok (.iload_n 1, 1) := by decide +kernel
theorem dX0_hasPlayer_5 : decode cX0_hasPlayer 5 = .ok (.aload_n 0, 1) := by decide +kernel
theorem dX0_hasPlayer_6 : decode cX0_hasPlayer 6 = .ok (.getfield 40, 3) := by decide +kernel
theorem dX0_hasPlayer_9 : decode cX0_hasPlayer 9 = .ok (.if_icmp .ge 7, 3) := by decide +kernel
theorem dX0_hasPlayer_12 : decode cX0_hasPlayer 12 = .ok (.iconst 1, 1) := by decide +kernel
theorem dX0_hasPlayer_13 : decode cX0_hasPlayer 13 = .ok (.goto 4, 3) := by decide +kernel
theorem dX0_hasPlayer_16 : decode cX0_hasPlayer 16 = .ok (.iconst 0, 1) := by decide +kernel
theorem dX0_hasPlayer_17 : decode cX0_hasPlayer 17 = .ok (.ireturn, 1) := by decide +kernel
theorem dX0_hasBoat_0 : decode cX0_hasBoat 0 = .ok (.iload_n 1, 1) := by decide +kernel
theorem dX0_hasBoat_1 : decode cX0_hasBoat 1 = .ok (.ifCond .lt 15, 3) := by decide +kernel
theorem dX0_hasBoat_4 : decode cX0_hasBoat 4 = .ok (.iload_n 1, 1) := by decide +kernel
theorem dX0_hasBoat_5 : decode cX0_hasBoat 5 = .ok (.aload_n 0, 1) := by decide +kernel
theorem dX0_hasBoat_6 : decode cX0_hasBoat 6 = .ok (.getfield 43, 3) := by decide +kernel
theorem dX0_hasBoat_9 : decode cX0_hasBoat 9 = .ok (.if_icmp .ge 7, 3) := by decide +kernel
theorem dX0_hasBoat_12 : decode cX0_hasBoat 12 = .ok (.iconst 1, 1) := by decide +kernel
theorem dX0_hasBoat_13 : decode cX0_hasBoat 13 = .ok (.goto 4, 3) := by decide +kernel
theorem dX0_hasBoat_16 : decode cX0_hasBoat 16 = .ok (.iconst 0, 1) := by decide +kernel
theorem dX0_hasBoat_17 : decode cX0_hasBoat 17 = .ok (.ireturn, 1) := by decide +kernel
theorem dX0_bears_0 : decode cX0_bears 0 = .ok (.iconst 0, 1) := by decide +kernel
theorem dX0_bears_1 : decode cX0_bears 1 = .ok (.iload_n 2, 1) := by decide +kernel
theorem dX0_bears_2 : decode cX0_bears 2 = .ok (.aload_n 0, 1) := by decide +kernel
theorem dX0_bears_3 : decode cX0_bears 3 = .ok (.getfield 18, 3) := by decide +kernel
theorem dX0_bears_6 : decode cX0_bears 6 = .ok (.iload_n 1, 1) := by decide +kernel
theorem dX0_bears_7 : decode cX0_bears 7 = .ok (.iaload, 1) := by decide +kernel
theorem dX0_bears_8 : decode cX0_bears 8 = .ok (.iload_n 3, 1) := by decide +kernel
theorem dX0_bears_9 : decode cX0_bears 9 = .ok (.aload_n 0, 1) := by decide +kernel
theorem dX0_bears_10 : decode cX0_bears 10 = .ok (.getfield 15, 3) := by decide +kernel
theorem dX0_bears_13 : decode cX0_bears 13 = .ok (.iload_n 1, 1) := by decide +kernel
theorem dX0_bears_14 : decode cX0_bears 14 = .ok (.iaload, 1) := by decide +kernel
theorem dX0_bears_15 : decode cX0_bears 15 = .ok (.isub, 1) := by decide +kernel
theorem dX0_bears_16 : decode cX0_bears 16 = .ok (.invokestatic 46, 3) := by decide +kernel
theorem dX0_bears_19 : decode cX0_bears 19 = .ok (.imul, 1) := by decide +kernel
theorem dX0_bears_20 : decode cX0_bears 20 = .ok (.isub, 1) := by decide +kernel
theorem dX0_bears_21 : decode cX0_bears 21 = .ok (.invokestatic 52, 3) := by decide +kernel
theorem dX0_bears_24 : decode cX0_bears 24 = .ok (.ireturn, 1) := by decide +kernel
theorem dX1_init_0 : decode cX1_init 0 = .ok (.aload_n 0, 1) := by decide +kernel
theorem dX1_init_1 : decode cX1_init 1 = .ok (.invokespecial 3, 3) := by decide +kernel
theorem dX1_init_4 : decode cX1_init 4 = .ok (.return_, 1) := by decide +kernel
theorem dX1_next_0 : decode cX1_next 0 = .ok (.aload_n 0, 1) := by decide +kernel
theorem dX1_next_1 : decode cX1_next 1 = .ok (.aload_n 0, 1) := by decide +kernel
theorem dX1_next_2 : decode cX1_next 2 = .ok (.getfield 9, 3) := by decide +kernel
theorem dX1_next_5 : decode cX1_next 5 = .ok (.i2l, 1) := by decide +kernel
theorem dX1_next_6 : decode cX1_next 6 = .ok (.ldc2_w 15, 3) := by decide +kernel
theorem dX1_next_9 : decode cX1_next 9 = .ok (.lmul, 1) := by decide +kernel
theorem dX1_next_10 : decode cX1_next 10 = .ok (.ldc2_w 17, 3) := by decide +kernel
theorem dX1_next_13 : decode cX1_next 13 = .ok (.ladd, 1) := by decide +kernel
theorem dX1_next_14 : decode cX1_next 14 = .ok (.ldc2_w 21, 3) := by decide +kernel
theorem dX1_next_17 : decode cX1_next 17 = .ok (.land, 1) := by decide +kernel
theorem dX1_next_18 : decode cX1_next 18 = .ok (.l2i, 1) := by decide +kernel
theorem dX1_next_19 : decode cX1_next 19 = .ok (.putfield 9, 3) := by decide +kernel
theorem dX1_next_22 : decode cX1_next 22 = .ok (.iload_n 1, 1) := by decide +kernel
theorem dX1_next_23 : decode cX1_next 23 = .ok (.ifCond .gt 7, 3) := by decide +kernel
theorem dX1_next_26 : decode cX1_next 26 = .ok (.iconst 0, 1) := by decide +kernel
theorem dX1_next_27 : decode cX1_next 27 = .ok (.goto 12, 3) := by decide +kernel
theorem dX1_next_30 : decode cX1_next 30 = .ok (.aload_n 0, 1) := by decide +kernel
theorem dX1_next_31 : decode cX1_next 31 = .ok (.getfield 9, 3) := by decide +kernel
theorem dX1_next_34 : decode cX1_next 34 = .ok (.ldc 23, 2) := by decide +kernel
theorem dX1_next_36 : decode cX1_next 36 = .ok (.idiv, 1) := by decide +kernel
theorem dX1_next_37 : decode cX1_next 37 = .ok (.iload_n 1, 1) := by decide +kernel
theorem dX1_next_38 : decode cX1_next 38 = .ok (.irem, 1) := by decide +kernel
theorem dX1_next_39 : decode cX1_next 39 = .ok (.ireturn, 1) := by decide +kernel
theorem dX1_stir_0 : decode cX1_stir 0 = .ok (.aload_n 1, 1) := by decide +kernel
theorem dX1_stir_1 : decode cX1_stir 1 = .ok (.getfield 24, 3) := by decide +kernel
theorem dX1_stir_4 : decode cX1_stir 4 = .ok (.ifCond .ne 4, 3) := by decide +kernel
theorem dX1_stir_7 : decode cX1_stir 7 = .ok (.return_, 1) := by decide +kernel
theorem dX1_stir_8 : decode cX1_stir 8 = .ok (.aload_n 0, 1) := by decide +kernel
theorem dX1_stir_9 : decode cX1_stir 9 = .ok (.aload_n 1, 1) := by decide +kernel
theorem dX1_stir_10 : decode cX1_stir 10 = .ok (.getfield 24, 3) := by decide +kernel
theorem dX1_stir_13 : decode cX1_stir 13 = .ok (.invokevirtual 29, 3) := by decide +kernel
theorem dX1_stir_16 : decode cX1_stir 16 = .ok (.istore_n 3, 1) := by decide +kernel
theorem dX1_stir_17 : decode cX1_stir 17 = .ok (.aload_n 0, 1) := by decide +kernel
theorem dX1_stir_18 : decode cX1_stir 18 = .ok (.bipush 6, 2) := by decide +kernel
theorem dX1_stir_20 : decode cX1_stir 20 = .ok (.invokevirtual 29, 3) := by decide +kernel
theorem dX1_stir_23 : decode cX1_stir 23 = .ok (.tableswitch 67 0 3 #[29, 38, 47, 57], 29) := by decide +kernel
theorem dX1_stir_52 : decode cX1_stir 52 = .ok (.aload_n 2, 1) := by decide +kernel
theorem dX1_stir_53 : decode cX1_stir 53 = .ok (.iload_n 3, 1) := by decide +kernel
theorem dX1_stir_54 : decode cX1_stir 54 = .ok (.iconst 1, 1) := by decide +kernel
theorem dX1_stir_55 : decode cX1_stir 55 = .ok (.invokevirtual 33, 3) := by decide +kernel
theorem dX1_stir_58 : decode cX1_stir 58 = .ok (.goto 32, 3) := by decide +kernel
theorem dX1_stir_61 : decode cX1_stir 61 = .ok (.aload_n 2, 1) := by decide +kernel
theorem dX1_stir_62 : decode cX1_stir 62 = .ok (.iload_n 3, 1) := by decide +kernel
theorem dX1_stir_63 : decode cX1_stir 63 = .ok (.iconst 0, 1) := by decide +kernel
theorem dX1_stir_64 : decode cX1_stir 64 = .ok (.invokevirtual 33, 3) := by decide +kernel
theorem dX1_stir_67 : decode cX1_stir 67 = .ok (.goto 23, 3) := by decide +kernel
theorem dX1_stir_70 : decode cX1_stir 70 = .ok (.aload_n 2, 1) := by decide +kernel
theorem dX1_stir_71 : decode cX1_stir 71 = .ok (.getfield 39, 3) := by decide +kernel
theorem dX1_stir_74 : decode cX1_stir 74 = .ok (.iload_n 3, 1) := by decide +kernel
theorem dX1_stir_75 : decode cX1_stir 75 = .ok (.iconst (-1), 1) := by decide +kernel
theorem dX1_stir_76 : decode cX1_stir 76 = .ok (.iastore, 1) := by decide +kernel
theorem dX1_stir_77 : decode cX1_stir 77 = .ok (.goto 13, 3) := by decide +kernel
theorem dX1_stir_80 : decode cX1_stir 80 = .ok (.aload_n 0, 1) := by decide +kernel
theorem dX1_stir_81 : decode cX1_stir 81 = .ok (.aload_n 1, 1) := by decide +kernel
theorem dX1_stir_82 : decode cX1_stir 82 = .ok (.aload_n 2, 1) := by decide +kernel
theorem dX1_stir_83 : decode cX1_stir 83 = .ok (.iload_n 3, 1) := by decide +kernel
theorem dX1_stir_84 : decode cX1_stir 84 = .ok (.invokevirtual 43, 3) := by decide +kernel
theorem dX1_stir_87 : decode cX1_stir 87 = .ok (.goto 3, 3) := by decide +kernel
theorem dX1_stir_90 : decode cX1_stir 90 = .ok (.return_, 1) := by decide +kernel
theorem dX1_sitByDraw_0 : decode cX1_sitByDraw 0 = .ok (.aload_n 1, 1) := by decide +kernel
theorem dX1_sitByDraw_1 : decode cX1_sitByDraw 1 = .ok (.getfield 47, 3) := by decide +kernel
theorem dX1_sitByDraw_4 : decode cX1_sitByDraw 4 = .ok (.ifCond .ne 4, 3) := by decide +kernel
theorem dX1_sitByDraw_7 : decode cX1_sitByDraw 7 = .ok (.return_, 1) := by decide +kernel
theorem dX1_sitByDraw_8 : decode cX1_sitByDraw 8 = .ok (.aload_n 0, 1) := by decide +kernel
theorem dX1_sitByDraw_9 : decode cX1_sitByDraw 9 = .ok (.aload_n 1, 1) := by decide +kernel
theorem dX1_sitByDraw_10 : decode cX1_sitByDraw 10 = .ok (.getfield 47, 3) := by decide +kernel
theorem dX1_sitByDraw_13 : decode cX1_sitByDraw 13 = .ok (.invokevirtual 29, 3) := by decide +kernel
theorem dX1_sitByDraw_16 : decode cX1_sitByDraw 16 = .ok (.istore 4, 2) := by decide +kernel
theorem dX1_sitByDraw_18 : decode cX1_sitByDraw 18 = .ok (.aload_n 2, 1) := by decide +kernel
theorem dX1_sitByDraw_19 : decode cX1_sitByDraw 19 = .ok (.aload_n 1, 1) := by decide +kernel
theorem dX1_sitByDraw_20 : decode cX1_sitByDraw 20 = .ok (.iload 4, 2) := by decide +kernel
theorem dX1_sitByDraw_22 : decode cX1_sitByDraw 22 = .ok (.invokevirtual 50, 3) := by decide +kernel
theorem dX1_sitByDraw_25 : decode cX1_sitByDraw 25 = .ok (.iconst (-1), 1) := by decide +kernel
theorem dX1_sitByDraw_26 : decode cX1_sitByDraw 26 = .ok (.if_icmp .ne 11, 3) := by decide +kernel
theorem dX1_sitByDraw_29 : decode cX1_sitByDraw 29 = .ok (.aload_n 2, 1) := by decide +kernel
theorem dX1_sitByDraw_30 : decode cX1_sitByDraw 30 = .ok (.getfield 39, 3) := by decide +kernel
theorem dX1_sitByDraw_33 : decode cX1_sitByDraw 33 = .ok (.iload_n 3, 1) := by decide +kernel
theorem dX1_sitByDraw_34 : decode cX1_sitByDraw 34 = .ok (.iload 4, 2) := by decide +kernel
theorem dX1_sitByDraw_36 : decode cX1_sitByDraw 36 = .ok (.iastore, 1) := by decide +kernel
theorem dX1_sitByDraw_37 : decode cX1_sitByDraw 37 = .ok (.return_, 1) := by decide +kernel
theorem dX2_init_0 : decode cX2_init 0 = .ok (.aload_n 0, 1) := by decide +kernel
theorem dX2_init_1 : decode cX2_init 1 = .ok (.invokespecial 1, 3) := by decide +kernel
theorem dX2_init_4 : decode cX2_init 4 = .ok (.aload_n 0, 1) := by decide +kernel
theorem dX2_init_5 : decode cX2_init 5 = .ok (.new 7, 3) := by decide +kernel
theorem dX2_init_8 : decode cX2_init 8 = .ok (.dup, 1) := by decide +kernel
theorem dX2_init_9 : decode cX2_init 9 = .ok (.invokespecial 9, 3) := by decide +kernel
theorem dX2_init_12 : decode cX2_init 12 = .ok (.putfield 10, 3) := by decide +kernel
theorem dX2_init_15 : decode cX2_init 15 = .ok (.return_, 1) := by decide +kernel
theorem dX3_init_0 : decode cX3_init 0 = .ok (.aload_n 0, 1) := by decide +kernel
theorem dX3_init_1 : decode cX3_init 1 = .ok (.invokespecial 3, 3) := by decide +kernel
theorem dX3_init_4 : decode cX3_init 4 = .ok (.aload_n 0, 1) := by decide +kernel
theorem dX3_init_5 : decode cX3_init 5 = .ok (.bipush 6, 2) := by decide +kernel
theorem dX3_init_7 : decode cX3_init 7 = .ok (.newarray .int, 2) := by decide +kernel
theorem dX3_init_9 : decode cX3_init 9 = .ok (.putfield 9, 3) := by decide +kernel
theorem dX3_init_12 : decode cX3_init 12 = .ok (.aload_n 0, 1) := by decide +kernel
theorem dX3_init_13 : decode cX3_init 13 = .ok (.bipush 6, 2) := by decide +kernel
theorem dX3_init_15 : decode cX3_init 15 = .ok (.newarray .int, 2) := by decide +kernel
theorem dX3_init_17 : decode cX3_init 17 = .ok (.putfield 15, 3) := by decide +kernel
theorem dX3_init_20 : decode cX3_init 20 = .ok (.aload_n 0, 1) := by decide +kernel
theorem dX3_init_21 : decode cX3_init 21 = .ok (.bipush 6, 2) := by decide +kernel
theorem dX3_init_23 : decode cX3_init 23 = .ok (.newarray .int, 2) := by decide +kernel
theorem dX3_init_25 : decode cX3_init 25 = .ok (.putfield 18, 3) := by decide +kernel
theorem dX3_init_28 : decode cX3_init 28 = .ok (.aload_n 0, 1) := by decide +kernel
theorem dX3_init_29 : decode cX3_init 29 = .ok (.bipush 6, 2) := by decide +kernel
theorem dX3_init_31 : decode cX3_init 31 = .ok (.newarray .int, 2) := by decide +kernel
theorem dX3_init_33 : decode cX3_init 33 = .ok (.putfield 21, 3) := by decide +kernel
theorem dX3_init_36 : decode cX3_init 36 = .ok (.aload_n 0, 1) := by decide +kernel
theorem dX3_init_37 : decode cX3_init 37 = .ok (.bipush 6, 2) := by decide +kernel
theorem dX3_init_39 : decode cX3_init 39 = .ok (.newarray .int, 2) := by decide +kernel
theorem dX3_init_41 : decode cX3_init 41 = .ok (.putfield 24, 3) := by decide +kernel
theorem dX3_init_44 : decode cX3_init 44 = .ok (.aload_n 0, 1) := by decide +kernel
theorem dX3_init_45 : decode cX3_init 45 = .ok (.bipush 6, 2) := by decide +kernel
theorem dX3_init_47 : decode cX3_init 47 = .ok (.newarray .int, 2) := by decide +kernel
theorem dX3_init_49 : decode cX3_init 49 = .ok (.putfield 27, 3) := by decide +kernel
theorem dX3_init_52 : decode cX3_init 52 = .ok (.aload_n 0, 1) := by decide +kernel
theorem dX3_init_53 : decode cX3_init 53 = .ok (.bipush 15, 2) := by decide +kernel
theorem dX3_init_55 : decode cX3_init 55 = .ok (.newarray .int, 2) := by decide +kernel
theorem dX3_init_57 : decode cX3_init 57 = .ok (.putfield 30, 3) := by decide +kernel
theorem dX3_init_60 : decode cX3_init 60 = .ok (.aload_n 0, 1) := by decide +kernel
theorem dX3_init_61 : decode cX3_init 61 = .ok (.bipush 15, 2) := by decide +kernel
theorem dX3_init_63 : decode cX3_init 63 = .ok (.newarray .int, 2) := by decide +kernel
theorem dX3_init_65 : decode cX3_init 65 = .ok (.putfield 33, 3) := by decide +kernel
theorem dX3_init_68 : decode cX3_init 68 = .ok (.return_, 1) := by decide +kernel
theorem dX3_clear_0 : decode cX3_clear 0 = .ok (.aload_n 0, 1) := by decide +kernel
theorem dX3_clear_1 : decode cX3_clear 1 = .ok (.iconst 0, 1) := by decide +kernel
theorem dX3_clear_2 : decode cX3_clear 2 = .ok (.putfield 36, 3) := by decide +kernel
theorem dX3_clear_5 : decode cX3_clear 5 = .ok (.aload_n 0, 1) := by decide +kernel
theorem dX3_clear_6 : decode cX3_clear 6 = .ok (.iconst 0, 1) := by decide +kernel
theorem dX3_clear_7 : decode cX3_clear 7 = .ok (.putfield 40, 3) := by decide +kernel
theorem dX3_clear_10 : decode cX3_clear 10 = .ok (.aload_n 0, 1) := by decide +kernel
theorem dX3_clear_11 : decode cX3_clear 11 = .ok (.iconst 0, 1) := by decide +kernel
theorem dX3_clear_12 : decode cX3_clear 12 = .ok (.putfield 43, 3) := by decide +kernel
theorem dX3_clear_15 : decode cX3_clear 15 = .ok (.return_, 1) := by decide +kernel
theorem dX3_addMark_0 : decode cX3_addMark 0 = .ok (.aload_n 0, 1) := by decide +kernel
theorem dX3_addMark_1 : decode cX3_addMark 1 = .ok (.getfield 36, 3) := by decide +kernel
theorem dX3_addMark_4 : decode cX3_addMark 4 = .ok (.bipush 6, 2) := by decide +kernel
theorem dX3_addMark_6 : decode cX3_addMark 6 = .ok (.if_icmp .lt 6, 3) := by decide +kernel
theorem dX3_addMark_9 : decode cX3_addMark 9 = .ok (.ldc 46, 2) := by decide +kernel
theorem dX3_addMark_11 : decode cX3_addMark 11 = .ok (.ireturn, 1) := by decide +kernel
theorem dX3_addMark_12 : decode cX3_addMark 12 = .ok (.aload_n 0, 1) := by decide +kernel
theorem dX3_addMark_13 : decode cX3_addMark 13 = .ok (.getfield 9, 3) := by decide +kernel
theorem dX3_addMark_16 : decode cX3_addMark 16 = .ok (.aload_n 0, 1) := by decide +kernel
theorem dX3_addMark_17 : decode cX3_addMark 17 = .ok (.getfield 36, 3) := by decide +kernel
theorem dX3_addMark_20 : decode cX3_addMark 20 = .ok (.iload_n 1, 1) := by decide +kernel
theorem dX3_addMark_21 : decode cX3_addMark 21 = .ok (.iastore, 1) := by decide +kernel
theorem dX3_addMark_22 : decode cX3_addMark 22 = .ok (.aload_n 0, 1) := by decide +kernel
theorem dX3_addMark_23 : decode cX3_addMark 23 = .ok (.getfield 15, 3) := by decide +kernel
theorem dX3_addMark_26 : decode cX3_addMark 26 = .ok (.aload_n 0, 1) := by decide +kernel
theorem dX3_addMark_27 : decode cX3_addMark 27 = .ok (.getfield 36, 3) := by decide +kernel
theorem dX3_addMark_30 : decode cX3_addMark 30 = .ok (.iload_n 2, 1) := by decide +kernel
theorem dX3_addMark_31 : decode cX3_addMark 31 = .ok (.iastore, 1) := by decide +kernel
theorem dX3_addMark_32 : decode cX3_addMark 32 = .ok (.aload_n 0, 1) := by decide +kernel
theorem dX3_addMark_33 : decode cX3_addMark 33 = .ok (.getfield 18, 3) := by decide +kernel
theorem dX3_addMark_36 : decode cX3_addMark 36 = .ok (.aload_n 0, 1) := by decide +kernel
theorem dX3_addMark_37 : decode cX3_addMark 37 = .ok (.getfield 36, 3) := by decide +kernel
theorem dX3_addMark_40 : decode cX3_addMark 40 = .ok (.iload_n 3, 1) := by decide +kernel
theorem dX3_addMark_41 : decode cX3_addMark 41 = .ok (.iastore, 1) := by decide +kernel
theorem dX3_addMark_42 : decode cX3_addMark 42 = .ok (.aload_n 0, 1) := by decide +kernel
theorem dX3_addMark_43 : decode cX3_addMark 43 = .ok (.dup, 1) := by decide +kernel
theorem dX3_addMark_44 : decode cX3_addMark 44 = .ok (.getfield 36, 3) := by decide +kernel
theorem dX3_addMark_47 : decode cX3_addMark 47 = .ok (.iconst 1, 1) := by decide +kernel
theorem dX3_addMark_48 : decode cX3_addMark 48 = .ok (.iadd, 1) := by decide +kernel
theorem dX3_addMark_49 : decode cX3_addMark 49 = .ok (.putfield 36, 3) := by decide +kernel
theorem dX3_addMark_52 : decode cX3_addMark 52 = .ok (.aload_n 0, 1) := by decide +kernel
theorem dX3_addMark_53 : decode cX3_addMark 53 = .ok (.getfield 36, 3) := by decide +kernel
theorem dX3_addMark_56 : decode cX3_addMark 56 = .ok (.ireturn, 1) := by decide +kernel
theorem dX3_addSeen_0 : decode cX3_addSeen 0 = .ok (.aload_n 0, 1) := by decide +kernel
theorem dX3_addSeen_1 : decode cX3_addSeen 1 = .ok (.getfield 40, 3) := by decide +kernel
theorem dX3_addSeen_4 : decode cX3_addSeen 4 = .ok (.bipush 6, 2) := by decide +kernel
theorem dX3_addSeen_6 : decode cX3_addSeen 6 = .ok (.if_icmp .lt 6, 3) := by decide +kernel
theorem dX3_addSeen_9 : decode cX3_addSeen 9 = .ok (.ldc 46, 2) := by decide +kernel
theorem dX3_addSeen_11 : decode cX3_addSeen 11 = .ok (.ireturn, 1) := by decide +kernel
theorem dX3_addSeen_12 : decode cX3_addSeen 12 = .ok (.aload_n 0, 1) := by decide +kernel
theorem dX3_addSeen_13 : decode cX3_addSeen 13 = .ok (.getfield 21, 3) := by decide +kernel
theorem dX3_addSeen_16 : decode cX3_addSeen 16 = .ok (.aload_n 0, 1) := by decide +kernel
theorem dX3_addSeen_17 : decode cX3_addSeen 17 = .ok (.getfield 40, 3) := by decide +kernel
theorem dX3_addSeen_20 : decode cX3_addSeen 20 = .ok (.iload_n 1, 1) := by decide +kernel
theorem dX3_addSeen_21 : decode cX3_addSeen 21 = .ok (.iastore, 1) := by decide +kernel
theorem dX3_addSeen_22 : decode cX3_addSeen 22 = .ok (.aload_n 0, 1) := by decide +kernel
theorem dX3_addSeen_23 : decode cX3_addSeen 23 = .ok (.getfield 24, 3) := by decide +kernel
theorem dX3_addSeen_26 : decode cX3_addSeen 26 = .ok (.aload_n 0, 1) := by decide +kernel
theorem dX3_addSeen_27 : decode cX3_addSeen 27 = .ok (.getfield 40, 3) := by decide +kernel
theorem dX3_addSeen_30 : decode cX3_addSeen 30 = .ok (.iload_n 2, 1) := by decide +kernel
theorem dX3_addSeen_31 : decode cX3_addSeen 31 = .ok (.iastore, 1) := by decide +kernel
theorem dX3_addSeen_32 : decode cX3_addSeen 32 = .ok (.aload_n 0, 1) := by decide +kernel
theorem dX3_addSeen_33 : decode cX3_addSeen 33 = .ok (.getfield 27, 3) := by decide +kernel
theorem dX3_addSeen_36 : decode cX3_addSeen 36 = .ok (.aload_n 0, 1) := by decide +kernel
theorem dX3_addSeen_37 : decode cX3_addSeen 37 = .ok (.getfield 40, 3) := by decide +kernel
theorem dX3_addSeen_40 : decode cX3_addSeen 40 = .ok (.iload_n 3, 1) := by decide +kernel
theorem dX3_addSeen_41 : decode cX3_addSeen 41 = .ok (.iastore, 1) := by decide +kernel
theorem dX3_addSeen_42 : decode cX3_addSeen 42 = .ok (.aload_n 0, 1) := by decide +kernel
theorem dX3_addSeen_43 : decode cX3_addSeen 43 = .ok (.dup, 1) := by decide +kernel
theorem dX3_addSeen_44 : decode cX3_addSeen 44 = .ok (.getfield 40, 3) := by decide +kernel
theorem dX3_addSeen_47 : decode cX3_addSeen 47 = .ok (.iconst 1, 1) := by decide +kernel
theorem dX3_addSeen_48 : decode cX3_addSeen 48 = .ok (.iadd, 1) := by decide +kernel
theorem dX3_addSeen_49 : decode cX3_addSeen 49 = .ok (.putfield 40, 3) := by decide +kernel
theorem dX3_addSeen_52 : decode cX3_addSeen 52 = .ok (.aload_n 0, 1) := by decide +kernel
theorem dX3_addSeen_53 : decode cX3_addSeen 53 = .ok (.getfield 40, 3) := by decide +kernel
theorem dX3_addSeen_56 : decode cX3_addSeen 56 = .ok (.ireturn, 1) := by decide +kernel
theorem dX3_addEntry_0 : decode cX3_addEntry 0 = .ok (.aload_n 0, 1) := by decide +kernel
theorem dX3_addEntry_1 : decode cX3_addEntry 1 = .ok (.getfield 43, 3) := by decide +kernel
theorem dX3_addEntry_4 : decode cX3_addEntry 4 = .ok (.bipush 15, 2) := by decide +kernel
theorem dX3_addEntry_6 : decode cX3_addEntry 6 = .ok (.if_icmp .lt 6, 3) := by decide +kernel
theorem dX3_addEntry_9 : decode cX3_addEntry 9 = .ok (.ldc 46, 2) := by decide +kernel
theorem dX3_addEntry_11 : decode cX3_addEntry 11 = .ok (.ireturn, 1) := by decide +kernel
theorem dX3_addEntry_12 : decode cX3_addEntry 12 = .ok (.aload_n 0, 1) := by decide +kernel
theorem dX3_addEntry_13 : decode cX3_addEntry 13 = .ok (.getfield 30, 3) := by decide +kernel
theorem dX3_addEntry_16 : decode cX3_addEntry 16 = .ok (.aload_n 0, 1) := by decide +kernel
theorem dX3_addEntry_17 : decode cX3_addEntry 17 = .ok (.getfield 43, 3) := by decide +kernel
theorem dX3_addEntry_20 : decode cX3_addEntry 20 = .ok (.iload_n 1, 1) := by decide +kernel
theorem dX3_addEntry_21 : decode cX3_addEntry 21 = .ok (.iastore, 1) := by decide +kernel
theorem dX3_addEntry_22 : decode cX3_addEntry 22 = .ok (.aload_n 0, 1) := by decide +kernel
theorem dX3_addEntry_23 : decode cX3_addEntry 23 = .ok (.getfield 33, 3) := by decide +kernel
theorem dX3_addEntry_26 : decode cX3_addEntry 26 = .ok (.aload_n 0, 1) := by decide +kernel
theorem dX3_addEntry_27 : decode cX3_addEntry 27 = .ok (.getfield 43, 3) := by decide +kernel
theorem dX3_addEntry_30 : decode cX3_addEntry 30 = .ok (.iload_n 2, 1) := by decide +kernel
theorem dX3_addEntry_31 : decode cX3_addEntry 31 = .ok (.iastore, 1) := by decide +kernel
theorem dX3_addEntry_32 : decode cX3_addEntry 32 = .ok (.aload_n 0, 1) := by decide +kernel
theorem dX3_addEntry_33 : decode cX3_addEntry 33 = .ok (.dup, 1) := by decide +kernel
theorem dX3_addEntry_34 : decode cX3_addEntry 34 = .ok (.getfield 43, 3) := by decide +kernel
theorem dX3_addEntry_37 : decode cX3_addEntry 37 = .ok (.iconst 1, 1) := by decide +kernel
theorem dX3_addEntry_38 : decode cX3_addEntry 38 = .ok (.iadd, 1) := by decide +kernel
theorem dX3_addEntry_39 : decode cX3_addEntry 39 = .ok (.putfield 43, 3) := by decide +kernel
theorem dX3_addEntry_42 : decode cX3_addEntry 42 = .ok (.aload_n 0, 1) := by decide +kernel
theorem dX3_addEntry_43 : decode cX3_addEntry 43 = .ok (.getfield 43, 3) := by decide +kernel
theorem dX3_addEntry_46 : decode cX3_addEntry 46 = .ok (.ireturn, 1) := by decide +kernel
theorem dX3_lastMark_0 : decode cX3_lastMark 0 = .ok (.iconst 0, 1) := by decide +kernel
theorem dX3_lastMark_1 : decode cX3_lastMark 1 = .ok (.istore_n 1, 1) := by decide +kernel
theorem dX3_lastMark_2 : decode cX3_lastMark 2 = .ok (.iconst 0, 1) := by decide +kernel
theorem dX3_lastMark_3 : decode cX3_lastMark 3 = .ok (.istore_n 2, 1) := by decide +kernel
theorem dX3_lastMark_4 : decode cX3_lastMark 4 = .ok (.iload_n 2, 1) := by decide +kernel
theorem dX3_lastMark_5 : decode cX3_lastMark 5 = .ok (.aload_n 0, 1) := by decide +kernel
theorem dX3_lastMark_6 : decode cX3_lastMark 6 = .ok (.getfield 36, 3) := by decide +kernel
theorem dX3_lastMark_9 : decode cX3_lastMark 9 = .ok (.if_icmp .ge 20, 3) := by decide +kernel
theorem dX3_lastMark_12 : decode cX3_lastMark 12 = .ok (.iload_n 1, 1) := by decide +kernel
theorem dX3_lastMark_13 : decode cX3_lastMark 13 = .ok (.aload_n 0, 1) := by decide +kernel
theorem dX3_lastMark_14 : decode cX3_lastMark 14 = .ok (.getfield 15, 3) := by decide +kernel
theorem dX3_lastMark_17 : decode cX3_lastMark 17 = .ok (.iload_n 2, 1) := by decide +kernel
theorem dX3_lastMark_18 : decode cX3_lastMark 18 = .ok (.iaload, 1) := by decide +kernel
theorem dX3_lastMark_19 : decode cX3_lastMark 19 = .ok (.invokestatic 47, 3) := by decide +kernel
theorem dX3_lastMark_22 : decode cX3_lastMark 22 = .ok (.istore_n 1, 1) := by decide +kernel
theorem dX3_lastMark_23 : decode cX3_lastMark 23 = .ok (.iinc 2 1, 3) := by decide +kernel
theorem dX3_lastMark_26 : decode cX3_lastMark 26 = .ok (.goto (-22), 3) := by decide +kernel
theorem dX3_lastMark_29 : decode cX3_lastMark 29 = .ok (.iload_n 1, 1) := by decide +kernel
theorem dX3_lastMark_30 : decode cX3_lastMark 30 = .ok (.ireturn, 1) := by decide +kernel
theorem dX3_marksAreSo_0 : decode cX3_marksAreSo 0 = .ok (.iconst 0, 1) := by decide +kernel
theorem dX3_marksAreSo_1 : decode cX3_marksAreSo 1 = .ok (.istore 4, 2) := by decide +kernel
theorem dX3_marksAreSo_3 : decode cX3_marksAreSo 3 = .ok (.iload 4, 2) := by decide +kernel
theorem dX3_marksAreSo_5 : decode cX3_marksAreSo 5 = .ok (.aload_n 0, 1) := by decide +kernel
theorem dX3_marksAreSo_6 : decode cX3_marksAreSo 6 = .ok (.getfield 36, 3) := by decide +kernel
theorem dX3_marksAreSo_9 : decode cX3_marksAreSo 9 = .ok (.if_icmp .ge 44, 3) := by decide +kernel
theorem dX3_marksAreSo_12 : decode cX3_marksAreSo 12 = .ok (.aload_n 0, 1) := by decide +kernel
theorem dX3_marksAreSo_13 : decode cX3_marksAreSo 13 = .ok (.getfield 15, 3) := by decide +kernel
theorem dX3_marksAreSo_16 : decode cX3_marksAreSo 16 = .ok (.iload 4, 2) := by decide +kernel
theorem dX3_marksAreSo_18 : decode cX3_marksAreSo 18 = .ok (.iaload, 1) := by decide +kernel
theorem dX3_marksAreSo_19 : decode cX3_marksAreSo 19 = .ok (.iload_n 1, 1) := by decide +kernel
theorem dX3_marksAreSo_20 : decode cX3_marksAreSo 20 = .ok (.if_icmp .ne 27, 3) := by decide +kernel
theorem dX3_marksAreSo_23 : decode cX3_marksAreSo 23 = .ok (.aload_n 3, 1) := by decide +kernel
theorem dX3_marksAreSo_24 : decode cX3_marksAreSo 24 = .ok (.aload_n 2, 1) := by decide +kernel
theorem dX3_marksAreSo_25 : decode cX3_marksAreSo 25 = .ok (.aload_n 0, 1) := by decide +kernel
theorem dX3_marksAreSo_26 : decode cX3_marksAreSo 26 = .ok (.getfield 9, 3) := by decide +kernel
theorem dX3_marksAreSo_29 : decode cX3_marksAreSo 29 = .ok (.iload 4, 2) := by decide +kernel
theorem dX3_marksAreSo_31 : decode cX3_marksAreSo 31 = .ok (.iaload, 1) := by decide +kernel
theorem dX3_marksAreSo_32 : decode cX3_marksAreSo 32 = .ok (.invokevirtual 53, 3) := by decide +kernel
theorem dX3_marksAreSo_35 : decode cX3_marksAreSo 35 = .ok (.aload_n 0, 1) := by decide +kernel
theorem dX3_marksAreSo_36 : decode cX3_marksAreSo 36 = .ok (.getfield 18, 3) := by decide +kernel
theorem dX3_marksAreSo_39 : decode cX3_marksAreSo 39 = .ok (.iload 4, 2) := by decide +kernel
theorem dX3_marksAreSo_41 : decode cX3_marksAreSo 41 = .ok (.iaload, 1) := by decide +kernel
theorem dX3_marksAreSo_42 : decode cX3_marksAreSo 42 = .ok (.if_icmp .eq 5, 3) := by decide +kernel
theorem dX3_marksAreSo_45 : decode cX3_marksAreSo 45 = .ok (.iconst 0, 1) := by decide +kernel
theorem dX3_marksAreSo_46 : decode cX3_marksAreSo 46 = .ok (.ireturn, 1) := by decide +kernel
theorem dX3_marksAreSo_47 : decode cX3_marksAreSo 47 = .ok (.iinc 4 1, 3) := by decide +kernel
theorem dX3_marksAreSo_50 : decode cX3_marksAreSo 50 = .ok (.goto (-47), 3) := by decide +kernel
theorem dX3_marksAreSo_53 : decode cX3_marksAreSo 53 = .ok (.iconst 1, 1) := by decide +kernel
theorem dX3_marksAreSo_54 : decode cX3_marksAreSo 54 = .ok (.ireturn, 1) := by decide +kernel
theorem dX3_guts_0 : decode cX3_guts 0 = .ok (.iconst 0, 1) := by decide +kernel
theorem dX3_guts_1 : decode cX3_guts 1 = .ok (.istore_n 1, 1) := by decide +kernel
theorem dX3_guts_2 : decode cX3_guts 2 = .ok (.iconst 1, 1) := by decide +kernel
theorem dX3_guts_3 : decode cX3_guts 3 = .ok (.istore_n 2, 1) := by decide +kernel
theorem dX3_guts_4 : decode cX3_guts 4 = .ok (.iload_n 2, 1) := by decide +kernel
theorem dX3_guts_5 : decode cX3_guts 5 = .ok (.bipush 20, 2) := by decide +kernel
theorem dX3_guts_7 : decode cX3_guts 7 = .ok (.if_icmp .gt 23, 3) := by decide +kernel
theorem dX3_guts_10 : decode cX3_guts 10 = .ok (.aload_n 0, 1) := by decide +kernel
theorem dX3_guts_11 : decode cX3_guts 11 = .ok (.iload_n 2, 1) := by decide +kernel
theorem dX3_guts_12 : decode cX3_guts 12 = .ok (.invokevirtual 59, 3) := by decide +kernel
theorem dX3_guts_15 : decode cX3_guts 15 = .ok (.ifCond .eq 9, 3) := by decide +kernel
theorem dX3_guts_18 : decode cX3_guts 18 = .ok (.iload_n 1, 1) := by decide +kernel
theorem dX3_guts_19 : decode cX3_guts 19 = .ok (.iconst 1, 1) := by decide +kernel
theorem dX3_guts_20 : decode cX3_guts 20 = .ok (.iload_n 2, 1) := by decide +kernel
theorem dX3_guts_21 : decode cX3_guts 21 = .ok (.ishl, 1) := by decide +kernel
theorem dX3_guts_22 : decode cX3_guts 22 = .ok (.ior, 1) := by decide +kernel
theorem dX3_guts_23 : decode cX3_guts 23 = .ok (.istore_n 1, 1) := by decide +kernel
theorem dX3_guts_24 : decode cX3_guts 24 = .ok (.iinc 2 1, 3) := by decide +kernel
theorem dX3_guts_27 : decode cX3_guts 27 = .ok (.goto (-23), 3) := by decide +kernel
theorem dX3_guts_30 : decode cX3_guts 30 = .ok (.iload_n 1, 1) := by decide +kernel
theorem dX3_guts_31 : decode cX3_guts 31 = .ok (.ireturn, 1) := by decide +kernel
theorem dX3_seenIsSo_0 : decode cX3_seenIsSo 0 = .ok (.iconst 0, 1) := by decide +kernel
theorem dX3_seenIsSo_1 : decode cX3_seenIsSo 1 = .ok (.istore_n 2, 1) := by decide +kernel
theorem dX3_seenIsSo_2 : decode cX3_seenIsSo 2 = .ok (.iload_n 2, 1) := by decide +kernel
theorem dX3_seenIsSo_3 : decode cX3_seenIsSo 3 = .ok (.aload_n 0, 1) := by decide +kernel
theorem dX3_seenIsSo_4 : decode cX3_seenIsSo 4 = .ok (.getfield 40, 3) := by decide +kernel
theorem dX3_seenIsSo_7 : decode cX3_seenIsSo 7 = .ok (.if_icmp .ge 39, 3) := by decide +kernel
theorem dX3_seenIsSo_10 : decode cX3_seenIsSo 10 = .ok (.iconst 0, 1) := by decide +kernel
theorem dX3_seenIsSo_11 : decode cX3_seenIsSo 11 = .ok (.aload_n 0, 1) := by decide +kernel
theorem dX3_seenIsSo_12 : decode cX3_seenIsSo 12 = .ok (.getfield 21, 3) := by decide +kernel
theorem dX3_seenIsSo_15 : decode cX3_seenIsSo 15 = .ok (.iload_n 2, 1) := by decide +kernel
theorem dX3_seenIsSo_16 : decode cX3_seenIsSo 16 = .ok (.iaload, 1) := by decide +kernel
theorem dX3_seenIsSo_17 : decode cX3_seenIsSo 17 = .ok (.iload_n 1, 1) := by decide +kernel
theorem dX3_seenIsSo_18 : decode cX3_seenIsSo 18 = .ok (.aload_n 0, 1) := by decide +kernel
theorem dX3_seenIsSo_19 : decode cX3_seenIsSo 19 = .ok (.getfield 24, 3) := by decide +kernel
theorem dX3_seenIsSo_22 : decode cX3_seenIsSo 22 = .ok (.iload_n 2, 1) := by decide +kernel
theorem dX3_seenIsSo_23 : decode cX3_seenIsSo 23 = .ok (.iaload, 1) := by decide +kernel
theorem dX3_seenIsSo_24 : decode cX3_seenIsSo 24 = .ok (.imul, 1) := by decide +kernel
theorem dX3_seenIsSo_25 : decode cX3_seenIsSo 25 = .ok (.isub, 1) := by decide +kernel
theorem dX3_seenIsSo_26 : decode cX3_seenIsSo 26 = .ok (.invokestatic 47, 3) := by decide +kernel
theorem dX3_seenIsSo_29 : decode cX3_seenIsSo 29 = .ok (.aload_n 0, 1) := by decide +kernel
theorem dX3_seenIsSo_30 : decode cX3_seenIsSo 30 = .ok (.getfield 27, 3) := by decide +kernel
theorem dX3_seenIsSo_33 : decode cX3_seenIsSo 33 = .ok (.iload_n 2, 1) := by decide +kernel
theorem dX3_seenIsSo_34 : decode cX3_seenIsSo 34 = .ok (.iaload, 1) := by decide +kernel
theorem dX3_seenIsSo_35 : decode cX3_seenIsSo 35 = .ok (.if_icmp .eq 5, 3) := by decide +kernel
theorem dX3_seenIsSo_38 : decode cX3_seenIsSo 38 = .ok (.iconst 0, 1) := by decide +kernel
theorem dX3_seenIsSo_39 : decode cX3_seenIsSo 39 = .ok (.ireturn, 1) := by decide +kernel
theorem dX3_seenIsSo_40 : decode cX3_seenIsSo 40 = .ok (.iinc 2 1, 3) := by decide +kernel
theorem dX3_seenIsSo_43 : decode cX3_seenIsSo 43 = .ok (.goto (-41), 3) := by decide +kernel
theorem dX3_seenIsSo_46 : decode cX3_seenIsSo 46 = .ok (.iconst 1, 1) := by decide +kernel
theorem dX3_seenIsSo_47 : decode cX3_seenIsSo 47 = .ok (.ireturn, 1) := by decide +kernel
theorem dX3_firstWrong_0 : decode cX3_firstWrong 0 = .ok (.iconst 0, 1) := by decide +kernel
theorem dX3_firstWrong_1 : decode cX3_firstWrong 1 = .ok (.istore_n 3, 1) := by decide +kernel
theorem dX3_firstWrong_2 : decode cX3_firstWrong 2 = .ok (.iload_n 3, 1) := by decide +kernel
theorem dX3_firstWrong_3 : decode cX3_firstWrong 3 = .ok (.aload_n 0, 1) := by decide +kernel
theorem dX3_firstWrong_4 : decode cX3_firstWrong 4 = .ok (.getfield 43, 3) := by decide +kernel
theorem dX3_firstWrong_7 : decode cX3_firstWrong 7 = .ok (.if_icmp .ge 31, 3) := by decide +kernel
theorem dX3_firstWrong_10 : decode cX3_firstWrong 10 = .ok (.aload_n 2, 1) := by decide +kernel
theorem dX3_firstWrong_11 : decode cX3_firstWrong 11 = .ok (.aload_n 1, 1) := by decide +kernel
theorem dX3_firstWrong_12 : decode cX3_firstWrong 12 = .ok (.aload_n 0, 1) := by decide +kernel
theorem dX3_firstWrong_13 : decode cX3_firstWrong 13 = .ok (.getfield 30, 3) := by decide +kernel
theorem dX3_firstWrong_16 : decode cX3_firstWrong 16 = .ok (.iload_n 3, 1) := by decide +kernel
theorem dX3_firstWrong_17 : decode cX3_firstWrong 17 = .ok (.iaload, 1) := by decide +kernel
theorem dX3_firstWrong_18 : decode cX3_firstWrong 18 = .ok (.invokevirtual 53, 3) := by decide +kernel
theorem dX3_firstWrong_21 : decode cX3_firstWrong 21 = .ok (.aload_n 0, 1) := by decide +kernel
theorem dX3_firstWrong_22 : decode cX3_firstWrong 22 = .ok (.getfield 33, 3) := by decide +kernel
theorem dX3_firstWrong_25 : decode cX3_firstWrong 25 = .ok (.iload_n 3, 1) := by decide +kernel
theorem dX3_firstWrong_26 : decode cX3_firstWrong 26 = .ok (.iaload, 1) := by decide +kernel
theorem dX3_firstWrong_27 : decode cX3_firstWrong 27 = .ok (.if_icmp .eq 5, 3) := by decide +kernel
theorem dX3_firstWrong_30 : decode cX3_firstWrong 30 = .ok (.iload_n 3, 1) := by decide +kernel
theorem dX3_firstWrong_31 : decode cX3_firstWrong 31 = .ok (.ireturn, 1) := by decide +kernel
theorem dX3_firstWrong_32 : decode cX3_firstWrong 32 = .ok (.iinc 3 1, 3) := by decide +kernel
theorem dX3_firstWrong_35 : decode cX3_firstWrong 35 = .ok (.goto (-33), 3) := by decide +kernel
theorem dX3_firstWrong_38 : decode cX3_firstWrong 38 = .ok (.iconst (-1), 1) := by decide +kernel
theorem dX3_firstWrong_39 : decode cX3_firstWrong 39 = .ok (.ireturn, 1) := by decide +kernel
theorem dX4_init_0 : decode cX4_init 0 = .ok (.aload_n 0, 1) := by decide +kernel
theorem dX4_init_1 : decode cX4_init 1 = .ok (.invokespecial 3, 3) := by decide +kernel
theorem dX4_init_4 : decode cX4_init 4 = .ok (.aload_n 0, 1) := by decide +kernel
theorem dX4_init_5 : decode cX4_init 5 = .ok (.bipush 16, 2) := by decide +kernel
theorem dX4_init_7 : decode cX4_init 7 = .ok (.anewarray 9, 3) := by decide +kernel
theorem dX4_init_10 : decode cX4_init 10 = .ok (.putfield 11, 3) := by decide +kernel
theorem dX4_init_13 : decode cX4_init 13 = .ok (.iconst 0, 1) := by decide +kernel
theorem dX4_init_14 : decode cX4_init 14 = .ok (.istore_n 1, 1) := by decide +kernel
theorem dX4_init_15 : decode cX4_init 15 = .ok (.iload_n 1, 1) := by decide +kernel
theorem dX4_init_16 : decode cX4_init 16 = .ok (.bipush 16, 2) := by decide +kernel
theorem dX4_init_18 : decode cX4_init 18 = .ok (.if_icmp .ge 22, 3) := by decide +kernel
theorem dX4_init_21 : decode cX4_init 21 = .ok (.aload_n 0, 1) := by decide +kernel
theorem dX4_init_22 : decode cX4_init 22 = .ok (.getfield 11, 3) := by decide +kernel
theorem dX4_init_25 : decode cX4_init 25 = .ok (.iload_n 1, 1) := by decide +kernel
theorem dX4_init_26 : decode cX4_init 26 = .ok (.new 9, 3) := by decide +kernel
theorem dX4_init_29 : decode cX4_init 29 = .ok (.dup, 1) := by decide +kernel
theorem dX4_init_30 : decode cX4_init 30 = .ok (.invokespecial 17, 3) := by decide +kernel
theorem dX4_init_33 : decode cX4_init 33 = .ok (.aastore, 1) := by decide +kernel
theorem dX4_init_34 : decode cX4_init 34 = .ok (.iinc 1 1, 3) := by decide +kernel
theorem dX4_init_37 : decode cX4_init 37 = .ok (.goto (-22), 3) := by decide +kernel
theorem dX4_init_40 : decode cX4_init 40 = .ok (.return_, 1) := by decide +kernel
theorem dX4_remember_0 : decode cX4_remember 0 = .ok (.aload_n 0, 1) := by decide +kernel
theorem dX4_remember_1 : decode cX4_remember 1 = .ok (.getfield 11, 3) := by decide +kernel
theorem dX4_remember_4 : decode cX4_remember 4 = .ok (.aload_n 0, 1) := by decide +kernel
theorem dX4_remember_5 : decode cX4_remember 5 = .ok (.getfield 18, 3) := by decide +kernel
theorem dX4_remember_8 : decode cX4_remember 8 = .ok (.aaload, 1) := by decide +kernel
theorem dX4_remember_9 : decode cX4_remember 9 = .ok (.aload_n 1, 1) := by decide +kernel
theorem dX4_remember_10 : decode cX4_remember 10 = .ok (.invokevirtual 22, 3) := by decide +kernel
theorem dX4_remember_13 : decode cX4_remember 13 = .ok (.aload_n 0, 1) := by decide +kernel
theorem dX4_remember_14 : decode cX4_remember 14 = .ok (.aload_n 0, 1) := by decide +kernel
theorem dX4_remember_15 : decode cX4_remember 15 = .ok (.getfield 18, 3) := by decide +kernel
theorem dX4_remember_18 : decode cX4_remember 18 = .ok (.iconst 1, 1) := by decide +kernel
theorem dX4_remember_19 : decode cX4_remember 19 = .ok (.iadd, 1) := by decide +kernel
theorem dX4_remember_20 : decode cX4_remember 20 = .ok (.bipush 16, 2) := by decide +kernel
theorem dX4_remember_22 : decode cX4_remember 22 = .ok (.irem, 1) := by decide +kernel
theorem dX4_remember_23 : decode cX4_remember 23 = .ok (.putfield 18, 3) := by decide +kernel
theorem dX4_remember_26 : decode cX4_remember 26 = .ok (.aload_n 0, 1) := by decide +kernel
theorem dX4_remember_27 : decode cX4_remember 27 = .ok (.bipush 16, 2) := by decide +kernel
theorem dX4_remember_29 : decode cX4_remember 29 = .ok (.aload_n 0, 1) := by decide +kernel
theorem dX4_remember_30 : decode cX4_remember 30 = .ok (.getfield 26, 3) := by decide +kernel
theorem dX4_remember_33 : decode cX4_remember 33 = .ok (.iconst 1, 1) := by decide +kernel
theorem dX4_remember_34 : decode cX4_remember 34 = .ok (.iadd, 1) := by decide +kernel
theorem dX4_remember_35 : decode cX4_remember 35 = .ok (.invokestatic 29, 3) := by decide +kernel
theorem dX4_remember_38 : decode cX4_remember 38 = .ok (.putfield 26, 3) := by decide +kernel
theorem dX4_remember_41 : decode cX4_remember 41 = .ok (.return_, 1) := by decide +kernel
theorem dX4_recall_0 : decode cX4_recall 0 = .ok (.aload_n 0, 1) := by decide +kernel
theorem dX4_recall_1 : decode cX4_recall 1 = .ok (.aload_n 0, 1) := by decide +kernel
theorem dX4_recall_2 : decode cX4_recall 2 = .ok (.getfield 18, 3) := by decide +kernel
theorem dX4_recall_5 : decode cX4_recall 5 = .ok (.bipush 16, 2) := by decide +kernel
theorem dX4_recall_7 : decode cX4_recall 7 = .ok (.iadd, 1) := by decide +kernel
theorem dX4_recall_8 : decode cX4_recall 8 = .ok (.iconst 1, 1) := by decide +kernel
theorem dX4_recall_9 : decode cX4_recall 9 = .ok (.isub, 1) := by decide +kernel
theorem dX4_recall_10 : decode cX4_recall 10 = .ok (.bipush 16, 2) := by decide +kernel
theorem dX4_recall_12 : decode cX4_recall 12 = .ok (.irem, 1) := by decide +kernel
theorem dX4_recall_13 : decode cX4_recall 13 = .ok (.putfield 18, 3) := by decide +kernel
theorem dX4_recall_16 : decode cX4_recall 16 = .ok (.aload_n 0, 1) := by decide +kernel
theorem dX4_recall_17 : decode cX4_recall 17 = .ok (.dup, 1) := by decide +kernel
theorem dX4_recall_18 : decode cX4_recall 18 = .ok (.getfield 26, 3) := by decide +kernel
theorem dX4_recall_21 : decode cX4_recall 21 = .ok (.iconst 1, 1) := by decide +kernel
theorem dX4_recall_22 : decode cX4_recall 22 = .ok (.isub, 1) := by decide +kernel
theorem dX4_recall_23 : decode cX4_recall 23 = .ok (.putfield 26, 3) := by decide +kernel
theorem dX4_recall_26 : decode cX4_recall 26 = .ok (.aload_n 1, 1) := by decide +kernel
theorem dX4_recall_27 : decode cX4_recall 27 = .ok (.aload_n 0, 1) := by decide +kernel
theorem dX4_recall_28 : decode cX4_recall 28 = .ok (.getfield 11, 3) := by decide +kernel
theorem dX4_recall_31 : decode cX4_recall 31 = .ok (.aload_n 0, 1) := by decide +kernel
theorem dX4_recall_32 : decode cX4_recall 32 = .ok (.getfield 18, 3) := by decide +kernel
theorem dX4_recall_35 : decode cX4_recall 35 = .ok (.aaload, 1) := by decide +kernel
theorem dX4_recall_36 : decode cX4_recall 36 = .ok (.invokevirtual 22, 3) := by decide +kernel
theorem dX4_recall_39 : decode cX4_recall 39 = .ok (.return_, 1) := by decide +kernel
theorem dX4_forget_0 : decode cX4_forget 0 = .ok (.aload_n 0, 1) := by decide +kernel
theorem dX4_forget_1 : decode cX4_forget 1 = .ok (.iconst 0, 1) := by decide +kernel
theorem dX4_forget_2 : decode cX4_forget 2 = .ok (.putfield 26, 3) := by decide +kernel
theorem dX4_forget_5 : decode cX4_forget 5 = .ok (.return_, 1) := by decide +kernel
theorem dX5_init_0 : decode cX5_init 0 = .ok (.aload_n 0, 1) := by decide +kernel
theorem dX5_init_1 : decode cX5_init 1 = .ok (.invokespecial 3, 3) := by decide +kernel
theorem dX5_init_4 : decode cX5_init 4 = .ok (.aload_n 0, 1) := by decide +kernel
theorem dX5_init_5 : decode cX5_init 5 = .ok (.bipush 6, 2) := by decide +kernel
theorem dX5_init_7 : decode cX5_init 7 = .ok (.newarray .int, 2) := by decide +kernel
theorem dX5_init_9 : decode cX5_init 9 = .ok (.putfield 9, 3) := by decide +kernel
theorem dX5_init_12 : decode cX5_init 12 = .ok (.aload_n 0, 1) := by decide +kernel
theorem dX5_init_13 : decode cX5_init 13 = .ok (.bipush 6, 2) := by decide +kernel
theorem dX5_init_15 : decode cX5_init 15 = .ok (.newarray .int, 2) := by decide +kernel
theorem dX5_init_17 : decode cX5_init 17 = .ok (.putfield 15, 3) := by decide +kernel
theorem dX5_init_20 : decode cX5_init 20 = .ok (.aload_n 0, 1) := by decide +kernel
theorem dX5_init_21 : decode cX5_init 21 = .ok (.bipush 6, 2) := by decide +kernel
theorem dX5_init_23 : decode cX5_init 23 = .ok (.bipush 6, 2) := by decide +kernel
theorem dX5_init_25 : decode cX5_init 25 = .ok (.multianewarray 18 2, 4) := by decide +kernel
theorem dX5_init_29 : decode cX5_init 29 = .ok (.putfield 20, 3) := by decide +kernel
theorem dX5_init_32 : decode cX5_init 32 = .ok (.aload_n 0, 1) := by decide +kernel
theorem dX5_init_33 : decode cX5_init 33 = .ok (.bipush 7, 2) := by decide +kernel
theorem dX5_init_35 : decode cX5_init 35 = .ok (.bipush 7, 2) := by decide +kernel
theorem dX5_init_37 : decode cX5_init 37 = .ok (.multianewarray 18 2, 4) := by decide +kernel
theorem dX5_init_41 : decode cX5_init 41 = .ok (.putfield 23, 3) := by decide +kernel
theorem dX5_init_44 : decode cX5_init 44 = .ok (.return_, 1) := by decide +kernel
theorem dX5_search_0 : decode cX5_search 0 = .ok (.aload_n 0, 1) := by decide +kernel
theorem dX5_search_1 : decode cX5_search 1 = .ok (.iload 4, 2) := by decide +kernel
theorem dX5_search_3 : decode cX5_search 3 = .ok (.ifCond .ne 7, 3) := by decide +kernel
theorem dX5_search_6 : decode cX5_search 6 = .ok (.iconst 0, 1) := by decide +kernel
theorem dX5_search_7 : decode cX5_search 7 = .ok (.goto 22, 3) := by decide +kernel
theorem dX5_search_10 : decode cX5_search 10 = .ok (.iload 4, 2) := by decide +kernel
theorem dX5_search_12 : decode cX5_search 12 = .ok (.aload_n 1, 1) := by decide +kernel
theorem dX5_search_13 : decode cX5_search 13 = .ok (.getfield 26, 3) := by decide +kernel
theorem dX5_search_16 : decode cX5_search 16 = .ok (.iload_n 3, 1) := by decide +kernel
theorem dX5_search_17 : decode cX5_search 17 = .ok (.iaload, 1) := by decide +kernel
theorem dX5_search_18 : decode cX5_search 18 = .ok (.iadd, 1) := by decide +kernel
theorem dX5_search_19 : decode cX5_search 19 = .ok (.aload_n 0, 1) := by decide +kernel
theorem dX5_search_20 : decode cX5_search 20 = .ok (.aload_n 1, 1) := by decide +kernel
theorem dX5_search_21 : decode cX5_search 21 = .ok (.aload_n 2, 1) := by decide +kernel
theorem dX5_search_22 : decode cX5_search 22 = .ok (.iload_n 3, 1) := by decide +kernel
theorem dX5_search_23 : decode cX5_search 23 = .ok (.iload 5, 2) := by decide +kernel
theorem dX5_search_25 : decode cX5_search 25 = .ok (.invokevirtual 31, 3) := by decide +kernel
theorem dX5_search_28 : decode cX5_search 28 = .ok (.isub, 1) := by decide +kernel
theorem dX5_search_29 : decode cX5_search 29 = .ok (.putfield 35, 3) := by decide +kernel
theorem dX5_search_32 : decode cX5_search 32 = .ok (.aload_n 0, 1) := by decide +kernel
theorem dX5_search_33 : decode cX5_search 33 = .ok (.aload_n 1, 1) := by decide +kernel
theorem dX5_search_34 : decode cX5_search 34 = .ok (.aload_n 2, 1) := by decide +kernel
theorem dX5_search_35 : decode cX5_search 35 = .ok (.iload_n 3, 1) := by decide +kernel
theorem dX5_search_36 : decode cX5_search 36 = .ok (.iload 5, 2) := by decide +kernel
theorem dX5_search_38 : decode cX5_search 38 = .ok (.invokevirtual 39, 3) := by decide +kernel
theorem dX5_search_41 : decode cX5_search 41 = .ok (.aload_n 0, 1) := by decide +kernel
theorem dX5_search_42 : decode cX5_search 42 = .ok (.ldc 45, 2) := by decide +kernel
theorem dX5_search_44 : decode cX5_search 44 = .ok (.putfield 46, 3) := by decide +kernel
theorem dX5_search_47 : decode cX5_search 47 = .ok (.aload_n 1, 1) := by decide +kernel
theorem dX5_search_48 : decode cX5_search 48 = .ok (.getfield 49, 3) := by decide +kernel
theorem dX5_search_51 : decode cX5_search 51 = .ok (.aload_n 1, 1) := by decide +kernel
theorem dX5_search_52 : decode cX5_search 52 = .ok (.getfield 52, 3) := by decide +kernel
theorem dX5_search_55 : decode cX5_search 55 = .ok (.invokestatic 55, 3) := by decide +kernel
theorem dX5_search_58 : decode cX5_search 58 = .ok (.istore 6, 2) := by decide +kernel
theorem dX5_search_60 : decode cX5_search 60 = .ok (.iconst 0, 1) := by decide +kernel
theorem dX5_search_61 : decode cX5_search 61 = .ok (.istore 7, 2) := by decide +kernel
theorem dX5_search_63 : decode cX5_search 63 = .ok (.iload 7, 2) := by decide +kernel
theorem dX5_search_65 : decode cX5_search 65 = .ok (.iload 6, 2) := by decide +kernel
theorem dX5_search_67 : decode cX5_search 67 = .ok (.if_icmp .gt 32, 3) := by decide +kernel
theorem dX5_search_70 : decode cX5_search 70 = .ok (.aload_n 0, 1) := by decide +kernel
theorem dX5_search_71 : decode cX5_search 71 = .ok (.aload_n 1, 1) := by decide +kernel
theorem dX5_search_72 : decode cX5_search 72 = .ok (.iconst 0, 1) := by decide +kernel
theorem dX5_search_73 : decode cX5_search 73 = .ok (.iconst 0, 1) := by decide +kernel
theorem dX5_search_74 : decode cX5_search 74 = .ok (.iload 7, 2) := by decide +kernel
theorem dX5_search_76 : decode cX5_search 76 = .ok (.iconst 0, 1) := by decide +kernel
theorem dX5_search_77 : decode cX5_search 77 = .ok (.iconst 0, 1) := by decide +kernel
theorem dX5_search_78 : decode cX5_search 78 = .ok (.invokestatic 61, 3) := by decide +kernel
theorem dX5_search_81 : decode cX5_search 81 = .ok (.aload_n 0, 1) := by decide +kernel
theorem dX5_search_82 : decode cX5_search 82 = .ok (.getfield 46, 3) := by decide +kernel
theorem dX5_search_85 : decode cX5_search 85 = .ok (.ldc 45, 2) := by decide +kernel
theorem dX5_search_87 : decode cX5_search 87 = .ok (.if_icmp .eq 6, 3) := by decide +kernel
theorem dX5_search_90 : decode cX5_search 90 = .ok (.iload 7, 2) := by decide +kernel
theorem dX5_search_92 : decode cX5_search 92 = .ok (.ireturn, 1) := by decide +kernel
theorem dX5_search_93 : decode cX5_search 93 = .ok (.iinc 7 1, 3) := by decide +kernel
theorem dX5_search_96 : decode cX5_search 96 = .ok (.goto (-33), 3) := by decide +kernel
theorem dX5_search_99 : decode cX5_search 99 = .ok (.iconst (-1), 1) := by decide +kernel
theorem dX5_search_100 : decode cX5_search 100 = .ok (.ireturn, 1) := by decide +kernel
theorem dX5_seaIfAllRest_0 : decode cX5_seaIfAllRest 0 = .ok (.iconst 0, 1) := by decide +kernel
theorem dX5_seaIfAllRest_1 : decode cX5_seaIfAllRest 1 = .ok (.istore 5, 2) := by decide +kernel
theorem dX5_seaIfAllRest_3 : decode cX5_seaIfAllRest 3 = .ok (.iconst 0, 1) := by decide +kernel
theorem dX5_seaIfAllRest_4 : decode cX5_seaIfAllRest 4 = .ok (.istore 6, 2) := by decide +kernel
theorem dX5_seaIfAllRest_6 : decode cX5_seaIfAllRest 6 = .ok (.iload 6, 2) := by decide +kernel
theorem dX5_seaIfAllRest_8 : decode cX5_seaIfAllRest 8 = .ok (.aload_n 1, 1) := by decide +kernel
theorem dX5_seaIfAllRest_9 : decode cX5_seaIfAllRest 9 = .ok (.getfield 52, 3) := by decide +kernel
theorem dX5_seaIfAllRest_12 : decode cX5_seaIfAllRest 12 = .ok (.if_icmp .ge 33, 3) := by decide +kernel
theorem dX5_seaIfAllRest_15 : decode cX5_seaIfAllRest 15 = .ok (.iload 5, 2) := by decide +kernel
theorem dX5_seaIfAllRest_17 : decode cX5_seaIfAllRest 17 = .ok (.aload_n 1, 1) := by decide +kernel
theorem dX5_seaIfAllRest_18 : decode cX5_seaIfAllRest 18 = .ok (.iload 6, 2) := by decide +kernel
theorem dX5_seaIfAllRest_20 : decode cX5_seaIfAllRest 20 = .ok (.aload_n 2, 1) := by decide +kernel
theorem dX5_seaIfAllRest_21 : decode cX5_seaIfAllRest 21 = .ok (.getfield 65, 3) := by decide +kernel
theorem dX5_seaIfAllRest_24 : decode cX5_seaIfAllRest 24 = .ok (.iload 6, 2) := by decide +kernel
theorem dX5_seaIfAllRest_26 : decode cX5_seaIfAllRest 26 = .ok (.iaload, 1) := by decide +kernel
theorem dX5_seaIfAllRest_27 : decode cX5_seaIfAllRest 27 = .ok (.iload 4, 2) := by decide +kernel
theorem dX5_seaIfAllRest_29 : decode cX5_seaIfAllRest 29 = .ok (.invokestatic 70, 3) := by decide +kernel
theorem dX5_seaIfAllRest_32 : decode cX5_seaIfAllRest 32 = .ok (.iload_n 3, 1) := by decide +kernel
theorem dX5_seaIfAllRest_33 : decode cX5_seaIfAllRest 33 = .ok (.invokevirtual 73, 3) := by decide +kernel
theorem dX5_seaIfAllRest_36 : decode cX5_seaIfAllRest 36 = .ok (.iadd, 1) := by decide +kernel
theorem dX5_seaIfAllRest_37 : decode cX5_seaIfAllRest 37 = .ok (.istore 5, 2) := by decide +kernel
theorem dX5_seaIfAllRest_39 : decode cX5_seaIfAllRest 39 = .ok (.iinc 6 1, 3) := by decide +kernel
theorem dX5_seaIfAllRest_42 : decode cX5_seaIfAllRest 42 = .ok (.goto (-36), 3) := by decide +kernel
theorem dX5_seaIfAllRest_45 : decode cX5_seaIfAllRest 45 = .ok (.iload 5, 2) := by decide +kernel
theorem dX5_seaIfAllRest_47 : decode cX5_seaIfAllRest 47 = .ok (.ireturn, 1) := by decide +kernel
theorem dX5_letDown_0 : decode cX5_letDown 0 = .ok (.iconst 0, 1) := by decide +kernel
theorem dX5_letDown_1 : decode cX5_letDown 1 = .ok (.iload_n 0, 1) := by decide +kernel
theorem dX5_letDown_2 : decode cX5_letDown 2 = .ok (.iconst 3, 1) := by decide +kernel
theorem dX5_letDown_3 : decode cX5_letDown 3 = .ok (.iload_n 1, 1) := by decide +kernel
theorem dX5_letDown_4 : decode cX5_letDown 4 = .ok (.imul, 1) := by decide +kernel
theorem dX5_letDown_5 : decode cX5_letDown 5 = .ok (.isub, 1) := by decide +kernel
theorem dX5_letDown_6 : decode cX5_letDown 6 = .ok (.invokestatic 77, 3) := by decide +kernel
theorem dX5_letDown_9 : decode cX5_letDown 9 = .ok (.ireturn, 1) := by decide +kernel
theorem dX5_noteGains_0 : decode cX5_noteGains 0 = .ok (.aload_n 0, 1) := by decide +kernel
theorem dX5_noteGains_1 : decode cX5_noteGains 1 = .ok (.getfield 23, 3) := by decide +kernel
theorem dX5_noteGains_4 : decode cX5_noteGains 4 = .ok (.aload_n 1, 1) := by decide +kernel
theorem dX5_noteGains_5 : decode cX5_noteGains 5 = .ok (.getfield 49, 3) := by decide +kernel
theorem dX5_noteGains_8 : decode cX5_noteGains 8 = .ok (.aaload, 1) := by decide +kernel
theorem dX5_noteGains_9 : decode cX5_noteGains 9 = .ok (.iconst 0, 1) := by decide +kernel
theorem dX5_noteGains_10 : decode cX5_noteGains 10 = .ok (.invokestatic 80, 3) := by decide +kernel
theorem dX5_noteGains_13 : decode cX5_noteGains 13 = .ok (.aload_n 1, 1) := by decide +kernel
theorem dX5_noteGains_14 : decode cX5_noteGains 14 = .ok (.getfield 49, 3) := by decide +kernel
theorem dX5_noteGains_17 : decode cX5_noteGains 17 = .ok (.iconst 1, 1) := by decide +kernel
theorem dX5_noteGains_18 : decode cX5_noteGains 18 = .ok (.isub, 1) := by decide +kernel
theorem dX5_noteGains_19 : decode cX5_noteGains 19 = .ok (.istore 5, 2) := by decide +kernel
theorem dX5_noteGains_21 : decode cX5_noteGains 21 = .ok (.iload 5, 2) := by decide +kernel
theorem dX5_noteGains_23 : decode cX5_noteGains 23 = .ok (.ifCond .lt 107, 3) := by decide +kernel
theorem dX5_noteGains_26 : decode cX5_noteGains 26 = .ok (.iconst 0, 1) := by decide +kernel
theorem dX5_noteGains_27 : decode cX5_noteGains 27 = .ok (.istore 6, 2) := by decide +kernel
theorem dX5_noteGains_29 : decode cX5_noteGains 29 = .ok (.iconst 0, 1) := by decide +kernel
theorem dX5_noteGains_30 : decode cX5_noteGains 30 = .ok (.istore 7, 2) := by decide +kernel
theorem dX5_noteGains_32 : decode cX5_noteGains 32 = .ok (.iload 7, 2) := by decide +kernel
theorem dX5_noteGains_34 : decode cX5_noteGains 34 = .ok (.aload_n 1, 1) := by decide +kernel
theorem dX5_noteGains_35 : decode cX5_noteGains 35 = .ok (.getfield 52, 3) := by decide +kernel
theorem dX5_noteGains_38 : decode cX5_noteGains 38 = .ok (.if_icmp .ge 78, 3) := by decide +kernel
theorem dX5_noteGains_41 : decode cX5_noteGains 41 = .ok (.aload_n 1, 1) := by decide +kernel
theorem dX5_noteGains_42 : decode cX5_noteGains 42 = .ok (.iload 7, 2) := by decide +kernel
theorem dX5_noteGains_44 : decode cX5_noteGains 44 = .ok (.aload_n 2, 1) := by decide +kernel
theorem dX5_noteGains_45 : decode cX5_noteGains 45 = .ok (.getfield 65, 3) := by decide +kernel
theorem dX5_noteGains_48 : decode cX5_noteGains 48 = .ok (.iload 7, 2) := by decide +kernel
theorem dX5_noteGains_50 : decode cX5_noteGains 50 = .ok (.iaload, 1) := by decide +kernel
theorem dX5_noteGains_51 : decode cX5_noteGains 51 = .ok (.iload 4, 2) := by decide +kernel
theorem dX5_noteGains_53 : decode cX5_noteGains 53 = .ok (.invokestatic 70, 3) := by decide +kernel
theorem dX5_noteGains_56 : decode cX5_noteGains 56 = .ok (.iload_n 3, 1) := by decide +kernel
theorem dX5_noteGains_57 : decode cX5_noteGains 57 = .ok (.invokevirtual 73, 3) := by decide +kernel
theorem dX5_noteGains_60 : decode cX5_noteGains 60 = .ok (.istore 8, 2) := by decide +kernel
theorem dX5_noteGains_62 : decode cX5_noteGains 62 = .ok (.aload_n 0, 1) := by decide +kernel
theorem dX5_noteGains_63 : decode cX5_noteGains 63 = .ok (.getfield 20, 3) := by decide +kernel
theorem dX5_noteGains_66 : decode cX5_noteGains 66 = .ok (.iload 5, 2) := by decide +kernel
theorem dX5_noteGains_68 : decode cX5_noteGains 68 = .ok (.aaload, 1) := by decide +kernel
theorem dX5_noteGains_69 : decode cX5_noteGains 69 = .ok (.iload 7, 2) := by decide +kernel
theorem dX5_noteGains_71 : decode cX5_noteGains 71 = .ok (.aload_n 1, 1) := by decide +kernel
theorem dX5_noteGains_72 : decode cX5_noteGains 72 = .ok (.iload 7, 2) := by decide +kernel
theorem dX5_noteGains_74 : decode cX5_noteGains 74 = .ok (.aload_n 1, 1) := by decide +kernel
theorem dX5_noteGains_75 : decode cX5_noteGains 75 = .ok (.aload_n 2, 1) := by decide +kernel
theorem dX5_noteGains_76 : decode cX5_noteGains 76 = .ok (.iload 5, 2) := by decide +kernel
theorem dX5_noteGains_78 : decode cX5_noteGains 78 = .ok (.iload 7, 2) := by decide +kernel
theorem dX5_noteGains_80 : decode cX5_noteGains 80 = .ok (.iload 4, 2) := by decide +kernel
theorem dX5_noteGains_82 : decode cX5_noteGains 82 = .ok (.invokestatic 86, 3) := by decide +kernel
theorem dX5_noteGains_85 : decode cX5_noteGains 85 = .ok (.iload_n 3, 1) := by decide +kernel
theorem dX5_noteGains_86 : decode cX5_noteGains 86 = .ok (.invokevirtual 73, 3) := by decide +kernel
theorem dX5_noteGains_89 : decode cX5_noteGains 89 = .ok (.iload 8, 2) := by decide +kernel
theorem dX5_noteGains_91 : decode cX5_noteGains 91 = .ok (.isub, 1) := by decide +kernel
theorem dX5_noteGains_92 : decode cX5_noteGains 92 = .ok (.iastore, 1) := by decide +kernel
theorem dX5_noteGains_93 : decode cX5_noteGains 93 = .ok (.iload 6, 2) := by decide +kernel
theorem dX5_noteGains_95 : decode cX5_noteGains 95 = .ok (.aload_n 0, 1) := by decide +kernel
theorem dX5_noteGains_96 : decode cX5_noteGains 96 = .ok (.getfield 20, 3) := by decide +kernel
theorem dX5_noteGains_99 : decode cX5_noteGains 99 = .ok (.iload 5, 2) := by decide +kernel
theorem dX5_noteGains_101 : decode cX5_noteGains 101 = .ok (.aaload, 1) := by decide +kernel
theorem dX5_noteGains_102 : decode cX5_noteGains 102 = .ok (.iload 7, 2) := by decide +kernel
theorem dX5_noteGains_104 : decode cX5_noteGains 104 = .ok (.iaload, 1) := by decide +kernel
theorem dX5_noteGains_105 : decode cX5_noteGains 105 = .ok (.invokestatic 77, 3) := by decide +kernel
theorem dX5_noteGains_108 : decode cX5_noteGains 108 = .ok (.istore 6, 2) := by decide +kernel
theorem dX5_noteGains_110 : decode cX5_noteGains 110 = .ok (.iinc 7 1, 3) := by decide +kernel
theorem dX5_noteGains_113 : decode cX5_noteGains 113 = .ok (.goto (-81), 3) := by decide +kernel
theorem dX5_noteGains_116 : decode cX5_noteGains 116 = .ok (.aload_n 0, 1) := by decide +kernel
theorem dX5_noteGains_117 : decode cX5_noteGains 117 = .ok (.iload 5, 2) := by decide +kernel
theorem dX5_noteGains_119 : decode cX5_noteGains 119 = .ok (.iload 6, 2) := by decide +kernel
theorem dX5_noteGains_121 : decode cX5_noteGains 121 = .ok (.invokevirtual 90, 3) := by decide +kernel
theorem dX5_noteGains_124 : decode cX5_noteGains 124 = .ok (.iinc 5 (-1), 3) := by decide +kernel
theorem dX5_noteGains_127 : decode cX5_noteGains 127 = .ok (.goto (-106), 3) := by decide +kernel
theorem dX5_noteGains_130 : decode cX5_noteGains 130 = .ok (.return_, 1) := by decide +kernel
theorem dX5_noteMostGain_0 : decode cX5_noteMostGain 0 = .ok (.aload_n 0, 1) := by decide +kernel
theorem dX5_noteMostGain_1 : decode cX5_noteMostGain 1 = .ok (.getfield 23, 3) := by decide +kernel
theorem dX5_noteMostGain_4 : decode cX5_noteMostGain 4 = .ok (.iload_n 1, 1) := by decide +kernel
theorem dX5_noteMostGain_5 : decode cX5_noteMostGain 5 = .ok (.aaload, 1) := by decide +kernel
theorem dX5_noteMostGain_6 : decode cX5_noteMostGain 6 = .ok (.iconst 0, 1) := by decide +kernel
theorem dX5_noteMostGain_7 : decode cX5_noteMostGain 7 = .ok (.iconst 0, 1) := by decide +kernel
theorem dX5_noteMostGain_8 : decode cX5_noteMostGain 8 = .ok (.iastore, 1) := by decide +kernel
theorem dX5_noteMostGain_9 : decode cX5_noteMostGain 9 = .ok (.iconst 1, 1) := by decide +kernel
theorem dX5_noteMostGain_10 : decode cX5_noteMostGain 10 = .ok (.istore_n 3, 1) := by decide +kernel
theorem dX5_noteMostGain_11 : decode cX5_noteMostGain 11 = .ok (.iload_n 3, 1) := by decide +kernel
theorem dX5_noteMostGain_12 : decode cX5_noteMostGain 12 = .ok (.bipush 6, 2) := by decide +kernel
theorem dX5_noteMostGain_14 : decode cX5_noteMostGain 14 = .ok (.if_icmp .gt 44, 3) := by decide +kernel
theorem dX5_noteMostGain_17 : decode cX5_noteMostGain 17 = .ok (.aload_n 0, 1) := by decide +kernel
theorem dX5_noteMostGain_18 : decode cX5_noteMostGain 18 = .ok (.getfield 23, 3) := by decide +kernel
theorem dX5_noteMostGain_21 : decode cX5_noteMostGain 21 = .ok (.iload_n 1, 1) := by decide +kernel
theorem dX5_noteMostGain_22 : decode cX5_noteMostGain 22 = .ok (.aaload, 1) := by decide +kernel
theorem dX5_noteMostGain_23 : decode cX5_noteMostGain 23 = .ok (.iload_n 3, 1) := by decide +kernel
theorem dX5_noteMostGain_24 : decode cX5_noteMostGain 24 = .ok (.aload_n 0, 1) := by decide +kernel
theorem dX5_noteMostGain_25 : decode cX5_noteMostGain 25 = .ok (.getfield 23, 3) := by decide +kernel
theorem dX5_noteMostGain_28 : decode cX5_noteMostGain 28 = .ok (.iload_n 1, 1) := by decide +kernel
theorem dX5_noteMostGain_29 : decode cX5_noteMostGain 29 = .ok (.iconst 1, 1) := by decide +kernel
theorem dX5_noteMostGain_30 : decode cX5_noteMostGain 30 = .ok (.iadd, 1) := by decide +kernel
theorem dX5_noteMostGain_31 : decode cX5_noteMostGain 31 = .ok (.aaload, 1) := by decide +kernel
theorem dX5_noteMostGain_32 : decode cX5_noteMostGain 32 = .ok (.iload_n 3, 1) := by decide +kernel
theorem dX5_noteMostGain_33 : decode cX5_noteMostGain 33 = .ok (.iaload, 1) := by decide +kernel
theorem dX5_noteMostGain_34 : decode cX5_noteMostGain 34 = .ok (.aload_n 0, 1) := by decide +kernel
theorem dX5_noteMostGain_35 : decode cX5_noteMostGain 35 = .ok (.getfield 23, 3) := by decide +kernel
theorem dX5_noteMostGain_38 : decode cX5_noteMostGain 38 = .ok (.iload_n 1, 1) := by decide +kernel
theorem dX5_noteMostGain_39 : decode cX5_noteMostGain 39 = .ok (.iconst 1, 1) := by decide +kernel
theorem dX5_noteMostGain_40 : decode cX5_noteMostGain 40 = .ok (.iadd, 1) := by decide +kernel
theorem dX5_noteMostGain_41 : decode cX5_noteMostGain 41 = .ok (.aaload, 1) := by decide +kernel
theorem dX5_noteMostGain_42 : decode cX5_noteMostGain 42 = .ok (.iload_n 3, 1) := by decide +kernel
theorem dX5_noteMostGain_43 : decode cX5_noteMostGain 43 = .ok (.iconst 1, 1) := by decide +kernel
theorem dX5_noteMostGain_44 : decode cX5_noteMostGain 44 = .ok (.isub, 1) := by decide +kernel
theorem dX5_noteMostGain_45 : decode cX5_noteMostGain 45 = .ok (.iaload, 1) := by decide +kernel
theorem dX5_noteMostGain_46 : decode cX5_noteMostGain 46 = .ok (.iload_n 2, 1) := by decide +kernel
theorem dX5_noteMostGain_47 : decode cX5_noteMostGain 47 = .ok (.iadd, 1) := by decide +kernel
theorem dX5_noteMostGain_48 : decode cX5_noteMostGain 48 = .ok (.invokestatic 77, 3) := by decide +kernel
theorem dX5_noteMostGain_51 : decode cX5_noteMostGain 51 = .ok (.iastore, 1) := by decide +kernel
theorem dX5_noteMostGain_52 : decode cX5_noteMostGain 52 = .ok (.iinc 3 1, 3) := by decide +kernel
theorem dX5_noteMostGain_55 : decode cX5_noteMostGain 55 = .ok (.goto (-44), 3) := by decide +kernel
theorem dX5_noteMostGain_58 : decode cX5_noteMostGain 58 = .ok (.return_, 1) := by decide +kernel
theorem dX5_woundBy_0 : decode cX5_woundBy 0 = .ok (.aload_n 1, 1) := by decide +kernel
theorem dX5_woundBy_1 : decode cX5_woundBy 1 = .ok (.iload_n 2, 1) := by decide +kernel
theorem dX5_woundBy_2 : decode cX5_woundBy 2 = .ok (.invokevirtual 94, 3) := by decide +kernel
theorem dX5_woundBy_5 : decode cX5_woundBy 5 = .ok (.ifCond .eq 15, 3) := by decide +kernel
theorem dX5_woundBy_8 : decode cX5_woundBy 8 = .ok (.aload_n 1, 1) := by decide +kernel
theorem dX5_woundBy_9 : decode cX5_woundBy 9 = .ok (.getfield 65, 3) := by decide +kernel
theorem dX5_woundBy_12 : decode cX5_woundBy 12 = .ok (.iload_n 3, 1) := by decide +kernel
theorem dX5_woundBy_13 : decode cX5_woundBy 13 = .ok (.iaload, 1) := by decide +kernel
theorem dX5_woundBy_14 : decode cX5_woundBy 14 = .ok (.iload 4, 2) := by decide +kernel
theorem dX5_woundBy_16 : decode cX5_woundBy 16 = .ok (.invokestatic 70, 3) := by decide +kernel
theorem dX5_woundBy_19 : decode cX5_woundBy 19 = .ok (.ireturn, 1) := by decide +kernel
theorem dX5_woundBy_20 : decode cX5_woundBy 20 = .ok (.aload_n 1, 1) := by decide +kernel
theorem dX5_woundBy_21 : decode cX5_woundBy 21 = .ok (.getfield 65, 3) := by decide +kernel
theorem dX5_woundBy_24 : decode cX5_woundBy 24 = .ok (.iload_n 3, 1) := by decide +kernel
theorem dX5_woundBy_25 : decode cX5_woundBy 25 = .ok (.iaload, 1) := by decide +kernel
theorem dX5_woundBy_26 : decode cX5_woundBy 26 = .ok (.istore 5, 2) := by decide +kernel
theorem dX5_woundBy_28 : decode cX5_woundBy 28 = .ok (.iconst 0, 1) := by decide +kernel
theorem dX5_woundBy_29 : decode cX5_woundBy 29 = .ok (.istore 6, 2) := by decide +kernel
theorem dX5_woundBy_31 : decode cX5_woundBy 31 = .ok (.iload 6, 2) := by decide +kernel
theorem dX5_woundBy_33 : decode cX5_woundBy 33 = .ok (.iload 4, 2) := by decide +kernel
theorem dX5_woundBy_35 : decode cX5_woundBy 35 = .ok (.if_icmp .ge 36, 3) := by decide +kernel
theorem dX5_woundBy_38 : decode cX5_woundBy 38 = .ok (.iload 5, 2) := by decide +kernel
theorem dX5_woundBy_40 : decode cX5_woundBy 40 = .ok (.aload_n 0, 1) := by decide +kernel
theorem dX5_woundBy_41 : decode cX5_woundBy 41 = .ok (.getfield 98, 3) := by decide +kernel
theorem dX5_woundBy_44 : decode cX5_woundBy 44 = .ok (.iload_n 2, 1) := by decide +kernel
theorem dX5_woundBy_45 : decode cX5_woundBy 45 = .ok (.iaload, 1) := by decide +kernel
theorem dX5_woundBy_46 : decode cX5_woundBy 46 = .ok (.bipush 99, 2) := by decide +kernel
theorem dX5_woundBy_48 : decode cX5_woundBy 48 = .ok (.aload_n 1, 1) := by decide +kernel
theorem dX5_woundBy_49 : decode cX5_woundBy 49 = .ok (.getfield 101, 3) := by decide +kernel
theorem dX5_woundBy_52 : decode cX5_woundBy 52 = .ok (.iload_n 2, 1) := by decide +kernel
theorem dX5_woundBy_53 : decode cX5_woundBy 53 = .ok (.iaload, 1) := by decide +kernel
theorem dX5_woundBy_54 : decode cX5_woundBy 54 = .ok (.iload 6, 2) := by decide +kernel
theorem dX5_woundBy_56 : decode cX5_woundBy 56 = .ok (.iadd, 1) := by decide +kernel
theorem dX5_woundBy_57 : decode cX5_woundBy 57 = .ok (.invokestatic 55, 3) := by decide +kernel
theorem dX5_woundBy_60 : decode cX5_woundBy 60 = .ok (.invokestatic 104, 3) := by decide +kernel
theorem dX5_woundBy_63 : decode cX5_woundBy 63 = .ok (.istore 5, 2) := by decide +kernel
theorem dX5_woundBy_65 : decode cX5_woundBy 65 = .ok (.iinc 6 1, 3) := by decide +kernel
theorem dX5_woundBy_68 : decode cX5_woundBy 68 = .ok (.goto (-37), 3) := by decide +kernel
theorem dX5_woundBy_71 : decode cX5_woundBy 71 = .ok (.iload 5, 2) := by decide +kernel
theorem dX5_woundBy_73 : decode cX5_woundBy 73 = .ok (.ireturn, 1) := by decide +kernel
theorem dX5_seatFrom_0 : decode cX5_seatFrom 0 = .ok (.iload 5, 2) := by decide +kernel
theorem dX5_seatFrom_2 : decode cX5_seatFrom 2 = .ok (.aload_n 0, 1) := by decide +kernel
theorem dX5_seatFrom_3 : decode cX5_seatFrom 3 = .ok (.getfield 46, 3) := by decide +kernel
theorem dX5_seatFrom_6 : decode cX5_seatFrom 6 = .ok (.if_icmp .ge 22, 3) := by decide +kernel
theorem dX5_seatFrom_9 : decode cX5_seatFrom 9 = .ok (.iload 6, 2) := by decide +kernel
theorem dX5_seatFrom_11 : decode cX5_seatFrom 11 = .ok (.aload_n 0, 1) := by decide +kernel
theorem dX5_seatFrom_12 : decode cX5_seatFrom 12 = .ok (.getfield 23, 3) := by decide +kernel
theorem dX5_seatFrom_15 : decode cX5_seatFrom 15 = .ok (.iload_n 2, 1) := by decide +kernel
theorem dX5_seatFrom_16 : decode cX5_seatFrom 16 = .ok (.aaload, 1) := by decide +kernel
theorem dX5_seatFrom_17 : decode cX5_seatFrom 17 = .ok (.iload 4, 2) := by decide +kernel
theorem dX5_seatFrom_19 : decode cX5_seatFrom 19 = .ok (.iaload, 1) := by decide +kernel
theorem dX5_seatFrom_20 : decode cX5_seatFrom 20 = .ok (.iadd, 1) := by decide +kernel
theorem dX5_seatFrom_21 : decode cX5_seatFrom 21 = .ok (.aload_n 0, 1) := by decide +kernel
theorem dX5_seatFrom_22 : decode cX5_seatFrom 22 = .ok (.getfield 35, 3) := by decide +kernel
theorem dX5_seatFrom_25 : decode cX5_seatFrom 25 = .ok (.if_icmp .ge 4, 3) := by decide +kernel
theorem dX5_seatFrom_28 : decode cX5_seatFrom 28 = .ok (.return_, 1) := by decide +kernel
theorem dX5_seatFrom_29 : decode cX5_seatFrom 29 = .ok (.iload 4, 2) := by decide +kernel
theorem dX5_seatFrom_31 : decode cX5_seatFrom 31 = .ok (.ifCond .ne 11, 3) := by decide +kernel
theorem dX5_seatFrom_34 : decode cX5_seatFrom 34 = .ok (.aload_n 0, 1) := by decide +kernel
theorem dX5_seatFrom_35 : decode cX5_seatFrom 35 = .ok (.iload_n 2, 1) := by decide +kernel
theorem dX5_seatFrom_36 : decode cX5_seatFrom 36 = .ok (.iload 5, 2) := by decide +kernel
theorem dX5_seatFrom_38 : decode cX5_seatFrom 38 = .ok (.invokevirtual 107, 3) := by decide +kernel
theorem dX5_seatFrom_41 : decode cX5_seatFrom 41 = .ok (.return_, 1) := by decide +kernel
theorem dX5_seatFrom_42 : decode cX5_seatFrom 42 = .ok (.iload_n 2, 1) := by decide +kernel
theorem dX5_seatFrom_43 : decode cX5_seatFrom 43 = .ok (.aload_n 1, 1) := by decide +kernel
theorem dX5_seatFrom_44 : decode cX5_seatFrom 44 = .ok (.getfield 49, 3) := by decide +kernel
theorem dX5_seatFrom_47 : decode cX5_seatFrom 47 = .ok (.if_icmp .lt 4, 3) := by decide +kernel
theorem dX5_seatFrom_50 : decode cX5_seatFrom 50 = .ok (.return_, 1) := by decide +kernel
theorem dX5_seatFrom_51 : decode cX5_seatFrom 51 = .ok (.iconst 0, 1) := by decide +kernel
theorem dX5_seatFrom_52 : decode cX5_seatFrom 52 = .ok (.istore 7, 2) := by decide +kernel
theorem dX5_seatFrom_54 : decode cX5_seatFrom 54 = .ok (.iload 7, 2) := by decide +kernel
theorem dX5_seatFrom_56 : decode cX5_seatFrom 56 = .ok (.aload_n 1, 1) := by decide +kernel
theorem dX5_seatFrom_57 : decode cX5_seatFrom 57 = .ok (.getfield 52, 3) := by decide +kernel
theorem dX5_seatFrom_60 : decode cX5_seatFrom 60 = .ok (.if_icmp .ge 77, 3) := by decide +kernel
theorem dX5_seatFrom_63 : decode cX5_seatFrom 63 = .ok (.iload_n 3, 1) := by decide +kernel
theorem dX5_seatFrom_64 : decode cX5_seatFrom 64 = .ok (.iload 7, 2) := by decide +kernel
theorem dX5_seatFrom_66 : decode cX5_seatFrom 66 = .ok (.ishr, 1) := by decide +kernel
theorem dX5_seatFrom_67 : decode cX5_seatFrom 67 = .ok (.iconst 1, 1) := by decide +kernel
theorem dX5_seatFrom_68 : decode cX5_seatFrom 68 = .ok (.iand, 1) := by decide +kernel
theorem dX5_seatFrom_69 : decode cX5_seatFrom 69 = .ok (.ifCond .ne 62, 3) := by decide +kernel
theorem dX5_seatFrom_72 : decode cX5_seatFrom 72 = .ok (.aload_n 0, 1) := by decide +kernel
theorem dX5_seatFrom_73 : decode cX5_seatFrom 73 = .ok (.getfield 20, 3) := by decide +kernel
theorem dX5_seatFrom_76 : decode cX5_seatFrom 76 = .ok (.iload_n 2, 1) := by decide +kernel
theorem dX5_seatFrom_77 : decode cX5_seatFrom 77 = .ok (.aaload, 1) := by decide +kernel
theorem dX5_seatFrom_78 : decode cX5_seatFrom 78 = .ok (.iload 7, 2) := by decide +kernel
theorem dX5_seatFrom_80 : decode cX5_seatFrom 80 = .ok (.iaload, 1) := by decide +kernel
theorem dX5_seatFrom_81 : decode cX5_seatFrom 81 = .ok (.ifCond .le 50, 3) := by decide +kernel
theorem dX5_seatFrom_84 : decode cX5_seatFrom 84 = .ok (.aload_n 0, 1) := by decide +kernel
theorem dX5_seatFrom_85 : decode cX5_seatFrom 85 = .ok (.getfield 15, 3) := by decide +kernel
theorem dX5_seatFrom_88 : decode cX5_seatFrom 88 = .ok (.iload_n 2, 1) := by decide +kernel
theorem dX5_seatFrom_89 : decode cX5_seatFrom 89 = .ok (.iload 7, 2) := by decide +kernel
theorem dX5_seatFrom_91 : decode cX5_seatFrom 91 = .ok (.iastore, 1) := by decide +kernel
theorem dX5_seatFrom_92 : decode cX5_seatFrom 92 = .ok (.aload_n 0, 1) := by decide +kernel
theorem dX5_seatFrom_93 : decode cX5_seatFrom 93 = .ok (.aload_n 1, 1) := by decide +kernel
theorem dX5_seatFrom_94 : decode cX5_seatFrom 94 = .ok (.iload_n 2, 1) := by decide +kernel
theorem dX5_seatFrom_95 : decode cX5_seatFrom 95 = .ok (.iconst 1, 1) := by decide +kernel
theorem dX5_seatFrom_96 : decode cX5_seatFrom 96 = .ok (.iadd, 1) := by decide +kernel
theorem dX5_seatFrom_97 : decode cX5_seatFrom 97 = .ok (.iload_n 3, 1) := by decide +kernel
theorem dX5_seatFrom_98 : decode cX5_seatFrom 98 = .ok (.iconst 1, 1) := by decide +kernel
theorem dX5_seatFrom_99 : decode cX5_seatFrom 99 = .ok (.iload 7, 2) := by decide +kernel
theorem dX5_seatFrom_101 : decode cX5_seatFrom 101 = .ok (.ishl, 1) := by decide +kernel
theorem dX5_seatFrom_102 : decode cX5_seatFrom 102 = .ok (.ior, 1) := by decide +kernel
theorem dX5_seatFrom_103 : decode cX5_seatFrom 103 = .ok (.iload 4, 2) := by decide +kernel
theorem dX5_seatFrom_105 : decode cX5_seatFrom 105 = .ok (.iconst 1, 1) := by decide +kernel
theorem dX5_seatFrom_106 : decode cX5_seatFrom 106 = .ok (.isub, 1) := by decide +kernel
theorem dX5_seatFrom_107 : decode cX5_seatFrom 107 = .ok (.iload 5, 2) := by decide +kernel
theorem dX5_seatFrom_109 : decode cX5_seatFrom 109 = .ok (.aload_n 1, 1) := by decide +kernel
theorem dX5_seatFrom_110 : decode cX5_seatFrom 110 = .ok (.getfield 98, 3) := by decide +kernel
theorem dX5_seatFrom_113 : decode cX5_seatFrom 113 = .ok (.iload_n 2, 1) := by decide +kernel
theorem dX5_seatFrom_114 : decode cX5_seatFrom 114 = .ok (.iaload, 1) := by decide +kernel
theorem dX5_seatFrom_115 : decode cX5_seatFrom 115 = .ok (.iadd, 1) := by decide +kernel
theorem dX5_seatFrom_116 : decode cX5_seatFrom 116 = .ok (.iload 6, 2) := by decide +kernel
theorem dX5_seatFrom_118 : decode cX5_seatFrom 118 = .ok (.aload_n 0, 1) := by decide +kernel
theorem dX5_seatFrom_119 : decode cX5_seatFrom 119 = .ok (.getfield 20, 3) := by decide +kernel
theorem dX5_seatFrom_122 : decode cX5_seatFrom 122 = .ok (.iload_n 2, 1) := by decide +kernel
theorem dX5_seatFrom_123 : decode cX5_seatFrom 123 = .ok (.aaload, 1) := by decide +kernel
theorem dX5_seatFrom_124 : decode cX5_seatFrom 124 = .ok (.iload 7, 2) := by decide +kernel
theorem dX5_seatFrom_126 : decode cX5_seatFrom 126 = .ok (.iaload, 1) := by decide +kernel
theorem dX5_seatFrom_127 : decode cX5_seatFrom 127 = .ok (.iadd, 1) := by decide +kernel
theorem dX5_seatFrom_128 : decode cX5_seatFrom 128 = .ok (.invokestatic 61, 3) := by decide +kernel
theorem dX5_seatFrom_131 : decode cX5_seatFrom 131 = .ok (.iinc 7 1, 3) := by decide +kernel
theorem dX5_seatFrom_134 : decode cX5_seatFrom 134 = .ok (.goto (-80), 3) := by decide +kernel
theorem dX5_seatFrom_137 : decode cX5_seatFrom 137 = .ok (.aload_n 0, 1) := by decide +kernel
theorem dX5_seatFrom_138 : decode cX5_seatFrom 138 = .ok (.getfield 15, 3) := by decide +kernel
theorem dX5_seatFrom_141 : decode cX5_seatFrom 141 = .ok (.iload_n 2, 1) := by decide +kernel
theorem dX5_seatFrom_142 : decode cX5_seatFrom 142 = .ok (.iconst (-1), 1) := by decide +kernel
theorem dX5_seatFrom_143 : decode cX5_seatFrom 143 = .ok (.iastore, 1) := by decide +kernel
theorem dX5_seatFrom_144 : decode cX5_seatFrom 144 = .ok (.aload_n 0, 1) := by decide +kernel
theorem dX5_seatFrom_145 : decode cX5_seatFrom 145 = .ok (.aload_n 1, 1) := by decide +kernel
theorem dX5_seatFrom_146 : decode cX5_seatFrom 146 = .ok (.iload_n 2, 1) := by decide +kernel
theorem dX5_seatFrom_147 : decode cX5_seatFrom 147 = .ok (.iconst 1, 1) := by decide +kernel
theorem dX5_seatFrom_148 : decode cX5_seatFrom 148 = .ok (.iadd, 1) := by decide +kernel
theorem dX5_seatFrom_149 : decode cX5_seatFrom 149 = .ok (.iload_n 3, 1) := by decide +kernel
theorem dX5_seatFrom_150 : decode cX5_seatFrom 150 = .ok (.iload 4, 2) := by decide +kernel
theorem dX5_seatFrom_152 : decode cX5_seatFrom 152 = .ok (.iload 5, 2) := by decide +kernel
theorem dX5_seatFrom_154 : decode cX5_seatFrom 154 = .ok (.iload 6, 2) := by decide +kernel
theorem dX5_seatFrom_156 : decode cX5_seatFrom 156 = .ok (.invokestatic 61, 3) := by decide +kernel
theorem dX5_seatFrom_159 : decode cX5_seatFrom 159 = .ok (.return_, 1) := by decide +kernel
theorem dX5_take_0 : decode cX5_take 0 = .ok (.aload_n 0, 1) := by decide +kernel
theorem dX5_take_1 : decode cX5_take 1 = .ok (.iload_n 2, 1) := by decide +kernel
theorem dX5_take_2 : decode cX5_take 2 = .ok (.putfield 46, 3) := by decide +kernel
theorem dX5_take_5 : decode cX5_take 5 = .ok (.aload_n 0, 1) := by decide +kernel
theorem dX5_take_6 : decode cX5_take 6 = .ok (.getfield 9, 3) := by decide +kernel
theorem dX5_take_9 : decode cX5_take 9 = .ok (.iconst (-1), 1) := by decide +kernel
theorem dX5_take_10 : decode cX5_take 10 = .ok (.invokestatic 80, 3) := by decide +kernel
theorem dX5_take_13 : decode cX5_take 13 = .ok (.aload_n 0, 1) := by decide +kernel
theorem dX5_take_14 : decode cX5_take 14 = .ok (.getfield 15, 3) := by decide +kernel
theorem dX5_take_17 : decode cX5_take 17 = .ok (.iconst 0, 1) := by decide +kernel
theorem dX5_take_18 : decode cX5_take 18 = .ok (.aload_n 0, 1) := by decide +kernel
theorem dX5_take_19 : decode cX5_take 19 = .ok (.getfield 9, 3) := by decide +kernel
theorem dX5_take_22 : decode cX5_take 22 = .ok (.iconst 0, 1) := by decide +kernel
theorem dX5_take_23 : decode cX5_take 23 = .ok (.iload_n 1, 1) := by decide +kernel
theorem dX5_take_24 : decode cX5_take 24 = .ok (.invokestatic 110, 3) := by decide +kernel
theorem dX5_take_27 : decode cX5_take 27 = .ok (.return_, 1) := by decide +kernel
theorem dX6_init_0 : decode cX6_init 0 = .ok (.aload_n 0, 1) := by decide +kernel
theorem dX6_init_1 : decode cX6_init 1 = .ok (.invokespecial 3, 3) := by decide +kernel
theorem dX6_init_4 : decode cX6_init 4 = .ok (.aload_n 0, 1) := by decide +kernel
theorem dX6_init_5 : decode cX6_init 5 = .ok (.sipush 240, 3) := by decide +kernel
theorem dX6_init_8 : decode cX6_init 8 = .ok (.newarray .int, 2) := by decide +kernel
theorem dX6_init_10 : decode cX6_init 10 = .ok (.putfield 9, 3) := by decide +kernel
theorem dX6_init_13 : decode cX6_init 13 = .ok (.aload_n 0, 1) := by decide +kernel
theorem dX6_init_14 : decode cX6_init 14 = .ok (.iconst (-1), 1) := by decide +kernel
theorem dX6_init_15 : decode cX6_init 15 = .ok (.putfield 15, 3) := by decide +kernel
theorem dX6_init_18 : decode cX6_init 18 = .ok (.return_, 1) := by decide +kernel
theorem dX6_letters_0 : decode cX6_letters 0 = .ok (.aload_n 0, 1) := by decide +kernel
theorem dX6_letters_1 : decode cX6_letters 1 = .ok (.getfield 19, 3) := by decide +kernel
theorem dX6_letters_4 : decode cX6_letters 4 = .ok (.ireturn, 1) := by decide +kernel
theorem dX6_faultPlace_0 : decode cX6_faultPlace 0 = .ok (.aload_n 0, 1) := by decide +kernel
theorem dX6_faultPlace_1 : decode cX6_faultPlace 1 = .ok (.getfield 15, 3) := by decide +kernel
theorem dX6_faultPlace_4 : decode cX6_faultPlace 4 = .ok (.ireturn, 1) := by decide +kernel
theorem dX6_add_0 : decode cX6_add 0 = .ok (.aload_n 0, 1) := by decide +kernel
theorem dX6_add_1 : decode cX6_add 1 = .ok (.getfield 19, 3) := by decide +kernel
theorem dX6_add_4 : decode cX6_add 4 = .ok (.sipush 240, 3) := by decide +kernel
theorem dX6_add_7 : decode cX6_add 7 = .ok (.if_icmp .lt 6, 3) := by decide +kernel
theorem dX6_add_10 : decode cX6_add 10 = .ok (.ldc 22, 2) := by decide +kernel
theorem dX6_add_12 : decode cX6_add 12 = .ok (.ireturn, 1) := by decide +kernel
theorem dX6_add_13 : decode cX6_add 13 = .ok (.aload_n 0, 1) := by decide +kernel
theorem dX6_add_14 : decode cX6_add 14 = .ok (.getfield 9, 3) := by decide +kernel
theorem dX6_add_17 : decode cX6_add 17 = .ok (.aload_n 0, 1) := by decide +kernel
theorem dX6_add_18 : decode cX6_add 18 = .ok (.getfield 19, 3) := by decide +kernel
theorem dX6_add_21 : decode cX6_add 21 = .ok (.iload_n 1, 1) := by decide +kernel
theorem dX6_add_22 : decode cX6_add 22 = .ok (.iastore, 1) := by decide +kernel
theorem dX6_add_23 : decode cX6_add 23 = .ok (.aload_n 0, 1) := by decide +kernel
theorem dX6_add_24 : decode cX6_add 24 = .ok (.dup, 1) := by decide +kernel
theorem dX6_add_25 : decode cX6_add 25 = .ok (.getfield 19, 3) := by decide +kernel
theorem dX6_add_28 : decode cX6_add 28 = .ok (.iconst 1, 1) := by decide +kernel
theorem dX6_add_29 : decode cX6_add 29 = .ok (.iadd, 1) := by decide +kernel
theorem dX6_add_30 : decode cX6_add 30 = .ok (.putfield 19, 3) := by decide +kernel
theorem dX6_add_33 : decode cX6_add 33 = .ok (.aload_n 0, 1) := by decide +kernel
theorem dX6_add_34 : decode cX6_add 34 = .ok (.getfield 19, 3) := by decide +kernel
theorem dX6_add_37 : decode cX6_add 37 = .ok (.ireturn, 1) := by decide +kernel
theorem dX6_readInto_0 : decode cX6_readInto 0 = .ok (.aload_n 0, 1) := by decide +kernel
theorem dX6_readInto_1 : decode cX6_readInto 1 = .ok (.iconst 0, 1) := by decide +kernel
theorem dX6_readInto_2 : decode cX6_readInto 2 = .ok (.putfield 23, 3) := by decide +kernel
theorem dX6_readInto_5 : decode cX6_readInto 5 = .ok (.aload_n 0, 1) := by decide +kernel
theorem dX6_readInto_6 : decode cX6_readInto 6 = .ok (.iconst 0, 1) := by decide +kernel
theorem dX6_readInto_7 : decode cX6_readInto 7 = .ok (.putfield 26, 3) := by decide +kernel
theorem dX6_readInto_10 : decode cX6_readInto 10 = .ok (.aload_n 0, 1) := by decide +kernel
theorem dX6_readInto_11 : decode cX6_readInto 11 = .ok (.iconst (-1), 1) := by decide +kernel
theorem dX6_readInto_12 : decode cX6_readInto 12 = .ok (.putfield 15, 3) := by decide +kernel
theorem dX6_readInto_15 : decode cX6_readInto 15 = .ok (.aload_n 1, 1) := by decide +kernel
theorem dX6_readInto_16 : decode cX6_readInto 16 = .ok (.invokevirtual 29, 3) := by decide +kernel
theorem dX6_readInto_19 : decode cX6_readInto 19 = .ok (.aload_n 0, 1) := by decide +kernel
theorem dX6_readInto_20 : decode cX6_readInto 20 = .ok (.invokevirtual 34, 3) := by decide +kernel
theorem dX6_readInto_23 : decode cX6_readInto 23 = .ok (.ifCond .eq 42, 3) := by decide +kernel
theorem dX6_readInto_26 : decode cX6_readInto 26 = .ok (.aload_n 0, 1) := by decide +kernel
theorem dX6_readInto_27 : decode cX6_readInto 27 = .ok (.aload_n 1, 1) := by decide +kernel
theorem dX6_readInto_28 : decode cX6_readInto 28 = .ok (.invokevirtual 38, 3) := by decide +kernel
theorem dX6_readInto_31 : decode cX6_readInto 31 = .ok (.iconst 0, 1) := by decide +kernel
theorem dX6_readInto_32 : decode cX6_readInto 32 = .ok (.istore_n 2, 1) := by decide +kernel
theorem dX6_readInto_33 : decode cX6_readInto 33 = .ok (.iload_n 2, 1) := by decide +kernel
theorem dX6_readInto_34 : decode cX6_readInto 34 = .ok (.sipush 240, 3) := by decide +kernel
theorem dX6_readInto_37 : decode cX6_readInto 37 = .ok (.if_icmp .ge 28, 3) := by decide +kernel
theorem dX6_readInto_40 : decode cX6_readInto 40 = .ok (.aload_n 0, 1) := by decide +kernel
theorem dX6_readInto_41 : decode cX6_readInto 41 = .ok (.getfield 26, 3) := by decide +kernel
theorem dX6_readInto_44 : decode cX6_readInto 44 = .ok (.ifCond .ne 21, 3) := by decide +kernel
theorem dX6_readInto_47 : decode cX6_readInto 47 = .ok (.aload_n 0, 1) := by decide +kernel
theorem dX6_readInto_48 : decode cX6_readInto 48 = .ok (.invokevirtual 34, 3) := by decide +kernel
theorem dX6_readInto_51 : decode cX6_readInto 51 = .ok (.ifCond .eq 14, 3) := by decide +kernel
theorem dX6_readInto_54 : decode cX6_readInto 54 = .ok (.aload_n 0, 1) := by decide +kernel
theorem dX6_readInto_55 : decode cX6_readInto 55 = .ok (.aload_n 1, 1) := by decide +kernel
theorem dX6_readInto_56 : decode cX6_readInto 56 = .ok (.invokevirtual 42, 3) := by decide +kernel
theorem dX6_readInto_59 : decode cX6_readInto 59 = .ok (.iinc 2 1, 3) := by decide +kernel
theorem dX6_readInto_62 : decode cX6_readInto 62 = .ok (.goto (-29), 3) := by decide +kernel
theorem dX6_readInto_65 : decode cX6_readInto 65 = .ok (.aload_n 0, 1) := by decide +kernel
theorem dX6_readInto_66 : decode cX6_readInto 66 = .ok (.iconst 0, 1) := by decide +kernel
theorem dX6_readInto_67 : decode cX6_readInto 67 = .ok (.putfield 19, 3) := by decide +kernel
theorem dX6_readInto_70 : decode cX6_readInto 70 = .ok (.aload_n 0, 1) := by decide +kernel
theorem dX6_readInto_71 : decode cX6_readInto 71 = .ok (.getfield 26, 3) := by decide +kernel
theorem dX6_readInto_74 : decode cX6_readInto 74 = .ok (.ireturn, 1) := by decide +kernel
theorem dX6_readCells_0 : decode cX6_readCells 0 = .ok (.aload_n 0, 1) := by decide +kernel
theorem dX6_readCells_1 : decode cX6_readCells 1 = .ok (.bipush 99, 2) := by decide +kernel
theorem dX6_readCells_3 : decode cX6_readCells 3 = .ok (.invokevirtual 45, 3) := by decide +kernel
theorem dX6_readCells_6 : decode cX6_readCells 6 = .ok (.aload_n 1, 1) := by decide +kernel
theorem dX6_readCells_7 : decode cX6_readCells 7 = .ok (.getfield 49, 3) := by decide +kernel
theorem dX6_readCells_10 : decode cX6_readCells 10 = .ok (.iconst 0, 1) := by decide +kernel
theorem dX6_readCells_11 : decode cX6_readCells 11 = .ok (.aload_n 0, 1) := by decide +kernel
theorem dX6_readCells_12 : decode cX6_readCells 12 = .ok (.iconst 0, 1) := by decide +kernel
theorem dX6_readCells_13 : decode cX6_readCells 13 = .ok (.bipush 60, 2) := by decide +kernel
theorem dX6_readCells_15 : decode cX6_readCells 15 = .ok (.invokevirtual 52, 3) := by decide +kernel
theorem dX6_readCells_18 : decode cX6_readCells 18 = .ok (.iastore, 1) := by decide +kernel
theorem dX6_readCells_19 : decode cX6_readCells 19 = .ok (.aload_n 1, 1) := by decide +kernel
theorem dX6_readCells_20 : decode cX6_readCells 20 = .ok (.iconst 1, 1) := by decide +kernel
theorem dX6_readCells_21 : decode cX6_readCells 21 = .ok (.putfield 56, 3) := by decide +kernel
theorem dX6_readCells_24 : decode cX6_readCells 24 = .ok (.iconst 1, 1) := by decide +kernel
theorem dX6_readCells_25 : decode cX6_readCells 25 = .ok (.istore_n 2, 1) := by decide +kernel
theorem dX6_readCells_26 : decode cX6_readCells 26 = .ok (.iload_n 2, 1) := by decide +kernel
theorem dX6_readCells_27 : decode cX6_readCells 27 = .ok (.bipush 10, 2) := by decide +kernel
theorem dX6_readCells_29 : decode cX6_readCells 29 = .ok (.if_icmp .ge 44, 3) := by decide +kernel
theorem dX6_readCells_32 : decode cX6_readCells 32 = .ok (.aload_n 0, 1) := by decide +kernel
theorem dX6_readCells_33 : decode cX6_readCells 33 = .ok (.bipush 44, 2) := by decide +kernel
theorem dX6_readCells_35 : decode cX6_readCells 35 = .ok (.invokevirtual 59, 3) := by decide +kernel
theorem dX6_readCells_38 : decode cX6_readCells 38 = .ok (.ifCond .eq 35, 3) := by decide +kernel
theorem dX6_readCells_41 : decode cX6_readCells 41 = .ok (.aload_n 0, 1) := by decide +kernel
theorem dX6_readCells_42 : decode cX6_readCells 42 = .ok (.bipush 44, 2) := by decide +kernel
theorem dX6_readCells_44 : decode cX6_readCells 44 = .ok (.invokevirtual 45, 3) := by decide +kernel
theorem dX6_readCells_47 : decode cX6_readCells 47 = .ok (.aload_n 1, 1) := by decide +kernel
theorem dX6_readCells_48 : decode cX6_readCells 48 = .ok (.getfield 49, 3) := by decide +kernel
theorem dX6_readCells_51 : decode cX6_readCells 51 = .ok (.iload_n 2, 1) := by decide +kernel
theorem dX6_readCells_52 : decode cX6_readCells 52 = .ok (.aload_n 0, 1) := by decide +kernel
theorem dX6_readCells_53 : decode cX6_readCells 53 = .ok (.iconst 0, 1) := by decide +kernel
theorem dX6_readCells_54 : decode cX6_readCells 54 = .ok (.bipush 60, 2) := by decide +kernel
theorem dX6_readCells_56 : decode cX6_readCells 56 = .ok (.invokevirtual 52, 3) := by decide +kernel
theorem dX6_readCells_59 : decode cX6_readCells 59 = .ok (.iastore, 1) := by decide +kernel
theorem dX6_readCells_60 : decode cX6_readCells 60 = .ok (.aload_n 1, 1) := by decide +kernel
theorem dX6_readCells_61 : decode cX6_readCells 61 = .ok (.iload_n 2, 1) := by decide +kernel
theorem dX6_readCells_62 : decode cX6_readCells 62 = .ok (.iconst 1, 1) := by decide +kernel
theorem dX6_readCells_63 : decode cX6_readCells 63 = .ok (.iadd, 1) := by decide +kernel
theorem dX6_readCells_64 : decode cX6_readCells 64 = .ok (.putfield 56, 3) := by decide +kernel
theorem dX6_readCells_67 : decode cX6_readCells 67 = .ok (.iinc 2 1, 3) := by decide +kernel
theorem dX6_readCells_70 : decode cX6_readCells 70 = .ok (.goto (-44), 3) := by decide +kernel
theorem dX6_readCells_73 : decode cX6_readCells 73 = .ok (.aload_n 1, 1) := by decide +kernel
theorem dX6_readCells_74 : decode cX6_readCells 74 = .ok (.getfield 56, 3) := by decide +kernel
theorem dX6_readCells_77 : decode cX6_readCells 77 = .ok (.iconst 2, 1) := by decide +kernel
theorem dX6_readCells_78 : decode cX6_readCells 78 = .ok (.if_icmp .ge 12, 3) := by decide +kernel
theorem dX6_readCells_81 : decode cX6_readCells 81 = .ok (.aload_n 0, 1) := by decide +kernel
theorem dX6_readCells_82 : decode cX6_readCells 82 = .ok (.iconst 1, 1) := by decide +kernel
theorem dX6_readCells_83 : decode cX6_readCells 83 = .ok (.aload_n 0, 1) := by decide +kernel
theorem dX6_readCells_84 : decode cX6_readCells 84 = .ok (.getfield 23, 3) := by decide +kernel
theorem dX6_readCells_87 : decode cX6_readCells 87 = .ok (.invokevirtual 63, 3) := by decide +kernel
theorem dX6_readCells_90 : decode cX6_readCells 90 = .ok (.aload_n 0, 1) := by decide +kernel
theorem dX6_readCells_91 : decode cX6_readCells 91 = .ok (.bipush 59, 2) := by decide +kernel
theorem dX6_readCells_93 : decode cX6_readCells 93 = .ok (.invokevirtual 45, 3) := by decide +kernel
theorem dX6_readCells_96 : decode cX6_readCells 96 = .ok (.return_, 1) := by decide +kernel
theorem dX6_readClause_0 : decode cX6_readClause 0 = .ok (.aload_n 0, 1) := by decide +kernel
theorem dX6_readClause_1 : decode cX6_readClause 1 = .ok (.getfield 9, 3) := by decide +kernel
theorem dX6_readClause_4 : decode cX6_readClause 4 = .ok (.aload_n 0, 1) := by decide +kernel
theorem dX6_readClause_5 : decode cX6_readClause 5 = .ok (.getfield 23, 3) := by decide +kernel
theorem dX6_readClause_8 : decode cX6_readClause 8 = .ok (.iaload, 1) := by decide +kernel
theorem dX6_readClause_9 : decode cX6_readClause 9 = .ok (.lookupswitch 79 #[(98, 59), (99, 67), (112, 51), (116, 43)], 43) := by decide +kernel
theorem dX6_readClause_52 : decode cX6_readClause 52 = .ok (.aload_n 0, 1) := by decide +kernel
theorem dX6_readClause_53 : decode cX6_readClause 53 = .ok (.aload_n 1, 1) := by decide +kernel
theorem dX6_readClause_54 : decode cX6_readClause 54 = .ok (.invokevirtual 67, 3) := by decide +kernel
theorem dX6_readClause_57 : decode cX6_readClause 57 = .ok (.goto 40, 3) := by decide +kernel
theorem dX6_readClause_60 : decode cX6_readClause 60 = .ok (.aload_n 0, 1) := by decide +kernel
theorem dX6_readClause_61 : decode cX6_readClause 61 = .ok (.aload_n 1, 1) := by decide +kernel
theorem dX6_readClause_62 : decode cX6_readClause 62 = .ok (.invokevirtual 70, 3) := by decide +kernel
theorem dX6_readClause_65 : decode cX6_readClause 65 = .ok (.goto 32, 3) := by decide +kernel
theorem dX6_readClause_68 : decode cX6_readClause 68 = .ok (.aload_n 0, 1) := by decide +kernel
theorem dX6_readClause_69 : decode cX6_readClause 69 = .ok (.aload_n 1, 1) := by decide +kernel
theorem dX6_readClause_70 : decode cX6_readClause 70 = .ok (.invokevirtual 73, 3) := by decide +kernel
theorem dX6_readClause_73 : decode cX6_readClause 73 = .ok (.goto 24, 3) := by decide +kernel
theorem dX6_readClause_76 : decode cX6_readClause 76 = .ok (.aload_n 0, 1) := by decide +kernel
theorem dX6_readClause_77 : decode cX6_readClause 77 = .ok (.iconst 3, 1) := by decide +kernel
theorem dX6_readClause_78 : decode cX6_readClause 78 = .ok (.aload_n 0, 1) := by decide +kernel
theorem dX6_readClause_79 : decode cX6_readClause 79 = .ok (.getfield 23, 3) := by decide +kernel
theorem dX6_readClause_82 : decode cX6_readClause 82 = .ok (.invokevirtual 63, 3) := by decide +kernel
theorem dX6_readClause_85 : decode cX6_readClause 85 = .ok (.goto 12, 3) := by decide +kernel
theorem dX6_readClause_88 : decode cX6_readClause 88 = .ok (.aload_n 0, 1) := by decide +kernel
theorem dX6_readClause_89 : decode cX6_readClause 89 = .ok (.iconst 1, 1) := by decide +kernel
theorem dX6_readClause_90 : decode cX6_readClause 90 = .ok (.aload_n 0, 1) := by decide +kernel
theorem dX6_readClause_91 : decode cX6_readClause 91 = .ok (.getfield 23, 3) := by decide +kernel
theorem dX6_readClause_94 : decode cX6_readClause 94 = .ok (.invokevirtual 63, 3) := by decide +kernel
theorem dX6_readClause_97 : decode cX6_readClause 97 = .ok (.return_, 1) := by decide +kernel
theorem dX6_readTower_0 : decode cX6_readTower 0 = .ok (.aload_n 1, 1) := by decide +kernel
theorem dX6_readTower_1 : decode cX6_readTower 1 = .ok (.getfield 76, 3) := by decide +kernel
theorem dX6_readTower_4 : decode cX6_readTower 4 = .ok (.istore_n 2, 1) := by decide +kernel
theorem dX6_readTower_5 : decode cX6_readTower 5 = .ok (.iload_n 2, 1) := by decide +kernel
theorem dX6_readTower_6 : decode cX6_readTower 6 = .ok (.bipush 6, 2) := by decide +kernel
theorem dX6_readTower_8 : decode cX6_readTower 8 = .ok (.if_icmp .lt 13, 3) := by decide +kernel
theorem dX6_readTower_11 : decode cX6_readTower 11 = .ok (.aload_n 0, 1) := by decide +kernel
theorem dX6_readTower_12 : decode cX6_readTower 12 = .ok (.iconst 3, 1) := by decide +kernel
theorem dX6_readTower_13 : decode cX6_readTower 13 = .ok (.aload_n 0, 1) := by decide +kernel
theorem dX6_readTower_14 : decode cX6_readTower 14 = .ok (.getfield 23, 3) := by decide +kernel
theorem dX6_readTower_17 : decode cX6_readTower 17 = .ok (.invokevirtual 63, 3) := by decide +kernel
theorem dX6_readTower_20 : decode cX6_readTower 20 = .ok (.return_, 1) := by decide +kernel
theorem dX6_readTower_21 : decode cX6_readTower 21 = .ok (.aload_n 0, 1) := by decide +kernel
theorem dX6_readTower_22 : decode cX6_readTower 22 = .ok (.bipush 116, 2) := by decide +kernel
theorem dX6_readTower_24 : decode cX6_readTower 24 = .ok (.invokevirtual 45, 3) := by decide +kernel
theorem dX6_readTower_27 : decode cX6_readTower 27 = .ok (.aload_n 1, 1) := by decide +kernel
theorem dX6_readTower_28 : decode cX6_readTower 28 = .ok (.getfield 79, 3) := by decide +kernel
theorem dX6_readTower_31 : decode cX6_readTower 31 = .ok (.iload_n 2, 1) := by decide +kernel
theorem dX6_readTower_32 : decode cX6_readTower 32 = .ok (.aload_n 0, 1) := by decide +kernel
theorem dX6_readTower_33 : decode cX6_readTower 33 = .ok (.iconst 0, 1) := by decide +kernel
theorem dX6_readTower_34 : decode cX6_readTower 34 = .ok (.aload_n 1, 1) := by decide +kernel
theorem dX6_readTower_35 : decode cX6_readTower 35 = .ok (.getfield 56, 3) := by decide +kernel
theorem dX6_readTower_38 : decode cX6_readTower 38 = .ok (.iconst 1, 1) := by decide +kernel
theorem dX6_readTower_39 : decode cX6_readTower 39 = .ok (.isub, 1) := by decide +kernel
theorem dX6_readTower_40 : decode cX6_readTower 40 = .ok (.invokevirtual 52, 3) := by decide +kernel
theorem dX6_readTower_43 : decode cX6_readTower 43 = .ok (.iastore, 1) := by decide +kernel
theorem dX6_readTower_44 : decode cX6_readTower 44 = .ok (.aload_n 1, 1) := by decide +kernel
theorem dX6_readTower_45 : decode cX6_readTower 45 = .ok (.getfield 82, 3) := by decide +kernel
theorem dX6_readTower_48 : decode cX6_readTower 48 = .ok (.iload_n 2, 1) := by decide +kernel
theorem dX6_readTower_49 : decode cX6_readTower 49 = .ok (.aload_n 0, 1) := by decide +kernel
theorem dX6_readTower_50 : decode cX6_readTower 50 = .ok (.iconst 1, 1) := by decide +kernel
theorem dX6_readTower_51 : decode cX6_readTower 51 = .ok (.bipush 20, 2) := by decide +kernel
theorem dX6_readTower_53 : decode cX6_readTower 53 = .ok (.invokevirtual 52, 3) := by decide +kernel
theorem dX6_readTower_56 : decode cX6_readTower 56 = .ok (.iastore, 1) := by decide +kernel
theorem dX6_readTower_57 : decode cX6_readTower 57 = .ok (.aload_n 0, 1) := by decide +kernel
theorem dX6_readTower_58 : decode cX6_readTower 58 = .ok (.bipush 59, 2) := by decide +kernel
theorem dX6_readTower_60 : decode cX6_readTower 60 = .ok (.invokevirtual 45, 3) := by decide +kernel
theorem dX6_readTower_63 : decode cX6_readTower 63 = .ok (.aload_n 1, 1) := by decide +kernel
theorem dX6_readTower_64 : decode cX6_readTower 64 = .ok (.iload_n 2, 1) := by decide +kernel
theorem dX6_readTower_65 : decode cX6_readTower 65 = .ok (.iconst 1, 1) := by decide +kernel
theorem dX6_readTower_66 : decode cX6_readTower 66 = .ok (.iadd, 1) := by decide +kernel
theorem dX6_readTower_67 : decode cX6_readTower 67 = .ok (.putfield 76, 3) := by decide +kernel
theorem dX6_readTower_70 : decode cX6_readTower 70 = .ok (.return_, 1) := by decide +kernel
theorem dX6_readPlayer_0 : decode cX6_readPlayer 0 = .ok (.aload_n 1, 1) := by decide +kernel
theorem dX6_readPlayer_1 : decode cX6_readPlayer 1 = .ok (.getfield 85, 3) := by decide +kernel
theorem dX6_readPlayer_4 : decode cX6_readPlayer 4 = .ok (.istore_n 2, 1) := by decide +kernel
theorem dX6_readPlayer_5 : decode cX6_readPlayer 5 = .ok (.iload_n 2, 1) := by decide +kernel
theorem dX6_readPlayer_6 : decode cX6_readPlayer 6 = .ok (.bipush 6, 2) := by decide +kernel
theorem dX6_readPlayer_8 : decode cX6_readPlayer 8 = .ok (.if_icmp .lt 13, 3) := by decide +kernel
theorem dX6_readPlayer_11 : decode cX6_readPlayer 11 = .ok (.aload_n 0, 1) := by decide +kernel
theorem dX6_readPlayer_12 : decode cX6_readPlayer 12 = .ok (.iconst 3, 1) := by decide +kernel
theorem dX6_readPlayer_13 : decode cX6_readPlayer 13 = .ok (.aload_n 0, 1) := by decide +kernel
theorem dX6_readPlayer_14 : decode cX6_readPlayer 14 = .ok (.getfield 23, 3) := by decide +kernel
theorem dX6_readPlayer_17 : decode cX6_readPlayer 17 = .ok (.invokevirtual 63, 3) := by decide +kernel
theorem dX6_readPlayer_20 : decode cX6_readPlayer 20 = .ok (.return_, 1) := by decide +kernel
theorem dX6_readPlayer_21 : decode cX6_readPlayer 21 = .ok (.aload_n 0, 1) := by decide +kernel
theorem dX6_readPlayer_22 : decode cX6_readPlayer 22 = .ok (.bipush 112, 2) := by decide +kernel
theorem dX6_readPlayer_24 : decode cX6_readPlayer 24 = .ok (.invokevirtual 45, 3) := by decide +kernel
theorem dX6_readPlayer_27 : decode cX6_readPlayer 27 = .ok (.aload_n 1, 1) := by decide +kernel
theorem dX6_readPlayer_28 : decode cX6_readPlayer 28 = .ok (.getfield 88, 3) := by decide +kernel
theorem dX6_readPlayer_31 : decode cX6_readPlayer 31 = .ok (.iload_n 2, 1) := by decide +kernel
theorem dX6_readPlayer_32 : decode cX6_readPlayer 32 = .ok (.aload_n 0, 1) := by decide +kernel
theorem dX6_readPlayer_33 : decode cX6_readPlayer 33 = .ok (.iconst 1, 1) := by decide +kernel
theorem dX6_readPlayer_34 : decode cX6_readPlayer 34 = .ok (.bipush 9, 2) := by decide +kernel
theorem dX6_readPlayer_36 : decode cX6_readPlayer 36 = .ok (.invokevirtual 52, 3) := by decide +kernel
theorem dX6_readPlayer_39 : decode cX6_readPlayer 39 = .ok (.iastore, 1) := by decide +kernel
theorem dX6_readPlayer_40 : decode cX6_readPlayer 40 = .ok (.aload_n 0, 1) := by decide +kernel
theorem dX6_readPlayer_41 : decode cX6_readPlayer 41 = .ok (.bipush 59, 2) := by decide +kernel
theorem dX6_readPlayer_43 : decode cX6_readPlayer 43 = .ok (.invokevirtual 45, 3) := by decide +kernel
theorem dX6_readPlayer_46 : decode cX6_readPlayer 46 = .ok (.aload_n 1, 1) := by decide +kernel
theorem dX6_readPlayer_47 : decode cX6_readPlayer 47 = .ok (.iload_n 2, 1) := by decide +kernel
theorem dX6_readPlayer_48 : decode cX6_readPlayer 48 = .ok (.iconst 1, 1) := by decide +kernel
theorem dX6_readPlayer_49 : decode cX6_readPlayer 49 = .ok (.iadd, 1) := by decide +kernel
theorem dX6_readPlayer_50 : decode cX6_readPlayer 50 = .ok (.putfield 85, 3) := by decide +kernel
theorem dX6_readPlayer_53 : decode cX6_readPlayer 53 = .ok (.return_, 1) := by decide +kernel
theorem dX6_readBoat_0 : decode cX6_readBoat 0 = .ok (.aload_n 1, 1) := by decide +kernel
theorem dX6_readBoat_1 : decode cX6_readBoat 1 = .ok (.getfield 91, 3) := by decide +kernel
theorem dX6_readBoat_4 : decode cX6_readBoat 4 = .ok (.istore_n 2, 1) := by decide +kernel
theorem dX6_readBoat_5 : decode cX6_readBoat 5 = .ok (.iload_n 2, 1) := by decide +kernel
theorem dX6_readBoat_6 : decode cX6_readBoat 6 = .ok (.iconst 4, 1) := by decide +kernel
theorem dX6_readBoat_7 : decode cX6_readBoat 7 = .ok (.if_icmp .lt 13, 3) := by decide +kernel
theorem dX6_readBoat_10 : decode cX6_readBoat 10 = .ok (.aload_n 0, 1) := by decide +kernel
theorem dX6_readBoat_11 : decode cX6_readBoat 11 = .ok (.iconst 3, 1) := by decide +kernel
theorem dX6_readBoat_12 : decode cX6_readBoat 12 = .ok (.aload_n 0, 1) := by decide +kernel
theorem dX6_readBoat_13 : decode cX6_readBoat 13 = .ok (.getfield 23, 3) := by decide +kernel
theorem dX6_readBoat_16 : decode cX6_readBoat 16 = .ok (.invokevirtual 63, 3) := by decide +kernel
theorem dX6_readBoat_19 : decode cX6_readBoat 19 = .ok (.return_, 1) := by decide +kernel
theorem dX6_readBoat_20 : decode cX6_readBoat 20 = .ok (.aload_n 0, 1) := by decide +kernel
theorem dX6_readBoat_21 : decode cX6_readBoat 21 = .ok (.bipush 98, 2) := by decide +kernel
theorem dX6_readBoat_23 : decode cX6_readBoat 23 = .ok (.invokevirtual 45, 3) := by decide +kernel
theorem dX6_readBoat_26 : decode cX6_readBoat 26 = .ok (.aload_n 1, 1) := by decide +kernel
theorem dX6_readBoat_27 : decode cX6_readBoat 27 = .ok (.getfield 94, 3) := by decide +kernel
theorem dX6_readBoat_30 : decode cX6_readBoat 30 = .ok (.iload_n 2, 1) := by decide +kernel
theorem dX6_readBoat_31 : decode cX6_readBoat 31 = .ok (.aload_n 0, 1) := by decide +kernel
theorem dX6_readBoat_32 : decode cX6_readBoat 32 = .ok (.iconst 1, 1) := by decide +kernel
theorem dX6_readBoat_33 : decode cX6_readBoat 33 = .ok (.bipush 30, 2) := by decide +kernel
theorem dX6_readBoat_35 : decode cX6_readBoat 35 = .ok (.invokevirtual 52, 3) := by decide +kernel
theorem dX6_readBoat_38 : decode cX6_readBoat 38 = .ok (.iastore, 1) := by decide +kernel
theorem dX6_readBoat_39 : decode cX6_readBoat 39 = .ok (.aload_n 1, 1) := by decide +kernel
theorem dX6_readBoat_40 : decode cX6_readBoat 40 = .ok (.getfield 97, 3) := by decide +kernel
theorem dX6_readBoat_43 : decode cX6_readBoat 43 = .ok (.iload_n 2, 1) := by decide +kernel
theorem dX6_readBoat_44 : decode cX6_readBoat 44 = .ok (.aload_n 0, 1) := by decide +kernel
theorem dX6_readBoat_45 : decode cX6_readBoat 45 = .ok (.iconst 0, 1) := by decide +kernel
theorem dX6_readBoat_46 : decode cX6_readBoat 46 = .ok (.aload_n 1, 1) := by decide +kernel
theorem dX6_readBoat_47 : decode cX6_readBoat 47 = .ok (.getfield 56, 3) := by decide +kernel
theorem dX6_readBoat_50 : decode cX6_readBoat 50 = .ok (.iconst 1, 1) := by decide +kernel
theorem dX6_readBoat_51 : decode cX6_readBoat 51 = .ok (.isub, 1) := by decide +kernel
theorem dX6_readBoat_52 : decode cX6_readBoat 52 = .ok (.invokevirtual 52, 3) := by decide +kernel
theorem dX6_readBoat_55 : decode cX6_readBoat 55 = .ok (.iastore, 1) := by decide +kernel
theorem dX6_readBoat_56 : decode cX6_readBoat 56 = .ok (.aload_n 1, 1) := by decide +kernel
theorem dX6_readBoat_57 : decode cX6_readBoat 57 = .ok (.getfield 100, 3) := by decide +kernel
theorem dX6_readBoat_60 : decode cX6_readBoat 60 = .ok (.iload_n 2, 1) := by decide +kernel
theorem dX6_readBoat_61 : decode cX6_readBoat 61 = .ok (.aload_n 0, 1) := by decide +kernel
theorem dX6_readBoat_62 : decode cX6_readBoat 62 = .ok (.iconst 0, 1) := by decide +kernel
theorem dX6_readBoat_63 : decode cX6_readBoat 63 = .ok (.aload_n 1, 1) := by decide +kernel
theorem dX6_readBoat_64 : decode cX6_readBoat 64 = .ok (.getfield 56, 3) := by decide +kernel
theorem dX6_readBoat_67 : decode cX6_readBoat 67 = .ok (.iconst 1, 1) := by decide +kernel
theorem dX6_readBoat_68 : decode cX6_readBoat 68 = .ok (.isub, 1) := by decide +kernel
theorem dX6_readBoat_69 : decode cX6_readBoat 69 = .ok (.invokevirtual 52, 3) := by decide +kernel
theorem dX6_readBoat_72 : decode cX6_readBoat 72 = .ok (.iastore, 1) := by decide +kernel
theorem dX6_readBoat_73 : decode cX6_readBoat 73 = .ok (.aload_n 0, 1) := by decide +kernel
theorem dX6_readBoat_74 : decode cX6_readBoat 74 = .ok (.bipush 59, 2) := by decide +kernel
theorem dX6_readBoat_76 : decode cX6_readBoat 76 = .ok (.invokevirtual 45, 3) := by decide +kernel
theorem dX6_readBoat_79 : decode cX6_readBoat 79 = .ok (.aload_n 1, 1) := by decide +kernel
theorem dX6_readBoat_80 : decode cX6_readBoat 80 = .ok (.iload_n 2, 1) := by decide +kernel
theorem dX6_readBoat_81 : decode cX6_readBoat 81 = .ok (.iconst 1, 1) := by decide +kernel
theorem dX6_readBoat_82 : decode cX6_readBoat 82 = .ok (.iadd, 1) := by decide +kernel
theorem dX6_readBoat_83 : decode cX6_readBoat 83 = .ok (.putfield 91, 3) := by decide +kernel
theorem dX6_readBoat_86 : decode cX6_readBoat 86 = .ok (.return_, 1) := by decide +kernel
theorem dX6_moreComes_0 : decode cX6_moreComes 0 = .ok (.aload_n 0, 1) := by decide +kernel
theorem dX6_moreComes_1 : decode cX6_moreComes 1 = .ok (.getfield 23, 3) := by decide +kernel
theorem dX6_moreComes_4 : decode cX6_moreComes 4 = .ok (.aload_n 0, 1) := by decide +kernel
theorem dX6_moreComes_5 : decode cX6_moreComes 5 = .ok (.getfield 19, 3) := by decide +kernel
theorem dX6_moreComes_8 : decode cX6_moreComes 8 = .ok (.if_icmp .ge 30, 3) := by decide +kernel
theorem dX6_moreComes_11 : decode cX6_moreComes 11 = .ok (.aload_n 0, 1) := by decide +kernel
theorem dX6_moreComes_12 : decode cX6_moreComes 12 = .ok (.getfield 9, 3) := by decide +kernel
theorem dX6_moreComes_15 : decode cX6_moreComes 15 = .ok (.aload_n 0, 1) := by decide +kernel
theorem dX6_moreComes_16 : decode cX6_moreComes 16 = .ok (.getfield 23, 3) := by decide +kernel
theorem dX6_moreComes_19 : decode cX6_moreComes 19 = .ok (.iaload, 1) := by decide +kernel
theorem dX6_moreComes_20 : decode cX6_moreComes 20 = .ok (.bipush 32, 2) := by decide +kernel
theorem dX6_moreComes_22 : decode cX6_moreComes 22 = .ok (.if_icmp .ne 16, 3) := by decide +kernel
theorem dX6_moreComes_25 : decode cX6_moreComes 25 = .ok (.aload_n 0, 1) := by decide +kernel
theorem dX6_moreComes_26 : decode cX6_moreComes 26 = .ok (.dup, 1) := by decide +kernel
theorem dX6_moreComes_27 : decode cX6_moreComes 27 = .ok (.getfield 23, 3) := by decide +kernel
theorem dX6_moreComes_30 : decode cX6_moreComes 30 = .ok (.iconst 1, 1) := by decide +kernel
theorem dX6_moreComes_31 : decode cX6_moreComes 31 = .ok (.iadd, 1) := by decide +kernel
theorem dX6_moreComes_32 : decode cX6_moreComes 32 = .ok (.putfield 23, 3) := by decide +kernel
theorem dX6_moreComes_35 : decode cX6_moreComes 35 = .ok (.goto (-35), 3) := by decide +kernel
theorem dX6_moreComes_38 : decode cX6_moreComes 38 = .ok (.aload_n 0, 1) := by decide +kernel
theorem dX6_moreComes_39 : decode cX6_moreComes 39 = .ok (.getfield 23, 3) := by decide +kernel
theorem dX6_moreComes_42 : decode cX6_moreComes 42 = .ok (.aload_n 0, 1) := by decide +kernel
theorem dX6_moreComes_43 : decode cX6_moreComes 43 = .ok (.getfield 19, 3) := by decide +kernel
theorem dX6_moreComes_46 : decode cX6_moreComes 46 = .ok (.if_icmp .ge 7, 3) := by decide +kernel
theorem dX6_moreComes_49 : decode cX6_moreComes 49 = .ok (.iconst 1, 1) := by decide +kernel
theorem dX6_moreComes_50 : decode cX6_moreComes 50 = .ok (.goto 4, 3) := by decide +kernel
theorem dX6_moreComes_53 : decode cX6_moreComes 53 = .ok (.iconst 0, 1) := by decide +kernel
theorem dX6_moreComes_54 : decode cX6_moreComes 54 = .ok (.ireturn, 1) := by decide +kernel
theorem dX6_nextIs_0 : decode cX6_nextIs 0 = .ok (.aload_n 0, 1) := by decide +kernel
theorem dX6_nextIs_1 : decode cX6_nextIs 1 = .ok (.invokevirtual 34, 3) := by decide +kernel
theorem dX6_nextIs_4 : decode cX6_nextIs 4 = .ok (.ifCond .eq 20, 3) := by decide +kernel
theorem dX6_nextIs_7 : decode cX6_nextIs 7 = .ok (.aload_n 0, 1) := by decide +kernel
theorem dX6_nextIs_8 : decode cX6_nextIs 8 = .ok (.getfield 9, 3) := by decide +kernel
theorem dX6_nextIs_11 : decode cX6_nextIs 11 = .ok (.aload_n 0, 1) := by decide +kernel
theorem dX6_nextIs_12 : decode cX6_nextIs 12 = .ok (.getfield 23, 3) := by decide +kernel
theorem dX6_nextIs_15 : decode cX6_nextIs 15 = .ok (.iaload, 1) := by decide +kernel
theorem dX6_nextIs_16 : decode cX6_nextIs 16 = .ok (.iload_n 1, 1) := by decide +kernel
theorem dX6_nextIs_17 : decode cX6_nextIs 17 = .ok (.if_icmp .ne 7, 3) := by decide +kernel
theorem dX6_nextIs_20 : decode cX6_nextIs 20 = .ok (.iconst 1, 1) := by decide +kernel
theorem dX6_nextIs_21 : decode cX6_nextIs 21 = .ok (.goto 4, 3) := by decide +kernel
theorem dX6_nextIs_24 : decode cX6_nextIs 24 = .ok (.iconst 0, 1) := by decide +kernel
theorem dX6_nextIs_25 : decode cX6_nextIs 25 = .ok (.ireturn, 1) := by decide +kernel
theorem dX6_takeSign_0 : decode cX6_takeSign 0 = .ok (.aload_n 0, 1) := by decide +kernel
theorem dX6_takeSign_1 : decode cX6_takeSign 1 = .ok (.iload_n 1, 1) := by decide +kernel
theorem dX6_takeSign_2 : decode cX6_takeSign 2 = .ok (.invokevirtual 59, 3) := by decide +kernel
theorem dX6_takeSign_5 : decode cX6_takeSign 5 = .ok (.ifCond .eq 16, 3) := by decide +kernel
theorem dX6_takeSign_8 : decode cX6_takeSign 8 = .ok (.aload_n 0, 1) := by decide +kernel
theorem dX6_takeSign_9 : decode cX6_takeSign 9 = .ok (.dup, 1) := by decide +kernel
theorem dX6_takeSign_10 : decode cX6_takeSign 10 = .ok (.getfield 23, 3) := by decide +kernel
theorem dX6_takeSign_13 : decode cX6_takeSign 13 = .ok (.iconst 1, 1) := by decide +kernel
theorem dX6_takeSign_14 : decode cX6_takeSign 14 = .ok (.iadd, 1) := by decide +kernel
theorem dX6_takeSign_15 : decode cX6_takeSign 15 = .ok (.putfield 23, 3) := by decide +kernel
theorem dX6_takeSign_18 : decode cX6_takeSign 18 = .ok (.goto 12, 3) := by decide +kernel
theorem dX6_takeSign_21 : decode cX6_takeSign 21 = .ok (.aload_n 0, 1) := by decide +kernel
theorem dX6_takeSign_22 : decode cX6_takeSign 22 = .ok (.iconst 1, 1) := by decide +kernel
theorem dX6_takeSign_23 : decode cX6_takeSign 23 = .ok (.aload_n 0, 1) := by decide +kernel
theorem dX6_takeSign_24 : decode cX6_takeSign 24 = .ok (.getfield 23, 3) := by decide +kernel
theorem dX6_takeSign_27 : decode cX6_takeSign 27 = .ok (.invokevirtual 63, 3) := by decide +kernel
theorem dX6_takeSign_30 : decode cX6_takeSign 30 = .ok (.return_, 1) := by decide +kernel
theorem dX6_isFigure_0 : decode cX6_isFigure 0 = .ok (.iload_n 0, 1) := by decide +kernel
theorem dX6_isFigure_1 : decode cX6_isFigure 1 = .ok (.bipush 48, 2) := by decide +kernel
theorem dX6_isFigure_3 : decode cX6_isFigure 3 = .ok (.if_icmp .lt 13, 3) := by decide +kernel
theorem dX6_isFigure_6 : decode cX6_isFigure 6 = .ok (.iload_n 0, 1) := by decide +kernel
theorem dX6_isFigure_7 : decode cX6_isFigure 7 = .ok (.bipush 57, 2) := by decide +kernel
theorem dX6_isFigure_9 : decode cX6_isFigure 9 = .ok (.if_icmp .gt 7, 3) := by decide +kernel
theorem dX6_isFigure_12 : decode cX6_isFigure 12 = .ok (.iconst 1, 1) := by decide +kernel
theorem dX6_isFigure_13 : decode cX6_isFigure 13 = .ok (.goto 4, 3) := by decide +kernel
theorem dX6_isFigure_16 : decode cX6_isFigure 16 = .ok (.iconst 0, 1) := by decide +kernel
theorem dX6_isFigure_17 : decode cX6_isFigure 17 = .ok (.ireturn, 1) := by decide +kernel
theorem dX6_takeNumber_0 : decode cX6_takeNumber 0 = .ok (.aload_n 0, 1) := by decide +kernel
theorem dX6_takeNumber_1 : decode cX6_takeNumber 1 = .ok (.invokevirtual 34, 3) := by decide +kernel
theorem dX6_takeNumber_4 : decode cX6_takeNumber 4 = .ok (.pop, 1) := by decide +kernel
theorem dX6_takeNumber_5 : decode cX6_takeNumber 5 = .ok (.aload_n 0, 1) := by decide +kernel
theorem dX6_takeNumber_6 : decode cX6_takeNumber 6 = .ok (.getfield 23, 3) := by decide +kernel
theorem dX6_takeNumber_9 : decode cX6_takeNumber 9 = .ok (.istore_n 3, 1) := by decide +kernel
theorem dX6_takeNumber_10 : decode cX6_takeNumber 10 = .ok (.iconst 0, 1) := by decide +kernel
theorem dX6_takeNumber_11 : decode cX6_takeNumber 11 = .ok (.istore 4, 2) := by decide +kernel
theorem dX6_takeNumber_13 : decode cX6_takeNumber 13 = .ok (.aload_n 0, 1) := by decide +kernel
theorem dX6_takeNumber_14 : decode cX6_takeNumber 14 = .ok (.getfield 23, 3) := by decide +kernel
theorem dX6_takeNumber_17 : decode cX6_takeNumber 17 = .ok (.aload_n 0, 1) := by decide +kernel
theorem dX6_takeNumber_18 : decode cX6_takeNumber 18 = .ok (.getfield 19, 3) := by decide +kernel
theorem dX6_takeNumber_21 : decode cX6_takeNumber 21 = .ok (.if_icmp .ge 61, 3) := by decide +kernel
theorem dX6_takeNumber_24 : decode cX6_takeNumber 24 = .ok (.aload_n 0, 1) := by decide +kernel
theorem dX6_takeNumber_25 : decode cX6_takeNumber 25 = .ok (.getfield 9, 3) := by decide +kernel
theorem dX6_takeNumber_28 : decode cX6_takeNumber 28 = .ok (.aload_n 0, 1) := by decide +kernel
theorem dX6_takeNumber_29 : decode cX6_takeNumber 29 = .ok (.getfield 23, 3) := by decide +kernel
theorem dX6_takeNumber_32 : decode cX6_takeNumber 32 = .ok (.iaload, 1) := by decide +kernel
theorem dX6_takeNumber_33 : decode cX6_takeNumber 33 = .ok (.invokestatic 103, 3) := by decide +kernel
theorem dX6_takeNumber_36 : decode cX6_takeNumber 36 = .ok (.ifCond .eq 46, 3) := by decide +kernel
theorem dX6_takeNumber_39 : decode cX6_takeNumber 39 = .ok (.aload_n 0, 1) := by decide +kernel
theorem dX6_takeNumber_40 : decode cX6_takeNumber 40 = .ok (.getfield 23, 3) := by decide +kernel
theorem dX6_takeNumber_43 : decode cX6_takeNumber 43 = .ok (.iload_n 3, 1) := by decide +kernel
theorem dX6_takeNumber_44 : decode cX6_takeNumber 44 = .ok (.isub, 1) := by decide +kernel
theorem dX6_takeNumber_45 : decode cX6_takeNumber 45 = .ok (.iconst 3, 1) := by decide +kernel
theorem dX6_takeNumber_46 : decode cX6_takeNumber 46 = .ok (.if_icmp .ge 23, 3) := by decide +kernel
theorem dX6_takeNumber_49 : decode cX6_takeNumber 49 = .ok (.iload 4, 2) := by decide +kernel
theorem dX6_takeNumber_51 : decode cX6_takeNumber 51 = .ok (.bipush 10, 2) := by decide +kernel
theorem dX6_takeNumber_53 : decode cX6_takeNumber 53 = .ok (.imul, 1) := by decide +kernel
theorem dX6_takeNumber_54 : decode cX6_takeNumber 54 = .ok (.aload_n 0, 1) := by decide +kernel
theorem dX6_takeNumber_55 : decode cX6_takeNumber 55 = .ok (.getfield 9, 3) := by decide +kernel
theorem dX6_takeNumber_58 : decode cX6_takeNumber 58 = .ok (.aload_n 0, 1) := by decide +kernel
theorem dX6_takeNumber_59 : decode cX6_takeNumber 59 = .ok (.getfield 23, 3) := by decide +kernel
theorem dX6_takeNumber_62 : decode cX6_takeNumber 62 = .ok (.iaload, 1) := by decide +kernel
theorem dX6_takeNumber_63 : decode cX6_takeNumber 63 = .ok (.iadd, 1) := by decide +kernel
theorem dX6_takeNumber_64 : decode cX6_takeNumber 64 = .ok (.bipush 48, 2) := by decide +kernel
theorem dX6_takeNumber_66 : decode cX6_takeNumber 66 = .ok (.isub, 1) := by decide +kernel
theorem dX6_takeNumber_67 : decode cX6_takeNumber 67 = .ok (.istore 4, 2) := by decide +kernel
theorem dX6_takeNumber_69 : decode cX6_takeNumber 69 = .ok (.aload_n 0, 1) := by decide +kernel
theorem dX6_takeNumber_70 : decode cX6_takeNumber 70 = .ok (.dup, 1) := by decide +kernel
theorem dX6_takeNumber_71 : decode cX6_takeNumber 71 = .ok (.getfield 23, 3) := by decide +kernel
theorem dX6_takeNumber_74 : decode cX6_takeNumber 74 = .ok (.iconst 1, 1) := by decide +kernel
theorem dX6_takeNumber_75 : decode cX6_takeNumber 75 = .ok (.iadd, 1) := by decide +kernel
theorem dX6_takeNumber_76 : decode cX6_takeNumber 76 = .ok (.putfield 23, 3) := by decide +kernel
theorem dX6_takeNumber_79 : decode cX6_takeNumber 79 = .ok (.goto (-66), 3) := by decide +kernel
theorem dX6_takeNumber_82 : decode cX6_takeNumber 82 = .ok (.aload_n 0, 1) := by decide +kernel
theorem dX6_takeNumber_83 : decode cX6_takeNumber 83 = .ok (.getfield 23, 3) := by decide +kernel
theorem dX6_takeNumber_86 : decode cX6_takeNumber 86 = .ok (.iload_n 3, 1) := by decide +kernel
theorem dX6_takeNumber_87 : decode cX6_takeNumber 87 = .ok (.if_icmp .ne 15, 3) := by decide +kernel
theorem dX6_takeNumber_90 : decode cX6_takeNumber 90 = .ok (.aload_n 0, 1) := by decide +kernel
theorem dX6_takeNumber_91 : decode cX6_takeNumber 91 = .ok (.iconst 1, 1) := by decide +kernel
theorem dX6_takeNumber_92 : decode cX6_takeNumber 92 = .ok (.aload_n 0, 1) := by decide +kernel
theorem dX6_takeNumber_93 : decode cX6_takeNumber 93 = .ok (.getfield 23, 3) := by decide +kernel
theorem dX6_takeNumber_96 : decode cX6_takeNumber 96 = .ok (.invokevirtual 63, 3) := by decide +kernel
theorem dX6_takeNumber_99 : decode cX6_takeNumber 99 = .ok (.goto 31, 3) := by decide +kernel
theorem dX6_takeNumber_102 : decode cX6_takeNumber 102 = .ok (.aload_n 0, 1) := by decide +kernel
theorem dX6_takeNumber_103 : decode cX6_takeNumber 103 = .ok (.getfield 23, 3) := by decide +kernel
theorem dX6_takeNumber_106 : decode cX6_takeNumber 106 = .ok (.iload_n 3, 1) := by decide +kernel
theorem dX6_takeNumber_107 : decode cX6_takeNumber 107 = .ok (.isub, 1) := by decide +kernel
theorem dX6_takeNumber_108 : decode cX6_takeNumber 108 = .ok (.iconst 3, 1) := by decide +kernel
theorem dX6_takeNumber_109 : decode cX6_takeNumber 109 = .ok (.if_icmp .gt 15, 3) := by decide +kernel
theorem dX6_takeNumber_112 : decode cX6_takeNumber 112 = .ok (.iload 4, 2) := by decide +kernel
theorem dX6_takeNumber_114 : decode cX6_takeNumber 114 = .ok (.iload_n 1, 1) := by decide +kernel
theorem dX6_takeNumber_115 : decode cX6_takeNumber 115 = .ok (.if_icmp .lt 9, 3) := by decide +kernel
theorem dX6_takeNumber_118 : decode cX6_takeNumber 118 = .ok (.iload 4, 2) := by decide +kernel
theorem dX6_takeNumber_120 : decode cX6_takeNumber 120 = .ok (.iload_n 2, 1) := by decide +kernel
theorem dX6_takeNumber_121 : decode cX6_takeNumber 121 = .ok (.if_icmp .le 9, 3) := by decide +kernel
theorem dX6_takeNumber_124 : decode cX6_takeNumber 124 = .ok (.aload_n 0, 1) := by decide +kernel
theorem dX6_takeNumber_125 : decode cX6_takeNumber 125 = .ok (.iconst 2, 1) := by decide +kernel
theorem dX6_takeNumber_126 : decode cX6_takeNumber 126 = .ok (.iload_n 3, 1) := by decide +kernel
theorem dX6_takeNumber_127 : decode cX6_takeNumber 127 = .ok (.invokevirtual 63, 3) := by decide +kernel
theorem dX6_takeNumber_130 : decode cX6_takeNumber 130 = .ok (.iload 4, 2) := by decide +kernel
theorem dX6_takeNumber_132 : decode cX6_takeNumber 132 = .ok (.ireturn, 1) := by decide +kernel
theorem dX6_fail_0 : decode cX6_fail 0 = .ok (.aload_n 0, 1) := by decide +kernel
theorem dX6_fail_1 : decode cX6_fail 1 = .ok (.getfield 26, 3) := by decide +kernel
theorem dX6_fail_4 : decode cX6_fail 4 = .ok (.ifCond .ne 13, 3) := by decide +kernel
theorem dX6_fail_7 : decode cX6_fail 7 = .ok (.aload_n 0, 1) := by decide +kernel
theorem dX6_fail_8 : decode cX6_fail 8 = .ok (.iload_n 1, 1) := by decide +kernel
theorem dX6_fail_9 : decode cX6_fail 9 = .ok (.putfield 26, 3) := by decide +kernel
theorem dX6_fail_12 : decode cX6_fail 12 = .ok (.aload_n 0, 1) := by decide +kernel
theorem dX6_fail_13 : decode cX6_fail 13 = .ok (.iload_n 2, 1) := by decide +kernel
theorem dX6_fail_14 : decode cX6_fail 14 = .ok (.putfield 15, 3) := by decide +kernel
theorem dX6_fail_17 : decode cX6_fail 17 = .ok (.return_, 1) := by decide +kernel
theorem dX7_init_0 : decode cX7_init 0 = .ok (.aload_n 0, 1) := by decide +kernel
theorem dX7_init_1 : decode cX7_init 1 = .ok (.invokespecial 3, 3) := by decide +kernel
theorem dX7_init_4 : decode cX7_init 4 = .ok (.aload_n 0, 1) := by decide +kernel
theorem dX7_init_5 : decode cX7_init 5 = .ok (.bipush 6, 2) := by decide +kernel
theorem dX7_init_7 : decode cX7_init 7 = .ok (.sipush 200, 3) := by decide +kernel
theorem dX7_init_10 : decode cX7_init 10 = .ok (.multianewarray 9 2, 4) := by decide +kernel
theorem dX7_init_14 : decode cX7_init 14 = .ok (.putfield 11, 3) := by decide +kernel
theorem dX7_init_17 : decode cX7_init 17 = .ok (.return_, 1) := by decide +kernel
theorem dX7_fitting_0 : decode cX7_fitting 0 = .ok (.iconst 0, 1) := by decide +kernel
theorem dX7_fitting_1 : decode cX7_fitting 1 = .ok (.istore 5, 2) := by decide +kernel
theorem dX7_fitting_3 : decode cX7_fitting 3 = .ok (.iconst 0, 1) := by decide +kernel
theorem dX7_fitting_4 : decode cX7_fitting 4 = .ok (.istore 6, 2) := by decide +kernel
theorem dX7_fitting_6 : decode cX7_fitting 6 = .ok (.iload 6, 2) := by decide +kernel
theorem dX7_fitting_8 : decode cX7_fitting 8 = .ok (.aload_n 1, 1) := by decide +kernel
theorem dX7_fitting_9 : decode cX7_fitting 9 = .ok (.getfield 16, 3) := by decide +kernel
theorem dX7_fitting_12 : decode cX7_fitting 12 = .ok (.if_icmp .ge 43, 3) := by decide +kernel
theorem dX7_fitting_15 : decode cX7_fitting 15 = .ok (.aload_n 2, 1) := by decide +kernel
theorem dX7_fitting_16 : decode cX7_fitting 16 = .ok (.getfield 22, 3) := by decide +kernel
theorem dX7_fitting_19 : decode cX7_fitting 19 = .ok (.iload 6, 2) := by decide +kernel
theorem dX7_fitting_21 : decode cX7_fitting 21 = .ok (.iaload, 1) := by decide +kernel
theorem dX7_fitting_22 : decode cX7_fitting 22 = .ok (.iconst (-1), 1) := by decide +kernel
theorem dX7_fitting_23 : decode cX7_fitting 23 = .ok (.if_icmp .eq 26, 3) := by decide +kernel
theorem dX7_fitting_26 : decode cX7_fitting 26 = .ok (.aload_n 0, 1) := by decide +kernel
theorem dX7_fitting_27 : decode cX7_fitting 27 = .ok (.iload 6, 2) := by decide +kernel
theorem dX7_fitting_29 : decode cX7_fitting 29 = .ok (.aload_n 1, 1) := by decide +kernel
theorem dX7_fitting_30 : decode cX7_fitting 30 = .ok (.aload_n 2, 1) := by decide +kernel
theorem dX7_fitting_31 : decode cX7_fitting 31 = .ok (.aload_n 3, 1) := by decide +kernel
theorem dX7_fitting_32 : decode cX7_fitting 32 = .ok (.aload 4, 2) := by decide +kernel
theorem dX7_fitting_34 : decode cX7_fitting 34 = .ok (.invokevirtual 28, 3) := by decide +kernel
theorem dX7_fitting_37 : decode cX7_fitting 37 = .ok (.ifCond .eq 12, 3) := by decide +kernel
theorem dX7_fitting_40 : decode cX7_fitting 40 = .ok (.iload 5, 2) := by decide +kernel
theorem dX7_fitting_42 : decode cX7_fitting 42 = .ok (.iconst 1, 1) := by decide +kernel
theorem dX7_fitting_43 : decode cX7_fitting 43 = .ok (.iload 6, 2) := by decide +kernel
theorem dX7_fitting_45 : decode cX7_fitting 45 = .ok (.ishl, 1) := by decide +kernel
theorem dX7_fitting_46 : decode cX7_fitting 46 = .ok (.ior, 1) := by decide +kernel
theorem dX7_fitting_47 : decode cX7_fitting 47 = .ok (.istore 5, 2) := by decide +kernel
theorem dX7_fitting_49 : decode cX7_fitting 49 = .ok (.iinc 6 1, 3) := by decide +kernel
theorem dX7_fitting_52 : decode cX7_fitting 52 = .ok (.goto (-46), 3) := by decide +kernel
theorem dX7_fitting_55 : decode cX7_fitting 55 = .ok (.iload 5, 2) := by decide +kernel
theorem dX7_fitting_57 : decode cX7_fitting 57 = .ok (.ireturn, 1) := by decide +kernel
theorem dX7_fits_0 : decode cX7_fits 0 = .ok (.aload_n 0, 1) := by decide +kernel
theorem dX7_fits_1 : decode cX7_fits 1 = .ok (.iload_n 1, 1) := by decide +kernel
theorem dX7_fits_2 : decode cX7_fits 2 = .ok (.aload_n 3, 1) := by decide +kernel
theorem dX7_fits_3 : decode cX7_fits 3 = .ok (.aload 5, 2) := by decide +kernel
theorem dX7_fits_5 : decode cX7_fits 5 = .ok (.invokevirtual 32, 3) := by decide +kernel
theorem dX7_fits_8 : decode cX7_fits 8 = .ok (.aload 4, 2) := by decide +kernel
theorem dX7_fits_10 : decode cX7_fits 10 = .ok (.invokevirtual 36, 3) := by decide +kernel
theorem dX7_fits_13 : decode cX7_fits 13 = .ok (.istore 6, 2) := by decide +kernel
theorem dX7_fits_15 : decode cX7_fits 15 = .ok (.iconst 1, 1) := by decide +kernel
theorem dX7_fits_16 : decode cX7_fits 16 = .ok (.istore 7, 2) := by decide +kernel
theorem dX7_fits_18 : decode cX7_fits 18 = .ok (.iload 7, 2) := by decide +kernel
theorem dX7_fits_20 : decode cX7_fits 20 = .ok (.iload 6, 2) := by decide +kernel
theorem dX7_fits_22 : decode cX7_fits 22 = .ok (.if_icmp .gt 30, 3) := by decide +kernel
theorem dX7_fits_25 : decode cX7_fits 25 = .ok (.aload 5, 2) := by decide +kernel
theorem dX7_fits_27 : decode cX7_fits 27 = .ok (.aload_n 2, 1) := by decide +kernel
theorem dX7_fits_28 : decode cX7_fits 28 = .ok (.invokevirtual 42, 3) := by decide +kernel
theorem dX7_fits_31 : decode cX7_fits 31 = .ok (.aload 4, 2) := by decide +kernel
theorem dX7_fits_33 : decode cX7_fits 33 = .ok (.iload 7, 2) := by decide +kernel
theorem dX7_fits_35 : decode cX7_fits 35 = .ok (.aload_n 2, 1) := by decide +kernel
theorem dX7_fits_36 : decode cX7_fits 36 = .ok (.aload 5, 2) := by decide +kernel
theorem dX7_fits_38 : decode cX7_fits 38 = .ok (.invokevirtual 46, 3) := by decide +kernel
theorem dX7_fits_41 : decode cX7_fits 41 = .ok (.ifCond .ne 5, 3) := by decide +kernel
theorem dX7_fits_44 : decode cX7_fits 44 = .ok (.iconst 0, 1) := by decide +kernel
theorem dX7_fits_45 : decode cX7_fits 45 = .ok (.ireturn, 1) := by decide +kernel
theorem dX7_fits_46 : decode cX7_fits 46 = .ok (.iinc 7 1, 3) := by decide +kernel
theorem dX7_fits_49 : decode cX7_fits 49 = .ok (.goto (-31), 3) := by decide +kernel
theorem dX7_fits_52 : decode cX7_fits 52 = .ok (.iconst 1, 1) := by decide +kernel
theorem dX7_fits_53 : decode cX7_fits 53 = .ok (.ireturn, 1) := by decide +kernel
theorem dX7_beginAsleep_0 : decode cX7_beginAsleep 0 = .ok (.aload_n 3, 1) := by decide +kernel
theorem dX7_beginAsleep_1 : decode cX7_beginAsleep 1 = .ok (.aload_n 2, 1) := by decide +kernel
theorem dX7_beginAsleep_2 : decode cX7_beginAsleep 2 = .ok (.invokevirtual 50, 3) := by decide +kernel
theorem dX7_beginAsleep_5 : decode cX7_beginAsleep 5 = .ok (.aload_n 3, 1) := by decide +kernel
theorem dX7_beginAsleep_6 : decode cX7_beginAsleep 6 = .ok (.iconst 1, 1) := by decide +kernel
theorem dX7_beginAsleep_7 : decode cX7_beginAsleep 7 = .ok (.iload_n 1, 1) := by decide +kernel
theorem dX7_beginAsleep_8 : decode cX7_beginAsleep 8 = .ok (.ishl, 1) := by decide +kernel
theorem dX7_beginAsleep_9 : decode cX7_beginAsleep 9 = .ok (.putfield 54, 3) := by decide +kernel
theorem dX7_beginAsleep_12 : decode cX7_beginAsleep 12 = .ok (.return_, 1) := by decide +kernel
theorem dX7_bestMark_0 : decode cX7_bestMark 0 = .ok (.iconst 0, 1) := by decide +kernel
theorem dX7_bestMark_1 : decode cX7_bestMark 1 = .ok (.istore 5, 2) := by decide +kernel
theorem dX7_bestMark_3 : decode cX7_bestMark 3 = .ok (.iconst 0, 1) := by decide +kernel
theorem dX7_bestMark_4 : decode cX7_bestMark 4 = .ok (.istore 6, 2) := by decide +kernel
theorem dX7_bestMark_6 : decode cX7_bestMark 6 = .ok (.iload 6, 2) := by decide +kernel
theorem dX7_bestMark_8 : decode cX7_bestMark 8 = .ok (.aload_n 2, 1) := by decide +kernel
theorem dX7_bestMark_9 : decode cX7_bestMark 9 = .ok (.getfield 16, 3) := by decide +kernel
theorem dX7_bestMark_12 : decode cX7_bestMark 12 = .ok (.if_icmp .ge 40, 3) := by decide +kernel
theorem dX7_bestMark_15 : decode cX7_bestMark 15 = .ok (.iload_n 1, 1) := by decide +kernel
theorem dX7_bestMark_16 : decode cX7_bestMark 16 = .ok (.iload 6, 2) := by decide +kernel
theorem dX7_bestMark_18 : decode cX7_bestMark 18 = .ok (.ishr, 1) := by decide +kernel
theorem dX7_bestMark_19 : decode cX7_bestMark 19 = .ok (.iconst 1, 1) := by decide +kernel
theorem dX7_bestMark_20 : decode cX7_bestMark 20 = .ok (.iand, 1) := by decide +kernel
theorem dX7_bestMark_21 : decode cX7_bestMark 21 = .ok (.iconst 1, 1) := by decide +kernel
theorem dX7_bestMark_22 : decode cX7_bestMark 22 = .ok (.if_icmp .ne 24, 3) := by decide +kernel
theorem dX7_bestMark_25 : decode cX7_bestMark 25 = .ok (.aload_n 0, 1) := by decide +kernel
theorem dX7_bestMark_26 : decode cX7_bestMark 26 = .ok (.iload 6, 2) := by decide +kernel
theorem dX7_bestMark_28 : decode cX7_bestMark 28 = .ok (.aload_n 3, 1) := by decide +kernel
theorem dX7_bestMark_29 : decode cX7_bestMark 29 = .ok (.aload 4, 2) := by decide +kernel
theorem dX7_bestMark_31 : decode cX7_bestMark 31 = .ok (.invokevirtual 32, 3) := by decide +kernel
theorem dX7_bestMark_34 : decode cX7_bestMark 34 = .ok (.aload_n 0, 1) := by decide +kernel
theorem dX7_bestMark_35 : decode cX7_bestMark 35 = .ok (.iload 5, 2) := by decide +kernel
theorem dX7_bestMark_37 : decode cX7_bestMark 37 = .ok (.aload_n 2, 1) := by decide +kernel
theorem dX7_bestMark_38 : decode cX7_bestMark 38 = .ok (.aload 4, 2) := by decide +kernel
theorem dX7_bestMark_40 : decode cX7_bestMark 40 = .ok (.invokevirtual 57, 3) := by decide +kernel
theorem dX7_bestMark_43 : decode cX7_bestMark 43 = .ok (.iinc 5 1, 3) := by decide +kernel
theorem dX7_bestMark_46 : decode cX7_bestMark 46 = .ok (.iinc 6 1, 3) := by decide +kernel
theorem dX7_bestMark_49 : decode cX7_bestMark 49 = .ok (.goto (-43), 3) := by decide +kernel
theorem dX7_bestMark_52 : decode cX7_bestMark 52 = .ok (.iconst (-1), 1) := by decide +kernel
theorem dX7_bestMark_53 : decode cX7_bestMark 53 = .ok (.istore 6, 2) := by decide +kernel
theorem dX7_bestMark_55 : decode cX7_bestMark 55 = .ok (.iload 5, 2) := by decide +kernel
theorem dX7_bestMark_57 : decode cX7_bestMark 57 = .ok (.istore 7, 2) := by decide +kernel
theorem dX7_bestMark_59 : decode cX7_bestMark 59 = .ok (.iconst 0, 1) := by decide +kernel
theorem dX7_bestMark_60 : decode cX7_bestMark 60 = .ok (.istore 8, 2) := by decide +kernel
theorem dX7_bestMark_62 : decode cX7_bestMark 62 = .ok (.iload 8, 2) := by decide +kernel
theorem dX7_bestMark_64 : decode cX7_bestMark 64 = .ok (.aload_n 2, 1) := by decide +kernel
theorem dX7_bestMark_65 : decode cX7_bestMark 65 = .ok (.getfield 61, 3) := by decide +kernel
theorem dX7_bestMark_68 : decode cX7_bestMark 68 = .ok (.bipush 20, 2) := by decide +kernel
theorem dX7_bestMark_70 : decode cX7_bestMark 70 = .ok (.imul, 1) := by decide +kernel
theorem dX7_bestMark_71 : decode cX7_bestMark 71 = .ok (.if_icmp .ge 48, 3) := by decide +kernel
theorem dX7_bestMark_74 : decode cX7_bestMark 74 = .ok (.aload_n 0, 1) := by decide +kernel
theorem dX7_bestMark_75 : decode cX7_bestMark 75 = .ok (.iload 5, 2) := by decide +kernel
theorem dX7_bestMark_77 : decode cX7_bestMark 77 = .ok (.iload 8, 2) := by decide +kernel
theorem dX7_bestMark_79 : decode cX7_bestMark 79 = .ok (.invokevirtual 64, 3) := by decide +kernel
theorem dX7_bestMark_82 : decode cX7_bestMark 82 = .ok (.istore 9, 2) := by decide +kernel
theorem dX7_bestMark_84 : decode cX7_bestMark 84 = .ok (.iload 9, 2) := by decide +kernel
theorem dX7_bestMark_86 : decode cX7_bestMark 86 = .ok (.iload 7, 2) := by decide +kernel
theorem dX7_bestMark_88 : decode cX7_bestMark 88 = .ok (.if_icmp .ge 25, 3) := by decide +kernel
theorem dX7_bestMark_91 : decode cX7_bestMark 91 = .ok (.iload 9, 2) := by decide +kernel
theorem dX7_bestMark_93 : decode cX7_bestMark 93 = .ok (.istore 7, 2) := by decide +kernel
theorem dX7_bestMark_95 : decode cX7_bestMark 95 = .ok (.iload 8, 2) := by decide +kernel
theorem dX7_bestMark_97 : decode cX7_bestMark 97 = .ok (.bipush 20, 2) := by decide +kernel
theorem dX7_bestMark_99 : decode cX7_bestMark 99 = .ok (.idiv, 1) := by decide +kernel
theorem dX7_bestMark_100 : decode cX7_bestMark 100 = .ok (.bipush 100, 2) := by decide +kernel
theorem dX7_bestMark_102 : decode cX7_bestMark 102 = .ok (.imul, 1) := by decide +kernel
theorem dX7_bestMark_103 : decode cX7_bestMark 103 = .ok (.iload 8, 2) := by decide +kernel
theorem dX7_bestMark_105 : decode cX7_bestMark 105 = .ok (.bipush 20, 2) := by decide +kernel
theorem dX7_bestMark_107 : decode cX7_bestMark 107 = .ok (.irem, 1) := by decide +kernel
theorem dX7_bestMark_108 : decode cX7_bestMark 108 = .ok (.iadd, 1) := by decide +kernel
theorem dX7_bestMark_109 : decode cX7_bestMark 109 = .ok (.iconst 1, 1) := by decide +kernel
theorem dX7_bestMark_110 : decode cX7_bestMark 110 = .ok (.iadd, 1) := by decide +kernel
theorem dX7_bestMark_111 : decode cX7_bestMark 111 = .ok (.istore 6, 2) := by decide +kernel
theorem dX7_bestMark_113 : decode cX7_bestMark 113 = .ok (.iinc 8 1, 3) := by decide +kernel
theorem dX7_bestMark_116 : decode cX7_bestMark 116 = .ok (.goto (-54), 3) := by decide +kernel
theorem dX7_bestMark_119 : decode cX7_bestMark 119 = .ok (.iload 6, 2) := by decide +kernel
theorem dX7_bestMark_121 : decode cX7_bestMark 121 = .ok (.ireturn, 1) := by decide +kernel
theorem dX7_noteSeas_0 : decode cX7_noteSeas 0 = .ok (.iconst 0, 1) := by decide +kernel
theorem dX7_noteSeas_1 : decode cX7_noteSeas 1 = .ok (.istore 4, 2) := by decide +kernel
theorem dX7_noteSeas_3 : decode cX7_noteSeas 3 = .ok (.iload 4, 2) := by decide +kernel
theorem dX7_noteSeas_5 : decode cX7_noteSeas 5 = .ok (.bipush 20, 2) := by decide +kernel
theorem dX7_noteSeas_7 : decode cX7_noteSeas 7 = .ok (.if_icmp .ge 54, 3) := by decide +kernel
theorem dX7_noteSeas_10 : decode cX7_noteSeas 10 = .ok (.aload_n 3, 1) := by decide +kernel
theorem dX7_noteSeas_11 : decode cX7_noteSeas 11 = .ok (.aload_n 2, 1) := by decide +kernel
theorem dX7_noteSeas_12 : decode cX7_noteSeas 12 = .ok (.invokevirtual 42, 3) := by decide +kernel
theorem dX7_noteSeas_15 : decode cX7_noteSeas 15 = .ok (.iconst 0, 1) := by decide +kernel
theorem dX7_noteSeas_16 : decode cX7_noteSeas 16 = .ok (.istore 5, 2) := by decide +kernel
theorem dX7_noteSeas_18 : decode cX7_noteSeas 18 = .ok (.iload 5, 2) := by decide +kernel
theorem dX7_noteSeas_20 : decode cX7_noteSeas 20 = .ok (.aload_n 2, 1) := by decide +kernel
theorem dX7_noteSeas_21 : decode cX7_noteSeas 21 = .ok (.getfield 61, 3) := by decide +kernel
theorem dX7_noteSeas_24 : decode cX7_noteSeas 24 = .ok (.if_icmp .ge 31, 3) := by decide +kernel
theorem dX7_noteSeas_27 : decode cX7_noteSeas 27 = .ok (.aload_n 0, 1) := by decide +kernel
theorem dX7_noteSeas_28 : decode cX7_noteSeas 28 = .ok (.getfield 11, 3) := by decide +kernel
theorem dX7_noteSeas_31 : decode cX7_noteSeas 31 = .ok (.iload_n 1, 1) := by decide +kernel
theorem dX7_noteSeas_32 : decode cX7_noteSeas 32 = .ok (.aaload, 1) := by decide +kernel
theorem dX7_noteSeas_33 : decode cX7_noteSeas 33 = .ok (.iload 5, 2) := by decide +kernel
theorem dX7_noteSeas_35 : decode cX7_noteSeas 35 = .ok (.bipush 20, 2) := by decide +kernel
theorem dX7_noteSeas_37 : decode cX7_noteSeas 37 = .ok (.imul, 1) := by decide +kernel
theorem dX7_noteSeas_38 : decode cX7_noteSeas 38 = .ok (.iload 4, 2) := by decide +kernel
theorem dX7_noteSeas_40 : decode cX7_noteSeas 40 = .ok (.iadd, 1) := by decide +kernel
theorem dX7_noteSeas_41 : decode cX7_noteSeas 41 = .ok (.aload_n 3, 1) := by decide +kernel
theorem dX7_noteSeas_42 : decode cX7_noteSeas 42 = .ok (.aload_n 2, 1) := by decide +kernel
theorem dX7_noteSeas_43 : decode cX7_noteSeas 43 = .ok (.iload 5, 2) := by decide +kernel
theorem dX7_noteSeas_45 : decode cX7_noteSeas 45 = .ok (.invokevirtual 68, 3) := by decide +kernel
theorem dX7_noteSeas_48 : decode cX7_noteSeas 48 = .ok (.iastore, 1) := by decide +kernel
theorem dX7_noteSeas_49 : decode cX7_noteSeas 49 = .ok (.iinc 5 1, 3) := by decide +kernel
theorem dX7_noteSeas_52 : decode cX7_noteSeas 52 = .ok (.goto (-34), 3) := by decide +kernel
theorem dX7_noteSeas_55 : decode cX7_noteSeas 55 = .ok (.iinc 4 1, 3) := by decide +kernel
theorem dX7_noteSeas_58 : decode cX7_noteSeas 58 = .ok (.goto (-55), 3) := by decide +kernel
theorem dX7_noteSeas_61 : decode cX7_noteSeas 61 = .ok (.return_, 1) := by decide +kernel
theorem dX7_mostAlike_0 : decode cX7_mostAlike 0 = .ok (.iconst 0, 1) := by decide +kernel
theorem dX7_mostAlike_1 : decode cX7_mostAlike 1 = .ok (.istore_n 3, 1) := by decide +kernel
theorem dX7_mostAlike_2 : decode cX7_mostAlike 2 = .ok (.iconst 0, 1) := by decide +kernel
theorem dX7_mostAlike_3 : decode cX7_mostAlike 3 = .ok (.istore 4, 2) := by decide +kernel
theorem dX7_mostAlike_5 : decode cX7_mostAlike 5 = .ok (.iload 4, 2) := by decide +kernel
theorem dX7_mostAlike_7 : decode cX7_mostAlike 7 = .ok (.iload_n 1, 1) := by decide +kernel
theorem dX7_mostAlike_8 : decode cX7_mostAlike 8 = .ok (.if_icmp .ge 58, 3) := by decide +kernel
theorem dX7_mostAlike_11 : decode cX7_mostAlike 11 = .ok (.iconst 0, 1) := by decide +kernel
theorem dX7_mostAlike_12 : decode cX7_mostAlike 12 = .ok (.istore 5, 2) := by decide +kernel
theorem dX7_mostAlike_14 : decode cX7_mostAlike 14 = .ok (.iconst 0, 1) := by decide +kernel
theorem dX7_mostAlike_15 : decode cX7_mostAlike 15 = .ok (.istore 6, 2) := by decide +kernel
theorem dX7_mostAlike_17 : decode cX7_mostAlike 17 = .ok (.iload 6, 2) := by decide +kernel
theorem dX7_mostAlike_19 : decode cX7_mostAlike 19 = .ok (.iload_n 1, 1) := by decide +kernel
theorem dX7_mostAlike_20 : decode cX7_mostAlike 20 = .ok (.if_icmp .ge 33, 3) := by decide +kernel
theorem dX7_mostAlike_23 : decode cX7_mostAlike 23 = .ok (.aload_n 0, 1) := by decide +kernel
theorem dX7_mostAlike_24 : decode cX7_mostAlike 24 = .ok (.getfield 11, 3) := by decide +kernel
theorem dX7_mostAlike_27 : decode cX7_mostAlike 27 = .ok (.iload 4, 2) := by decide +kernel
theorem dX7_mostAlike_29 : decode cX7_mostAlike 29 = .ok (.aaload, 1) := by decide +kernel
theorem dX7_mostAlike_30 : decode cX7_mostAlike 30 = .ok (.iload_n 2, 1) := by decide +kernel
theorem dX7_mostAlike_31 : decode cX7_mostAlike 31 = .ok (.iaload, 1) := by decide +kernel
theorem dX7_mostAlike_32 : decode cX7_mostAlike 32 = .ok (.aload_n 0, 1) := by decide +kernel
theorem dX7_mostAlike_33 : decode cX7_mostAlike 33 = .ok (.getfield 11, 3) := by decide +kernel
theorem dX7_mostAlike_36 : decode cX7_mostAlike 36 = .ok (.iload 6, 2) := by decide +kernel
theorem dX7_mostAlike_38 : decode cX7_mostAlike 38 = .ok (.aaload, 1) := by decide +kernel
theorem dX7_mostAlike_39 : decode cX7_mostAlike 39 = .ok (.iload_n 2, 1) := by decide +kernel
theorem dX7_mostAlike_40 : decode cX7_mostAlike 40 = .ok (.iaload, 1) := by decide +kernel
theorem dX7_mostAlike_41 : decode cX7_mostAlike 41 = .ok (.if_icmp .ne 6, 3) := by decide +kernel
theorem dX7_mostAlike_44 : decode cX7_mostAlike 44 = .ok (.iinc 5 1, 3) := by decide +kernel
theorem dX7_mostAlike_47 : decode cX7_mostAlike 47 = .ok (.iinc 6 1, 3) := by decide +kernel
theorem dX7_mostAlike_50 : decode cX7_mostAlike 50 = .ok (.goto (-33), 3) := by decide +kernel
theorem dX7_mostAlike_53 : decode cX7_mostAlike 53 = .ok (.iload_n 3, 1) := by decide +kernel
theorem dX7_mostAlike_54 : decode cX7_mostAlike 54 = .ok (.iload 5, 2) := by decide +kernel
theorem dX7_mostAlike_56 : decode cX7_mostAlike 56 = .ok (.invokestatic 72, 3) := by decide +kernel
theorem dX7_mostAlike_59 : decode cX7_mostAlike 59 = .ok (.istore_n 3, 1) := by decide +kernel
theorem dX7_mostAlike_60 : decode cX7_mostAlike 60 = .ok (.iinc 4 1, 3) := by decide +kernel
theorem dX7_mostAlike_63 : decode cX7_mostAlike 63 = .ok (.goto (-58), 3) := by decide +kernel
theorem dX7_mostAlike_66 : decode cX7_mostAlike 66 = .ok (.iload_n 3, 1) := by decide +kernel
theorem dX7_mostAlike_67 : decode cX7_mostAlike 67 = .ok (.ireturn, 1) := by decide +kernel
theorem dX8_init_0 : decode cX8_init 0 = .ok (.aload_n 0, 1) := by decide +kernel
theorem dX8_init_1 : decode cX8_init 1 = .ok (.invokespecial 3, 3) := by decide +kernel
theorem dX8_init_4 : decode cX8_init 4 = .ok (.aload_n 0, 1) := by decide +kernel
theorem dX8_init_5 : decode cX8_init 5 = .ok (.bipush 6, 2) := by decide +kernel
theorem dX8_init_7 : decode cX8_init 7 = .ok (.newarray .int, 2) := by decide +kernel
theorem dX8_init_9 : decode cX8_init 9 = .ok (.putfield 9, 3) := by decide +kernel
theorem dX8_init_12 : decode cX8_init 12 = .ok (.aload_n 0, 1) := by decide +kernel
theorem dX8_init_13 : decode cX8_init 13 = .ok (.bipush 6, 2) := by decide +kernel
theorem dX8_init_15 : decode cX8_init 15 = .ok (.newarray .int, 2) := by decide +kernel
theorem dX8_init_17 : decode cX8_init 17 = .ok (.putfield 15, 3) := by decide +kernel
theorem dX8_init_20 : decode cX8_init 20 = .ok (.aload_n 0, 1) := by decide +kernel
theorem dX8_init_21 : decode cX8_init 21 = .ok (.bipush 6, 2) := by decide +kernel
theorem dX8_init_23 : decode cX8_init 23 = .ok (.newarray .int, 2) := by decide +kernel
theorem dX8_init_25 : decode cX8_init 25 = .ok (.putfield 18, 3) := by decide +kernel
theorem dX8_init_28 : decode cX8_init 28 = .ok (.aload_n 0, 1) := by decide +kernel
theorem dX8_init_29 : decode cX8_init 29 = .ok (.iconst 4, 1) := by decide +kernel
theorem dX8_init_30 : decode cX8_init 30 = .ok (.newarray .int, 2) := by decide +kernel
theorem dX8_init_32 : decode cX8_init 32 = .ok (.putfield 21, 3) := by decide +kernel
theorem dX8_init_35 : decode cX8_init 35 = .ok (.return_, 1) := by decide +kernel
theorem dX8_begin_0 : decode cX8_begin 0 = .ok (.aload_n 0, 1) := by decide +kernel
theorem dX8_begin_1 : decode cX8_begin 1 = .ok (.iconst 0, 1) := by decide +kernel
theorem dX8_begin_2 : decode cX8_begin 2 = .ok (.putfield 24, 3) := by decide +kernel
theorem dX8_begin_5 : decode cX8_begin 5 = .ok (.aload_n 0, 1) := by decide +kernel
theorem dX8_begin_6 : decode cX8_begin 6 = .ok (.iconst 0, 1) := by decide +kernel
theorem dX8_begin_7 : decode cX8_begin 7 = .ok (.putfield 28, 3) := by decide +kernel
theorem dX8_begin_10 : decode cX8_begin 10 = .ok (.aload_n 0, 1) := by decide +kernel
theorem dX8_begin_11 : decode cX8_begin 11 = .ok (.getfield 9, 3) := by decide +kernel
theorem dX8_begin_14 : decode cX8_begin 14 = .ok (.iconst 0, 1) := by decide +kernel
theorem dX8_begin_15 : decode cX8_begin 15 = .ok (.invokestatic 31, 3) := by decide +kernel
theorem dX8_begin_18 : decode cX8_begin 18 = .ok (.aload_n 0, 1) := by decide +kernel
theorem dX8_begin_19 : decode cX8_begin 19 = .ok (.getfield 15, 3) := by decide +kernel
theorem dX8_begin_22 : decode cX8_begin 22 = .ok (.iconst (-1), 1) := by decide +kernel
theorem dX8_begin_23 : decode cX8_begin 23 = .ok (.invokestatic 31, 3) := by decide +kernel
theorem dX8_begin_26 : decode cX8_begin 26 = .ok (.aload_n 0, 1) := by decide +kernel
theorem dX8_begin_27 : decode cX8_begin 27 = .ok (.getfield 18, 3) := by decide +kernel
theorem dX8_begin_30 : decode cX8_begin 30 = .ok (.iconst 0, 1) := by decide +kernel
theorem dX8_begin_31 : decode cX8_begin 31 = .ok (.invokestatic 31, 3) := by decide +kernel
theorem dX8_begin_34 : decode cX8_begin 34 = .ok (.iconst 0, 1) := by decide +kernel
theorem dX8_begin_35 : decode cX8_begin 35 = .ok (.istore_n 2, 1) := by decide +kernel
theorem dX8_begin_36 : decode cX8_begin 36 = .ok (.iload_n 2, 1) := by decide +kernel
theorem dX8_begin_37 : decode cX8_begin 37 = .ok (.aload_n 1, 1) := by decide +kernel
theorem dX8_begin_38 : decode cX8_begin 38 = .ok (.getfield 37, 3) := by decide +kernel
theorem dX8_begin_41 : decode cX8_begin 41 = .ok (.if_icmp .ge 21, 3) := by decide +kernel
theorem dX8_begin_44 : decode cX8_begin 44 = .ok (.aload_n 0, 1) := by decide +kernel
theorem dX8_begin_45 : decode cX8_begin 45 = .ok (.getfield 21, 3) := by decide +kernel
theorem dX8_begin_48 : decode cX8_begin 48 = .ok (.iload_n 2, 1) := by decide +kernel
theorem dX8_begin_49 : decode cX8_begin 49 = .ok (.aload_n 1, 1) := by decide +kernel
theorem dX8_begin_50 : decode cX8_begin 50 = .ok (.getfield 42, 3) := by decide +kernel
theorem dX8_begin_53 : decode cX8_begin 53 = .ok (.iload_n 2, 1) := by decide +kernel
theorem dX8_begin_54 : decode cX8_begin 54 = .ok (.iaload, 1) := by decide +kernel
theorem dX8_begin_55 : decode cX8_begin 55 = .ok (.iastore, 1) := by decide +kernel
theorem dX8_begin_56 : decode cX8_begin 56 = .ok (.iinc 2 1, 3) := by decide +kernel
theorem dX8_begin_59 : decode cX8_begin 59 = .ok (.goto (-23), 3) := by decide +kernel
theorem dX8_begin_62 : decode cX8_begin 62 = .ok (.return_, 1) := by decide +kernel
theorem dX8_copy_0 : decode cX8_copy 0 = .ok (.aload_n 0, 1) := by decide +kernel
theorem dX8_copy_1 : decode cX8_copy 1 = .ok (.aload_n 1, 1) := by decide +kernel
theorem dX8_copy_2 : decode cX8_copy 2 = .ok (.getfield 24, 3) := by decide +kernel
theorem dX8_copy_5 : decode cX8_copy 5 = .ok (.putfield 24, 3) := by decide +kernel
theorem dX8_copy_8 : decode cX8_copy 8 = .ok (.aload_n 0, 1) := by decide +kernel
theorem dX8_copy_9 : decode cX8_copy 9 = .ok (.aload_n 1, 1) := by decide +kernel
theorem dX8_copy_10 : decode cX8_copy 10 = .ok (.getfield 28, 3) := by decide +kernel
theorem dX8_copy_13 : decode cX8_copy 13 = .ok (.putfield 28, 3) := by decide +kernel
theorem dX8_copy_16 : decode cX8_copy 16 = .ok (.aload_n 1, 1) := by decide +kernel
theorem dX8_copy_17 : decode cX8_copy 17 = .ok (.getfield 9, 3) := by decide +kernel
theorem dX8_copy_20 : decode cX8_copy 20 = .ok (.iconst 0, 1) := by decide +kernel
theorem dX8_copy_21 : decode cX8_copy 21 = .ok (.aload_n 0, 1) := by decide +kernel
theorem dX8_copy_22 : decode cX8_copy 22 = .ok (.getfield 9, 3) := by decide +kernel
theorem dX8_copy_25 : decode cX8_copy 25 = .ok (.iconst 0, 1) := by decide +kernel
theorem dX8_copy_26 : decode cX8_copy 26 = .ok (.bipush 6, 2) := by decide +kernel
theorem dX8_copy_28 : decode cX8_copy 28 = .ok (.invokestatic 45, 3) := by decide +kernel
theorem dX8_copy_31 : decode cX8_copy 31 = .ok (.aload_n 1, 1) := by decide +kernel
theorem dX8_copy_32 : decode cX8_copy 32 = .ok (.getfield 15, 3) := by decide +kernel
theorem dX8_copy_35 : decode cX8_copy 35 = .ok (.iconst 0, 1) := by decide +kernel
theorem dX8_copy_36 : decode cX8_copy 36 = .ok (.aload_n 0, 1) := by decide +kernel
theorem dX8_copy_37 : decode cX8_copy 37 = .ok (.getfield 15, 3) := by decide +kernel
theorem dX8_copy_40 : decode cX8_copy 40 = .ok (.iconst 0, 1) := by decide +kernel
theorem dX8_copy_41 : decode cX8_copy 41 = .ok (.bipush 6, 2) := by decide +kernel
theorem dX8_copy_43 : decode cX8_copy 43 = .ok (.invokestatic 45, 3) := by decide +kernel
theorem dX8_copy_46 : decode cX8_copy 46 = .ok (.aload_n 1, 1) := by decide +kernel
theorem dX8_copy_47 : decode cX8_copy 47 = .ok (.getfield 18, 3) := by decide +kernel
theorem dX8_copy_50 : decode cX8_copy 50 = .ok (.iconst 0, 1) := by decide +kernel
theorem dX8_copy_51 : decode cX8_copy 51 = .ok (.aload_n 0, 1) := by decide +kernel
theorem dX8_copy_52 : decode cX8_copy 52 = .ok (.getfield 18, 3) := by decide +kernel
theorem dX8_copy_55 : decode cX8_copy 55 = .ok (.iconst 0, 1) := by decide +kernel
theorem dX8_copy_56 : decode cX8_copy 56 = .ok (.bipush 6, 2) := by decide +kernel
theorem dX8_copy_58 : decode cX8_copy 58 = .ok (.invokestatic 45, 3) := by decide +kernel
theorem dX8_copy_61 : decode cX8_copy 61 = .ok (.aload_n 1, 1) := by decide +kernel
theorem dX8_copy_62 : decode cX8_copy 62 = .ok (.getfield 21, 3) := by decide +kernel
theorem dX8_copy_65 : decode cX8_copy 65 = .ok (.iconst 0, 1) := by decide +kernel
theorem dX8_copy_66 : decode cX8_copy 66 = .ok (.aload_n 0, 1) := by decide +kernel
theorem dX8_copy_67 : decode cX8_copy 67 = .ok (.getfield 21, 3) := by decide +kernel
theorem dX8_copy_70 : decode cX8_copy 70 = .ok (.iconst 0, 1) := by decide +kernel
theorem dX8_copy_71 : decode cX8_copy 71 = .ok (.iconst 4, 1) := by decide +kernel
theorem dX8_copy_72 : decode cX8_copy 72 = .ok (.invokestatic 45, 3) := by decide +kernel
theorem dX8_copy_75 : decode cX8_copy 75 = .ok (.return_, 1) := by decide +kernel
theorem dX8_sleeps_0 : decode cX8_sleeps 0 = .ok (.aload_n 0, 1) := by decide +kernel
theorem dX8_sleeps_1 : decode cX8_sleeps 1 = .ok (.getfield 28, 3) := by decide +kernel
theorem dX8_sleeps_4 : decode cX8_sleeps 4 = .ok (.iload_n 1, 1) := by decide +kernel
theorem dX8_sleeps_5 : decode cX8_sleeps 5 = .ok (.ishr, 1) := by decide +kernel
theorem dX8_sleeps_6 : decode cX8_sleeps 6 = .ok (.iconst 1, 1) := by decide +kernel
theorem dX8_sleeps_7 : decode cX8_sleeps 7 = .ok (.iand, 1) := by decide +kernel
theorem dX8_sleeps_8 : decode cX8_sleeps 8 = .ok (.iconst 1, 1) := by decide +kernel
theorem dX8_sleeps_9 : decode cX8_sleeps 9 = .ok (.if_icmp .ne 7, 3) := by decide +kernel
theorem dX8_sleeps_12 : decode cX8_sleeps 12 = .ok (.iconst 1, 1) := by decide +kernel
theorem dX8_sleeps_13 : decode cX8_sleeps 13 = .ok (.goto 4, 3) := by decide +kernel
theorem dX8_sleeps_16 : decode cX8_sleeps 16 = .ok (.iconst 0, 1) := by decide +kernel
theorem dX8_sleeps_17 : decode cX8_sleeps 17 = .ok (.ireturn, 1) := by decide +kernel
theorem dX8_setAsleep_0 : decode cX8_setAsleep 0 = .ok (.aload_n 0, 1) := by decide +kernel
theorem dX8_setAsleep_1 : decode cX8_setAsleep 1 = .ok (.iload_n 2, 1) := by decide +kernel
theorem dX8_setAsleep_2 : decode cX8_setAsleep 2 = .ok (.ifCond .eq 14, 3) := by decide +kernel
theorem dX8_setAsleep_5 : decode cX8_setAsleep 5 = .ok (.aload_n 0, 1) := by decide +kernel
theorem dX8_setAsleep_6 : decode cX8_setAsleep 6 = .ok (.getfield 28, 3) := by decide +kernel
theorem dX8_setAsleep_9 : decode cX8_setAsleep 9 = .ok (.iconst 1, 1) := by decide +kernel
theorem dX8_setAsleep_10 : decode cX8_setAsleep 10 = .ok (.iload_n 1, 1) := by decide +kernel
theorem dX8_setAsleep_11 : decode cX8_setAsleep 11 = .ok (.ishl, 1) := by decide +kernel
theorem dX8_setAsleep_12 : decode cX8_setAsleep 12 = .ok (.ior, 1) := by decide +kernel
theorem dX8_setAsleep_13 : decode cX8_setAsleep 13 = .ok (.goto 13, 3) := by decide +kernel
theorem dX8_setAsleep_16 : decode cX8_setAsleep 16 = .ok (.aload_n 0, 1) := by decide +kernel
theorem dX8_setAsleep_17 : decode cX8_setAsleep 17 = .ok (.getfield 28, 3) := by decide +kernel
theorem dX8_setAsleep_20 : decode cX8_setAsleep 20 = .ok (.iconst 1, 1) := by decide +kernel
theorem dX8_setAsleep_21 : decode cX8_setAsleep 21 = .ok (.iload_n 1, 1) := by decide +kernel
theorem dX8_setAsleep_22 : decode cX8_setAsleep 22 = .ok (.ishl, 1) := by decide +kernel
theorem dX8_setAsleep_23 : decode cX8_setAsleep 23 = .ok (.iconst (-1), 1) := by decide +kernel
theorem dX8_setAsleep_24 : decode cX8_setAsleep 24 = .ok (.ixor, 1) := by decide +kernel
theorem dX8_setAsleep_25 : decode cX8_setAsleep 25 = .ok (.iand, 1) := by decide +kernel
theorem dX8_setAsleep_26 : decode cX8_setAsleep 26 = .ok (.putfield 28, 3) := by decide +kernel
theorem dX8_setAsleep_29 : decode cX8_setAsleep 29 = .ok (.return_, 1) := by decide +kernel
theorem dX8_sitterAt_0 : decode cX8_sitterAt 0 = .ok (.iconst 0, 1) := by decide +kernel
theorem dX8_sitterAt_1 : decode cX8_sitterAt 1 = .ok (.istore_n 3, 1) := by decide +kernel
theorem dX8_sitterAt_2 : decode cX8_sitterAt 2 = .ok (.iload_n 3, 1) := by decide +kernel
theorem dX8_sitterAt_3 : decode cX8_sitterAt 3 = .ok (.aload_n 1, 1) := by decide +kernel
theorem dX8_sitterAt_4 : decode cX8_sitterAt 4 = .ok (.getfield 51, 3) := by decide +kernel
theorem dX8_sitterAt_7 : decode cX8_sitterAt 7 = .ok (.if_icmp .ge 21, 3) := by decide +kernel
theorem dX8_sitterAt_10 : decode cX8_sitterAt 10 = .ok (.aload_n 0, 1) := by decide +kernel
theorem dX8_sitterAt_11 : decode cX8_sitterAt 11 = .ok (.getfield 15, 3) := by decide +kernel
theorem dX8_sitterAt_14 : decode cX8_sitterAt 14 = .ok (.iload_n 3, 1) := by decide +kernel
theorem dX8_sitterAt_15 : decode cX8_sitterAt 15 = .ok (.iaload, 1) := by decide +kernel
theorem dX8_sitterAt_16 : decode cX8_sitterAt 16 = .ok (.iload_n 2, 1) := by decide +kernel
theorem dX8_sitterAt_17 : decode cX8_sitterAt 17 = .ok (.if_icmp .ne 5, 3) := by decide +kernel
theorem dX8_sitterAt_20 : decode cX8_sitterAt 20 = .ok (.iload_n 3, 1) := by decide +kernel
theorem dX8_sitterAt_21 : decode cX8_sitterAt 21 = .ok (.ireturn, 1) := by decide +kernel
theorem dX8_sitterAt_22 : decode cX8_sitterAt 22 = .ok (.iinc 3 1, 3) := by decide +kernel
theorem dX8_sitterAt_25 : decode cX8_sitterAt 25 = .ok (.goto (-23), 3) := by decide +kernel
theorem dX8_sitterAt_28 : decode cX8_sitterAt 28 = .ok (.iconst (-1), 1) := by decide +kernel
theorem dX8_sitterAt_29 : decode cX8_sitterAt 29 = .ok (.ireturn, 1) := by decide +kernel
theorem dX8_sitting_0 : decode cX8_sitting 0 = .ok (.iconst 0, 1) := by decide +kernel
theorem dX8_sitting_1 : decode cX8_sitting 1 = .ok (.istore_n 2, 1) := by decide +kernel
theorem dX8_sitting_2 : decode cX8_sitting 2 = .ok (.iconst 0, 1) := by decide +kernel
theorem dX8_sitting_3 : decode cX8_sitting 3 = .ok (.istore_n 3, 1) := by decide +kernel
theorem dX8_sitting_4 : decode cX8_sitting 4 = .ok (.iload_n 3, 1) := by decide +kernel
theorem dX8_sitting_5 : decode cX8_sitting 5 = .ok (.aload_n 1, 1) := by decide +kernel
theorem dX8_sitting_6 : decode cX8_sitting 6 = .ok (.getfield 51, 3) := by decide +kernel
theorem dX8_sitting_9 : decode cX8_sitting 9 = .ok (.if_icmp .ge 25, 3) := by decide +kernel
theorem dX8_sitting_12 : decode cX8_sitting 12 = .ok (.aload_n 0, 1) := by decide +kernel
theorem dX8_sitting_13 : decode cX8_sitting 13 = .ok (.getfield 15, 3) := by decide +kernel
theorem dX8_sitting_16 : decode cX8_sitting 16 = .ok (.iload_n 3, 1) := by decide +kernel
theorem dX8_sitting_17 : decode cX8_sitting 17 = .ok (.iaload, 1) := by decide +kernel
theorem dX8_sitting_18 : decode cX8_sitting 18 = .ok (.iconst (-1), 1) := by decide +kernel
theorem dX8_sitting_19 : decode cX8_sitting 19 = .ok (.if_icmp .eq 9, 3) := by decide +kernel
theorem dX8_sitting_22 : decode cX8_sitting 22 = .ok (.iload_n 2, 1) := by decide +kernel
theorem dX8_sitting_23 : decode cX8_sitting 23 = .ok (.iconst 1, 1) := by decide +kernel
theorem dX8_sitting_24 : decode cX8_sitting 24 = .ok (.iload_n 3, 1) := by decide +kernel
theorem dX8_sitting_25 : decode cX8_sitting 25 = .ok (.ishl, 1) := by decide +kernel
theorem dX8_sitting_26 : decode cX8_sitting 26 = .ok (.ior, 1) := by decide +kernel
theorem dX8_sitting_27 : decode cX8_sitting 27 = .ok (.istore_n 2, 1) := by decide +kernel
theorem dX8_sitting_28 : decode cX8_sitting 28 = .ok (.iinc 3 1, 3) := by decide +kernel
theorem dX8_sitting_31 : decode cX8_sitting 31 = .ok (.goto (-27), 3) := by decide +kernel
theorem dX8_sitting_34 : decode cX8_sitting 34 = .ok (.iload_n 2, 1) := by decide +kernel
theorem dX8_sitting_35 : decode cX8_sitting 35 = .ok (.ireturn, 1) := by decide +kernel
theorem dX8_passHour_0 : decode cX8_passHour 0 = .ok (.aload_n 0, 1) := by decide +kernel
theorem dX8_passHour_1 : decode cX8_passHour 1 = .ok (.aload_n 1, 1) := by decide +kernel
theorem dX8_passHour_2 : decode cX8_passHour 2 = .ok (.invokevirtual 54, 3) := by decide +kernel
theorem dX8_passHour_5 : decode cX8_passHour 5 = .ok (.iconst 0, 1) := by decide +kernel
theorem dX8_passHour_6 : decode cX8_passHour 6 = .ok (.istore_n 2, 1) := by decide +kernel
theorem dX8_passHour_7 : decode cX8_passHour 7 = .ok (.iload_n 2, 1) := by decide +kernel
theorem dX8_passHour_8 : decode cX8_passHour 8 = .ok (.aload_n 1, 1) := by decide +kernel
theorem dX8_passHour_9 : decode cX8_passHour 9 = .ok (.getfield 37, 3) := by decide +kernel
theorem dX8_passHour_12 : decode cX8_passHour 12 = .ok (.if_icmp .ge 15, 3) := by decide +kernel
theorem dX8_passHour_15 : decode cX8_passHour 15 = .ok (.aload_n 0, 1) := by decide +kernel
theorem dX8_passHour_16 : decode cX8_passHour 16 = .ok (.aload_n 1, 1) := by decide +kernel
theorem dX8_passHour_17 : decode cX8_passHour 17 = .ok (.iload_n 2, 1) := by decide +kernel
theorem dX8_passHour_18 : decode cX8_passHour 18 = .ok (.invokevirtual 58, 3) := by decide +kernel
theorem dX8_passHour_21 : decode cX8_passHour 21 = .ok (.iinc 2 1, 3) := by decide +kernel
theorem dX8_passHour_24 : decode cX8_passHour 24 = .ok (.goto (-17), 3) := by decide +kernel
theorem dX8_passHour_27 : decode cX8_passHour 27 = .ok (.aload_n 0, 1) := by decide +kernel
theorem dX8_passHour_28 : decode cX8_passHour 28 = .ok (.dup, 1) := by decide +kernel
theorem dX8_passHour_29 : decode cX8_passHour 29 = .ok (.getfield 24, 3) := by decide +kernel
theorem dX8_passHour_32 : decode cX8_passHour 32 = .ok (.iconst 1, 1) := by decide +kernel
theorem dX8_passHour_33 : decode cX8_passHour 33 = .ok (.iadd, 1) := by decide +kernel
theorem dX8_passHour_34 : decode cX8_passHour 34 = .ok (.putfield 24, 3) := by decide +kernel
theorem dX8_passHour_37 : decode cX8_passHour 37 = .ok (.return_, 1) := by decide +kernel
theorem dX8_wind_0 : decode cX8_wind 0 = .ok (.iconst 0, 1) := by decide +kernel
theorem dX8_wind_1 : decode cX8_wind 1 = .ok (.istore_n 2, 1) := by decide +kernel
theorem dX8_wind_2 : decode cX8_wind 2 = .ok (.iconst 0, 1) := by decide +kernel
theorem dX8_wind_3 : decode cX8_wind 3 = .ok (.istore_n 3, 1) := by decide +kernel
theorem dX8_wind_4 : decode cX8_wind 4 = .ok (.iload_n 3, 1) := by decide +kernel
theorem dX8_wind_5 : decode cX8_wind 5 = .ok (.aload_n 1, 1) := by decide +kernel
theorem dX8_wind_6 : decode cX8_wind 6 = .ok (.getfield 51, 3) := by decide +kernel
theorem dX8_wind_9 : decode cX8_wind 9 = .ok (.if_icmp .ge 110, 3) := by decide +kernel
theorem dX8_wind_12 : decode cX8_wind 12 = .ok (.aload_n 0, 1) := by decide +kernel
theorem dX8_wind_13 : decode cX8_wind 13 = .ok (.getfield 15, 3) := by decide +kernel
theorem dX8_wind_16 : decode cX8_wind 16 = .ok (.iload_n 3, 1) := by decide +kernel
theorem dX8_wind_17 : decode cX8_wind 17 = .ok (.iaload, 1) := by decide +kernel
theorem dX8_wind_18 : decode cX8_wind 18 = .ok (.istore 4, 2) := by decide +kernel
theorem dX8_wind_20 : decode cX8_wind 20 = .ok (.aload_n 1, 1) := by decide +kernel
theorem dX8_wind_21 : decode cX8_wind 21 = .ok (.iload 4, 2) := by decide +kernel
theorem dX8_wind_23 : decode cX8_wind 23 = .ok (.invokevirtual 62, 3) := by decide +kernel
theorem dX8_wind_26 : decode cX8_wind 26 = .ok (.ifCond .eq 69, 3) := by decide +kernel
theorem dX8_wind_29 : decode cX8_wind 29 = .ok (.aload_n 0, 1) := by decide +kernel
theorem dX8_wind_30 : decode cX8_wind 30 = .ok (.iload_n 3, 1) := by decide +kernel
theorem dX8_wind_31 : decode cX8_wind 31 = .ok (.invokevirtual 66, 3) := by decide +kernel
theorem dX8_wind_34 : decode cX8_wind 34 = .ok (.ifCond .ne 61, 3) := by decide +kernel
theorem dX8_wind_37 : decode cX8_wind 37 = .ok (.aload_n 0, 1) := by decide +kernel
theorem dX8_wind_38 : decode cX8_wind 38 = .ok (.getfield 9, 3) := by decide +kernel
theorem dX8_wind_41 : decode cX8_wind 41 = .ok (.iload 4, 2) := by decide +kernel
theorem dX8_wind_43 : decode cX8_wind 43 = .ok (.aload_n 0, 1) := by decide +kernel
theorem dX8_wind_44 : decode cX8_wind 44 = .ok (.getfield 9, 3) := by decide +kernel
theorem dX8_wind_47 : decode cX8_wind 47 = .ok (.iload 4, 2) := by decide +kernel
theorem dX8_wind_49 : decode cX8_wind 49 = .ok (.iaload, 1) := by decide +kernel
theorem dX8_wind_50 : decode cX8_wind 50 = .ok (.aload_n 1, 1) := by decide +kernel
theorem dX8_wind_51 : decode cX8_wind 51 = .ok (.getfield 69, 3) := by decide +kernel
theorem dX8_wind_54 : decode cX8_wind 54 = .ok (.iload_n 3, 1) := by decide +kernel
theorem dX8_wind_55 : decode cX8_wind 55 = .ok (.iaload, 1) := by decide +kernel
theorem dX8_wind_56 : decode cX8_wind 56 = .ok (.aload_n 0, 1) := by decide +kernel
theorem dX8_wind_57 : decode cX8_wind 57 = .ok (.getfield 18, 3) := by decide +kernel
theorem dX8_wind_60 : decode cX8_wind 60 = .ok (.iload_n 3, 1) := by decide +kernel
theorem dX8_wind_61 : decode cX8_wind 61 = .ok (.iaload, 1) := by decide +kernel
theorem dX8_wind_62 : decode cX8_wind 62 = .ok (.invokestatic 72, 3) := by decide +kernel
theorem dX8_wind_65 : decode cX8_wind 65 = .ok (.iastore, 1) := by decide +kernel
theorem dX8_wind_66 : decode cX8_wind 66 = .ok (.aload_n 0, 1) := by decide +kernel
theorem dX8_wind_67 : decode cX8_wind 67 = .ok (.getfield 18, 3) := by decide +kernel
theorem dX8_wind_70 : decode cX8_wind 70 = .ok (.iload_n 3, 1) := by decide +kernel
theorem dX8_wind_71 : decode cX8_wind 71 = .ok (.bipush 99, 2) := by decide +kernel
theorem dX8_wind_73 : decode cX8_wind 73 = .ok (.aload_n 0, 1) := by decide +kernel
theorem dX8_wind_74 : decode cX8_wind 74 = .ok (.getfield 18, 3) := by decide +kernel
theorem dX8_wind_77 : decode cX8_wind 77 = .ok (.iload_n 3, 1) := by decide +kernel
theorem dX8_wind_78 : decode cX8_wind 78 = .ok (.iaload, 1) := by decide +kernel
theorem dX8_wind_79 : decode cX8_wind 79 = .ok (.iconst 1, 1) := by decide +kernel
theorem dX8_wind_80 : decode cX8_wind 80 = .ok (.iadd, 1) := by decide +kernel
theorem dX8_wind_81 : decode cX8_wind 81 = .ok (.invokestatic 76, 3) := by decide +kernel
theorem dX8_wind_84 : decode cX8_wind 84 = .ok (.iastore, 1) := by decide +kernel
theorem dX8_wind_85 : decode cX8_wind 85 = .ok (.iload_n 2, 1) := by decide +kernel
theorem dX8_wind_86 : decode cX8_wind 86 = .ok (.iconst 1, 1) := by decide +kernel
theorem dX8_wind_87 : decode cX8_wind 87 = .ok (.iload 4, 2) := by decide +kernel
theorem dX8_wind_89 : decode cX8_wind 89 = .ok (.ishl, 1) := by decide +kernel
theorem dX8_wind_90 : decode cX8_wind 90 = .ok (.ior, 1) := by decide +kernel
theorem dX8_wind_91 : decode cX8_wind 91 = .ok (.istore_n 2, 1) := by decide +kernel
theorem dX8_wind_92 : decode cX8_wind 92 = .ok (.goto 21, 3) := by decide +kernel
theorem dX8_wind_95 : decode cX8_wind 95 = .ok (.aload_n 0, 1) := by decide +kernel
theorem dX8_wind_96 : decode cX8_wind 96 = .ok (.getfield 18, 3) := by decide +kernel
theorem dX8_wind_99 : decode cX8_wind 99 = .ok (.iload_n 3, 1) := by decide +kernel
theorem dX8_wind_100 : decode cX8_wind 100 = .ok (.iconst 0, 1) := by decide +kernel
theorem dX8_wind_101 : decode cX8_wind 101 = .ok (.aload_n 0, 1) := by decide +kernel
theorem dX8_wind_102 : decode cX8_wind 102 = .ok (.getfield 18, 3) := by decide +kernel
theorem dX8_wind_105 : decode cX8_wind 105 = .ok (.iload_n 3, 1) := by decide +kernel
theorem dX8_wind_106 : decode cX8_wind 106 = .ok (.iaload, 1) := by decide +kernel
theorem dX8_wind_107 : decode cX8_wind 107 = .ok (.iconst 2, 1) := by decide +kernel
theorem dX8_wind_108 : decode cX8_wind 108 = .ok (.isub, 1) := by decide +kernel
theorem dX8_wind_109 : decode cX8_wind 109 = .ok (.invokestatic 82, 3) := by decide +kernel
theorem dX8_wind_112 : decode cX8_wind 112 = .ok (.iastore, 1) := by decide +kernel
theorem dX8_wind_113 : decode cX8_wind 113 = .ok (.iinc 3 1, 3) := by decide +kernel
theorem dX8_wind_116 : decode cX8_wind 116 = .ok (.goto (-112), 3) := by decide +kernel
theorem dX8_wind_119 : decode cX8_wind 119 = .ok (.iconst 0, 1) := by decide +kernel
theorem dX8_wind_120 : decode cX8_wind 120 = .ok (.istore_n 3, 1) := by decide +kernel
theorem dX8_wind_121 : decode cX8_wind 121 = .ok (.iload_n 3, 1) := by decide +kernel
theorem dX8_wind_122 : decode cX8_wind 122 = .ok (.aload_n 1, 1) := by decide +kernel
theorem dX8_wind_123 : decode cX8_wind 123 = .ok (.getfield 85, 3) := by decide +kernel
theorem dX8_wind_126 : decode cX8_wind 126 = .ok (.if_icmp .ge 35, 3) := by decide +kernel
theorem dX8_wind_129 : decode cX8_wind 129 = .ok (.iload_n 2, 1) := by decide +kernel
theorem dX8_wind_130 : decode cX8_wind 130 = .ok (.iload_n 3, 1) := by decide +kernel
theorem dX8_wind_131 : decode cX8_wind 131 = .ok (.ishr, 1) := by decide +kernel
theorem dX8_wind_132 : decode cX8_wind 132 = .ok (.iconst 1, 1) := by decide +kernel
theorem dX8_wind_133 : decode cX8_wind 133 = .ok (.iand, 1) := by decide +kernel
theorem dX8_wind_134 : decode cX8_wind 134 = .ok (.ifCond .ne 21, 3) := by decide +kernel
theorem dX8_wind_137 : decode cX8_wind 137 = .ok (.aload_n 0, 1) := by decide +kernel
theorem dX8_wind_138 : decode cX8_wind 138 = .ok (.getfield 9, 3) := by decide +kernel
theorem dX8_wind_141 : decode cX8_wind 141 = .ok (.iload_n 3, 1) := by decide +kernel
theorem dX8_wind_142 : decode cX8_wind 142 = .ok (.iconst 0, 1) := by decide +kernel
theorem dX8_wind_143 : decode cX8_wind 143 = .ok (.aload_n 0, 1) := by decide +kernel
theorem dX8_wind_144 : decode cX8_wind 144 = .ok (.getfield 9, 3) := by decide +kernel
theorem dX8_wind_147 : decode cX8_wind 147 = .ok (.iload_n 3, 1) := by decide +kernel
theorem dX8_wind_148 : decode cX8_wind 148 = .ok (.iaload, 1) := by decide +kernel
theorem dX8_wind_149 : decode cX8_wind 149 = .ok (.iconst 3, 1) := by decide +kernel
theorem dX8_wind_150 : decode cX8_wind 150 = .ok (.isub, 1) := by decide +kernel
theorem dX8_wind_151 : decode cX8_wind 151 = .ok (.invokestatic 82, 3) := by decide +kernel
theorem dX8_wind_154 : decode cX8_wind 154 = .ok (.iastore, 1) := by decide +kernel
theorem dX8_wind_155 : decode cX8_wind 155 = .ok (.iinc 3 1, 3) := by decide +kernel
theorem dX8_wind_158 : decode cX8_wind 158 = .ok (.goto (-37), 3) := by decide +kernel
theorem dX8_wind_161 : decode cX8_wind 161 = .ok (.return_, 1) := by decide +kernel
theorem dX8_woundMore_0 : decode cX8_woundMore 0 = .ok (.bipush 99, 2) := by decide +kernel
theorem dX8_woundMore_2 : decode cX8_woundMore 2 = .ok (.iload_n 0, 1) := by decide +kernel
theorem dX8_woundMore_3 : decode cX8_woundMore 3 = .ok (.iconst 0, 1) := by decide +kernel
theorem dX8_woundMore_4 : decode cX8_woundMore 4 = .ok (.iload_n 1, 1) := by decide +kernel
theorem dX8_woundMore_5 : decode cX8_woundMore 5 = .ok (.iload_n 2, 1) := by decide +kernel
theorem dX8_woundMore_6 : decode cX8_woundMore 6 = .ok (.iconst 5, 1) := by decide +kernel
theorem dX8_woundMore_7 : decode cX8_woundMore 7 = .ok (.idiv, 1) := by decide +kernel
theorem dX8_woundMore_8 : decode cX8_woundMore 8 = .ok (.isub, 1) := by decide +kernel
theorem dX8_woundMore_9 : decode cX8_woundMore 9 = .ok (.invokestatic 82, 3) := by decide +kernel
theorem dX8_woundMore_12 : decode cX8_woundMore 12 = .ok (.iadd, 1) := by decide +kernel
theorem dX8_woundMore_13 : decode cX8_woundMore 13 = .ok (.invokestatic 76, 3) := by decide +kernel
theorem dX8_woundMore_16 : decode cX8_woundMore 16 = .ok (.ireturn, 1) := by decide +kernel
theorem dX8_sail_0 : decode cX8_sail 0 = .ok (.aload_n 0, 1) := by decide +kernel
theorem dX8_sail_1 : decode cX8_sail 1 = .ok (.getfield 21, 3) := by decide +kernel
theorem dX8_sail_4 : decode cX8_sail 4 = .ok (.iload_n 2, 1) := by decide +kernel
theorem dX8_sail_5 : decode cX8_sail 5 = .ok (.iaload, 1) := by decide +kernel
theorem dX8_sail_6 : decode cX8_sail 6 = .ok (.istore_n 3, 1) := by decide +kernel
theorem dX8_sail_7 : decode cX8_sail 7 = .ok (.iload_n 3, 1) := by decide +kernel
theorem dX8_sail_8 : decode cX8_sail 8 = .ok (.aload_n 1, 1) := by decide +kernel
theorem dX8_sail_9 : decode cX8_sail 9 = .ok (.getfield 88, 3) := by decide +kernel
theorem dX8_sail_12 : decode cX8_sail 12 = .ok (.iload_n 2, 1) := by decide +kernel
theorem dX8_sail_13 : decode cX8_sail 13 = .ok (.iaload, 1) := by decide +kernel
theorem dX8_sail_14 : decode cX8_sail 14 = .ok (.if_icmp .ne 4, 3) := by decide +kernel
theorem dX8_sail_17 : decode cX8_sail 17 = .ok (.return_, 1) := by decide +kernel
theorem dX8_sail_18 : decode cX8_sail 18 = .ok (.iload_n 3, 1) := by decide +kernel
theorem dX8_sail_19 : decode cX8_sail 19 = .ok (.aload_n 1, 1) := by decide +kernel
theorem dX8_sail_20 : decode cX8_sail 20 = .ok (.getfield 88, 3) := by decide +kernel
theorem dX8_sail_23 : decode cX8_sail 23 = .ok (.iload_n 2, 1) := by decide +kernel
theorem dX8_sail_24 : decode cX8_sail 24 = .ok (.iaload, 1) := by decide +kernel
theorem dX8_sail_25 : decode cX8_sail 25 = .ok (.if_icmp .ge 9, 3) := by decide +kernel
theorem dX8_sail_28 : decode cX8_sail 28 = .ok (.iload_n 3, 1) := by decide +kernel
theorem dX8_sail_29 : decode cX8_sail 29 = .ok (.iconst 1, 1) := by decide +kernel
theorem dX8_sail_30 : decode cX8_sail 30 = .ok (.iadd, 1) := by decide +kernel
theorem dX8_sail_31 : decode cX8_sail 31 = .ok (.goto 6, 3) := by decide +kernel
theorem dX8_sail_34 : decode cX8_sail 34 = .ok (.iload_n 3, 1) := by decide +kernel
theorem dX8_sail_35 : decode cX8_sail 35 = .ok (.iconst 1, 1) := by decide +kernel
theorem dX8_sail_36 : decode cX8_sail 36 = .ok (.isub, 1) := by decide +kernel
theorem dX8_sail_37 : decode cX8_sail 37 = .ok (.istore 4, 2) := by decide +kernel
theorem dX8_sail_39 : decode cX8_sail 39 = .ok (.aload_n 0, 1) := by decide +kernel
theorem dX8_sail_40 : decode cX8_sail 40 = .ok (.aload_n 1, 1) := by decide +kernel
theorem dX8_sail_41 : decode cX8_sail 41 = .ok (.iload_n 3, 1) := by decide +kernel
theorem dX8_sail_42 : decode cX8_sail 42 = .ok (.invokevirtual 91, 3) := by decide +kernel
theorem dX8_sail_45 : decode cX8_sail 45 = .ok (.aload_n 0, 1) := by decide +kernel
theorem dX8_sail_46 : decode cX8_sail 46 = .ok (.aload_n 1, 1) := by decide +kernel
theorem dX8_sail_47 : decode cX8_sail 47 = .ok (.iload 4, 2) := by decide +kernel
theorem dX8_sail_49 : decode cX8_sail 49 = .ok (.invokevirtual 91, 3) := by decide +kernel
theorem dX8_sail_52 : decode cX8_sail 52 = .ok (.invokestatic 76, 3) := by decide +kernel
theorem dX8_sail_55 : decode cX8_sail 55 = .ok (.aload_n 1, 1) := by decide +kernel
theorem dX8_sail_56 : decode cX8_sail 56 = .ok (.getfield 95, 3) := by decide +kernel
theorem dX8_sail_59 : decode cX8_sail 59 = .ok (.iload_n 2, 1) := by decide +kernel
theorem dX8_sail_60 : decode cX8_sail 60 = .ok (.iaload, 1) := by decide +kernel
theorem dX8_sail_61 : decode cX8_sail 61 = .ok (.if_icmp .lt 11, 3) := by decide +kernel
theorem dX8_sail_64 : decode cX8_sail 64 = .ok (.aload_n 0, 1) := by decide +kernel
theorem dX8_sail_65 : decode cX8_sail 65 = .ok (.getfield 21, 3) := by decide +kernel
theorem dX8_sail_68 : decode cX8_sail 68 = .ok (.iload_n 2, 1) := by decide +kernel
theorem dX8_sail_69 : decode cX8_sail 69 = .ok (.iload 4, 2) := by decide +kernel
theorem dX8_sail_71 : decode cX8_sail 71 = .ok (.iastore, 1) := by decide +kernel
theorem dX8_sail_72 : decode cX8_sail 72 = .ok (.return_, 1) := by decide +kernel
theorem dX8_aground_0 : decode cX8_aground 0 = .ok (.iconst 0, 1) := by decide +kernel
theorem dX8_aground_1 : decode cX8_aground 1 = .ok (.istore_n 2, 1) := by decide +kernel
theorem dX8_aground_2 : decode cX8_aground 2 = .ok (.iconst 0, 1) := by decide +kernel
theorem dX8_aground_3 : decode cX8_aground 3 = .ok (.istore_n 3, 1) := by decide +kernel
theorem dX8_aground_4 : decode cX8_aground 4 = .ok (.iload_n 3, 1) := by decide +kernel
theorem dX8_aground_5 : decode cX8_aground 5 = .ok (.aload_n 1, 1) := by decide +kernel
theorem dX8_aground_6 : decode cX8_aground 6 = .ok (.getfield 37, 3) := by decide +kernel
theorem dX8_aground_9 : decode cX8_aground 9 = .ok (.if_icmp .ge 35, 3) := by decide +kernel
theorem dX8_aground_12 : decode cX8_aground 12 = .ok (.aload_n 0, 1) := by decide +kernel
theorem dX8_aground_13 : decode cX8_aground 13 = .ok (.aload_n 1, 1) := by decide +kernel
theorem dX8_aground_14 : decode cX8_aground 14 = .ok (.aload_n 0, 1) := by decide +kernel
theorem dX8_aground_15 : decode cX8_aground 15 = .ok (.getfield 21, 3) := by decide +kernel
theorem dX8_aground_18 : decode cX8_aground 18 = .ok (.iload_n 3, 1) := by decide +kernel
theorem dX8_aground_19 : decode cX8_aground 19 = .ok (.iaload, 1) := by decide +kernel
theorem dX8_aground_20 : decode cX8_aground 20 = .ok (.invokevirtual 91, 3) := by decide +kernel
theorem dX8_aground_23 : decode cX8_aground 23 = .ok (.aload_n 1, 1) := by decide +kernel
theorem dX8_aground_24 : decode cX8_aground 24 = .ok (.getfield 95, 3) := by decide +kernel
theorem dX8_aground_27 : decode cX8_aground 27 = .ok (.iload_n 3, 1) := by decide +kernel
theorem dX8_aground_28 : decode cX8_aground 28 = .ok (.iaload, 1) := by decide +kernel
theorem dX8_aground_29 : decode cX8_aground 29 = .ok (.if_icmp .ge 9, 3) := by decide +kernel
theorem dX8_aground_32 : decode cX8_aground 32 = .ok (.iload_n 2, 1) := by decide +kernel
theorem dX8_aground_33 : decode cX8_aground 33 = .ok (.iconst 1, 1) := by decide +kernel
theorem dX8_aground_34 : decode cX8_aground 34 = .ok (.iload_n 3, 1) := by decide +kernel
theorem dX8_aground_35 : decode cX8_aground 35 = .ok (.ishl, 1) := by decide +kernel
theorem dX8_aground_36 : decode cX8_aground 36 = .ok (.ior, 1) := by decide +kernel
theorem dX8_aground_37 : decode cX8_aground 37 = .ok (.istore_n 2, 1) := by decide +kernel
theorem dX8_aground_38 : decode cX8_aground 38 = .ok (.iinc 3 1, 3) := by decide +kernel
theorem dX8_aground_41 : decode cX8_aground 41 = .ok (.goto (-37), 3) := by decide +kernel
theorem dX8_aground_44 : decode cX8_aground 44 = .ok (.iload_n 2, 1) := by decide +kernel
theorem dX8_aground_45 : decode cX8_aground 45 = .ok (.ireturn, 1) := by decide +kernel
theorem dX8_arrived_0 : decode cX8_arrived 0 = .ok (.iconst 0, 1) := by decide +kernel
theorem dX8_arrived_1 : decode cX8_arrived 1 = .ok (.istore_n 2, 1) := by decide +kernel
theorem dX8_arrived_2 : decode cX8_arrived 2 = .ok (.iconst 0, 1) := by decide +kernel
theorem dX8_arrived_3 : decode cX8_arrived 3 = .ok (.istore_n 3, 1) := by decide +kernel
theorem dX8_arrived_4 : decode cX8_arrived 4 = .ok (.iload_n 3, 1) := by decide +kernel
theorem dX8_arrived_5 : decode cX8_arrived 5 = .ok (.aload_n 1, 1) := by decide +kernel
theorem dX8_arrived_6 : decode cX8_arrived 6 = .ok (.getfield 37, 3) := by decide +kernel
theorem dX8_arrived_9 : decode cX8_arrived 9 = .ok (.if_icmp .ge 30, 3) := by decide +kernel
theorem dX8_arrived_12 : decode cX8_arrived 12 = .ok (.aload_n 0, 1) := by decide +kernel
theorem dX8_arrived_13 : decode cX8_arrived 13 = .ok (.getfield 21, 3) := by decide +kernel
theorem dX8_arrived_16 : decode cX8_arrived 16 = .ok (.iload_n 3, 1) := by decide +kernel
theorem dX8_arrived_17 : decode cX8_arrived 17 = .ok (.iaload, 1) := by decide +kernel
theorem dX8_arrived_18 : decode cX8_arrived 18 = .ok (.aload_n 1, 1) := by decide +kernel
theorem dX8_arrived_19 : decode cX8_arrived 19 = .ok (.getfield 88, 3) := by decide +kernel
theorem dX8_arrived_22 : decode cX8_arrived 22 = .ok (.iload_n 3, 1) := by decide +kernel
theorem dX8_arrived_23 : decode cX8_arrived 23 = .ok (.iaload, 1) := by decide +kernel
theorem dX8_arrived_24 : decode cX8_arrived 24 = .ok (.if_icmp .ne 9, 3) := by decide +kernel
theorem dX8_arrived_27 : decode cX8_arrived 27 = .ok (.iload_n 2, 1) := by decide +kernel
theorem dX8_arrived_28 : decode cX8_arrived 28 = .ok (.iconst 1, 1) := by decide +kernel
theorem dX8_arrived_29 : decode cX8_arrived 29 = .ok (.iload_n 3, 1) := by decide +kernel
theorem dX8_arrived_30 : decode cX8_arrived 30 = .ok (.ishl, 1) := by decide +kernel
theorem dX8_arrived_31 : decode cX8_arrived 31 = .ok (.ior, 1) := by decide +kernel
theorem dX8_arrived_32 : decode cX8_arrived 32 = .ok (.istore_n 2, 1) := by decide +kernel
theorem dX8_arrived_33 : decode cX8_arrived 33 = .ok (.iinc 3 1, 3) := by decide +kernel
theorem dX8_arrived_36 : decode cX8_arrived 36 = .ok (.goto (-32), 3) := by decide +kernel
theorem dX8_arrived_39 : decode cX8_arrived 39 = .ok (.iload_n 2, 1) := by decide +kernel
theorem dX8_arrived_40 : decode cX8_arrived 40 = .ok (.ireturn, 1) := by decide +kernel
theorem dX8_seaAt_0 : decode cX8_seaAt 0 = .ok (.iconst 0, 1) := by decide +kernel
theorem dX8_seaAt_1 : decode cX8_seaAt 1 = .ok (.istore_n 3, 1) := by decide +kernel
theorem dX8_seaAt_2 : decode cX8_seaAt 2 = .ok (.iconst 0, 1) := by decide +kernel
theorem dX8_seaAt_3 : decode cX8_seaAt 3 = .ok (.istore 4, 2) := by decide +kernel
theorem dX8_seaAt_5 : decode cX8_seaAt 5 = .ok (.iload 4, 2) := by decide +kernel
theorem dX8_seaAt_7 : decode cX8_seaAt 7 = .ok (.aload_n 1, 1) := by decide +kernel
theorem dX8_seaAt_8 : decode cX8_seaAt 8 = .ok (.getfield 85, 3) := by decide +kernel
theorem dX8_seaAt_11 : decode cX8_seaAt 11 = .ok (.if_icmp .ge 26, 3) := by decide +kernel
theorem dX8_seaAt_14 : decode cX8_seaAt 14 = .ok (.iload_n 3, 1) := by decide +kernel
theorem dX8_seaAt_15 : decode cX8_seaAt 15 = .ok (.aload_n 1, 1) := by decide +kernel
theorem dX8_seaAt_16 : decode cX8_seaAt 16 = .ok (.iload 4, 2) := by decide +kernel
theorem dX8_seaAt_18 : decode cX8_seaAt 18 = .ok (.aload_n 0, 1) := by decide +kernel
theorem dX8_seaAt_19 : decode cX8_seaAt 19 = .ok (.getfield 9, 3) := by decide +kernel
theorem dX8_seaAt_22 : decode cX8_seaAt 22 = .ok (.iload 4, 2) := by decide +kernel
theorem dX8_seaAt_24 : decode cX8_seaAt 24 = .ok (.iaload, 1) := by decide +kernel
theorem dX8_seaAt_25 : decode cX8_seaAt 25 = .ok (.iload_n 2, 1) := by decide +kernel
theorem dX8_seaAt_26 : decode cX8_seaAt 26 = .ok (.invokevirtual 98, 3) := by decide +kernel
theorem dX8_seaAt_29 : decode cX8_seaAt 29 = .ok (.iadd, 1) := by decide +kernel
theorem dX8_seaAt_30 : decode cX8_seaAt 30 = .ok (.istore_n 3, 1) := by decide +kernel
theorem dX8_seaAt_31 : decode cX8_seaAt 31 = .ok (.iinc 4 1, 3) := by decide +kernel
theorem dX8_seaAt_34 : decode cX8_seaAt 34 = .ok (.goto (-29), 3) := by decide +kernel
theorem dX8_seaAt_37 : decode cX8_seaAt 37 = .ok (.iload_n 3, 1) := by decide +kernel
theorem dX8_seaAt_38 : decode cX8_seaAt 38 = .ok (.ireturn, 1) := by decide +kernel
theorem dX8_depthAt_0 : decode cX8_depthAt 0 = .ok (.iconst 0, 1) := by decide +kernel
theorem dX8_depthAt_1 : decode cX8_depthAt 1 = .ok (.aload_n 0, 1) := by decide +kernel
theorem dX8_depthAt_2 : decode cX8_depthAt 2 = .ok (.aload_n 1, 1) := by decide +kernel
theorem dX8_depthAt_3 : decode cX8_depthAt 3 = .ok (.iload_n 2, 1) := by decide +kernel
theorem dX8_depthAt_4 : decode cX8_depthAt 4 = .ok (.invokevirtual 101, 3) := by decide +kernel
theorem dX8_depthAt_7 : decode cX8_depthAt 7 = .ok (.aload_n 1, 1) := by decide +kernel
theorem dX8_depthAt_8 : decode cX8_depthAt 8 = .ok (.getfield 104, 3) := by decide +kernel
theorem dX8_depthAt_11 : decode cX8_depthAt 11 = .ok (.iload_n 2, 1) := by decide +kernel
theorem dX8_depthAt_12 : decode cX8_depthAt 12 = .ok (.iaload, 1) := by decide +kernel
theorem dX8_depthAt_13 : decode cX8_depthAt 13 = .ok (.isub, 1) := by decide +kernel
theorem dX8_depthAt_14 : decode cX8_depthAt 14 = .ok (.invokestatic 82, 3) := by decide +kernel
theorem dX8_depthAt_17 : decode cX8_depthAt 17 = .ok (.ireturn, 1) := by decide +kernel
theorem dX8_wet_0 : decode cX8_wet 0 = .ok (.iconst 0, 1) := by decide +kernel
theorem dX8_wet_1 : decode cX8_wet 1 = .ok (.istore_n 2, 1) := by decide +kernel
theorem dX8_wet_2 : decode cX8_wet 2 = .ok (.iconst 0, 1) := by decide +kernel
theorem dX8_wet_3 : decode cX8_wet 3 = .ok (.istore_n 3, 1) := by decide +kernel
theorem dX8_wet_4 : decode cX8_wet 4 = .ok (.iload_n 3, 1) := by decide +kernel
theorem dX8_wet_5 : decode cX8_wet 5 = .ok (.aload_n 1, 1) := by decide +kernel
theorem dX8_wet_6 : decode cX8_wet 6 = .ok (.getfield 107, 3) := by decide +kernel
theorem dX8_wet_9 : decode cX8_wet 9 = .ok (.if_icmp .ge 24, 3) := by decide +kernel
theorem dX8_wet_12 : decode cX8_wet 12 = .ok (.aload_n 0, 1) := by decide +kernel
theorem dX8_wet_13 : decode cX8_wet 13 = .ok (.aload_n 1, 1) := by decide +kernel
theorem dX8_wet_14 : decode cX8_wet 14 = .ok (.iload_n 3, 1) := by decide +kernel
theorem dX8_wet_15 : decode cX8_wet 15 = .ok (.invokevirtual 91, 3) := by decide +kernel
theorem dX8_wet_18 : decode cX8_wet 18 = .ok (.ifCond .le 9, 3) := by decide +kernel
theorem dX8_wet_21 : decode cX8_wet 21 = .ok (.iload_n 2, 1) := by decide +kernel
theorem dX8_wet_22 : decode cX8_wet 22 = .ok (.iconst 1, 1) := by decide +kernel
theorem dX8_wet_23 : decode cX8_wet 23 = .ok (.iload_n 3, 1) := by decide +kernel
theorem dX8_wet_24 : decode cX8_wet 24 = .ok (.ishl, 1) := by decide +kernel
theorem dX8_wet_25 : decode cX8_wet 25 = .ok (.ior, 1) := by decide +kernel
theorem dX8_wet_26 : decode cX8_wet 26 = .ok (.istore_n 2, 1) := by decide +kernel
theorem dX8_wet_27 : decode cX8_wet 27 = .ok (.iinc 3 1, 3) := by decide +kernel
theorem dX8_wet_30 : decode cX8_wet 30 = .ok (.goto (-26), 3) := by decide +kernel
theorem dX8_wet_33 : decode cX8_wet 33 = .ok (.iload_n 2, 1) := by decide +kernel
theorem dX8_wet_34 : decode cX8_wet 34 = .ok (.ireturn, 1) := by decide +kernel
theorem dX8_dryGround_0 : decode cX8_dryGround 0 = .ok (.iconst 0, 1) := by decide +kernel
theorem dX8_dryGround_1 : decode cX8_dryGround 1 = .ok (.istore_n 2, 1) := by decide +kernel
theorem dX8_dryGround_2 : decode cX8_dryGround 2 = .ok (.iconst 0, 1) := by decide +kernel
theorem dX8_dryGround_3 : decode cX8_dryGround 3 = .ok (.istore_n 3, 1) := by decide +kernel
theorem dX8_dryGround_4 : decode cX8_dryGround 4 = .ok (.iload_n 3, 1) := by decide +kernel
theorem dX8_dryGround_5 : decode cX8_dryGround 5 = .ok (.aload_n 1, 1) := by decide +kernel
theorem dX8_dryGround_6 : decode cX8_dryGround 6 = .ok (.getfield 107, 3) := by decide +kernel
theorem dX8_dryGround_9 : decode cX8_dryGround 9 = .ok (.if_icmp .ge 27, 3) := by decide +kernel
theorem dX8_dryGround_12 : decode cX8_dryGround 12 = .ok (.aload_n 0, 1) := by decide +kernel
theorem dX8_dryGround_13 : decode cX8_dryGround 13 = .ok (.aload_n 1, 1) := by decide +kernel
theorem dX8_dryGround_14 : decode cX8_dryGround 14 = .ok (.iload_n 3, 1) := by decide +kernel
theorem dX8_dryGround_15 : decode cX8_dryGround 15 = .ok (.invokevirtual 91, 3) := by decide +kernel
theorem dX8_dryGround_18 : decode cX8_dryGround 18 = .ok (.ifCond .ne 12, 3) := by decide +kernel
theorem dX8_dryGround_21 : decode cX8_dryGround 21 = .ok (.iload_n 2, 1) := by decide +kernel
theorem dX8_dryGround_22 : decode cX8_dryGround 22 = .ok (.aload_n 1, 1) := by decide +kernel
theorem dX8_dryGround_23 : decode cX8_dryGround 23 = .ok (.getfield 104, 3) := by decide +kernel
theorem dX8_dryGround_26 : decode cX8_dryGround 26 = .ok (.iload_n 3, 1) := by decide +kernel
theorem dX8_dryGround_27 : decode cX8_dryGround 27 = .ok (.iaload, 1) := by decide +kernel
theorem dX8_dryGround_28 : decode cX8_dryGround 28 = .ok (.iadd, 1) := by decide +kernel
theorem dX8_dryGround_29 : decode cX8_dryGround 29 = .ok (.istore_n 2, 1) := by decide +kernel
theorem dX8_dryGround_30 : decode cX8_dryGround 30 = .ok (.iinc 3 1, 3) := by decide +kernel
theorem dX8_dryGround_33 : decode cX8_dryGround 33 = .ok (.goto (-29), 3) := by decide +kernel
theorem dX8_dryGround_36 : decode cX8_dryGround 36 = .ok (.iload_n 2, 1) := by decide +kernel
theorem dX8_dryGround_37 : decode cX8_dryGround 37 = .ok (.ireturn, 1) := by decide +kernel
theorem dX8_strongest_0 : decode cX8_strongest 0 = .ok (.iconst (-1), 1) := by decide +kernel
theorem dX8_strongest_1 : decode cX8_strongest 1 = .ok (.istore_n 3, 1) := by decide +kernel
theorem dX8_strongest_2 : decode cX8_strongest 2 = .ok (.iconst 0, 1) := by decide +kernel
theorem dX8_strongest_3 : decode cX8_strongest 3 = .ok (.istore 4, 2) := by decide +kernel
theorem dX8_strongest_5 : decode cX8_strongest 5 = .ok (.iconst 0, 1) := by decide +kernel
theorem dX8_strongest_6 : decode cX8_strongest 6 = .ok (.istore 5, 2) := by decide +kernel
theorem dX8_strongest_8 : decode cX8_strongest 8 = .ok (.iload 5, 2) := by decide +kernel
theorem dX8_strongest_10 : decode cX8_strongest 10 = .ok (.aload_n 1, 1) := by decide +kernel
theorem dX8_strongest_11 : decode cX8_strongest 11 = .ok (.getfield 85, 3) := by decide +kernel
theorem dX8_strongest_14 : decode cX8_strongest 14 = .ok (.if_icmp .ge 39, 3) := by decide +kernel
theorem dX8_strongest_17 : decode cX8_strongest 17 = .ok (.aload_n 1, 1) := by decide +kernel
theorem dX8_strongest_18 : decode cX8_strongest 18 = .ok (.iload 5, 2) := by decide +kernel
theorem dX8_strongest_20 : decode cX8_strongest 20 = .ok (.aload_n 0, 1) := by decide +kernel
theorem dX8_strongest_21 : decode cX8_strongest 21 = .ok (.getfield 9, 3) := by decide +kernel
theorem dX8_strongest_24 : decode cX8_strongest 24 = .ok (.iload 5, 2) := by decide +kernel
theorem dX8_strongest_26 : decode cX8_strongest 26 = .ok (.iaload, 1) := by decide +kernel
theorem dX8_strongest_27 : decode cX8_strongest 27 = .ok (.iload_n 2, 1) := by decide +kernel
theorem dX8_strongest_28 : decode cX8_strongest 28 = .ok (.invokevirtual 98, 3) := by decide +kernel
theorem dX8_strongest_31 : decode cX8_strongest 31 = .ok (.istore 6, 2) := by decide +kernel
theorem dX8_strongest_33 : decode cX8_strongest 33 = .ok (.iload 6, 2) := by decide +kernel
theorem dX8_strongest_35 : decode cX8_strongest 35 = .ok (.iload 4, 2) := by decide +kernel
theorem dX8_strongest_37 : decode cX8_strongest 37 = .ok (.if_icmp .le 10, 3) := by decide +kernel
theorem dX8_strongest_40 : decode cX8_strongest 40 = .ok (.iload 6, 2) := by decide +kernel
theorem dX8_strongest_42 : decode cX8_strongest 42 = .ok (.istore 4, 2) := by decide +kernel
theorem dX8_strongest_44 : decode cX8_strongest 44 = .ok (.iload 5, 2) := by decide +kernel
theorem dX8_strongest_46 : decode cX8_strongest 46 = .ok (.istore_n 3, 1) := by decide +kernel
theorem dX8_strongest_47 : decode cX8_strongest 47 = .ok (.iinc 5 1, 3) := by decide +kernel
theorem dX8_strongest_50 : decode cX8_strongest 50 = .ok (.goto (-42), 3) := by decide +kernel
theorem dX8_strongest_53 : decode cX8_strongest 53 = .ok (.iload_n 3, 1) := by decide +kernel
theorem dX8_strongest_54 : decode cX8_strongest 54 = .ok (.ireturn, 1) := by decide +kernel
theorem dX8_steepest_0 : decode cX8_steepest 0 = .ok (.iconst (-1), 1) := by decide +kernel
theorem dX8_steepest_1 : decode cX8_steepest 1 = .ok (.istore_n 2, 1) := by decide +kernel
theorem dX8_steepest_2 : decode cX8_steepest 2 = .ok (.iconst (-1), 1) := by decide +kernel
theorem dX8_steepest_3 : decode cX8_steepest 3 = .ok (.istore_n 3, 1) := by decide +kernel
theorem dX8_steepest_4 : decode cX8_steepest 4 = .ok (.iconst 0, 1) := by decide +kernel
theorem dX8_steepest_5 : decode cX8_steepest 5 = .ok (.istore 4, 2) := by decide +kernel
theorem dX8_steepest_7 : decode cX8_steepest 7 = .ok (.iload 4, 2) := by decide +kernel
theorem dX8_steepest_9 : decode cX8_steepest 9 = .ok (.iconst 1, 1) := by decide +kernel
theorem dX8_steepest_10 : decode cX8_steepest 10 = .ok (.iadd, 1) := by decide +kernel
theorem dX8_steepest_11 : decode cX8_steepest 11 = .ok (.aload_n 1, 1) := by decide +kernel
theorem dX8_steepest_12 : decode cX8_steepest 12 = .ok (.getfield 107, 3) := by decide +kernel
theorem dX8_steepest_15 : decode cX8_steepest 15 = .ok (.if_icmp .ge 30, 3) := by decide +kernel
theorem dX8_steepest_18 : decode cX8_steepest 18 = .ok (.aload_n 0, 1) := by decide +kernel
theorem dX8_steepest_19 : decode cX8_steepest 19 = .ok (.aload_n 1, 1) := by decide +kernel
theorem dX8_steepest_20 : decode cX8_steepest 20 = .ok (.iload 4, 2) := by decide +kernel
theorem dX8_steepest_22 : decode cX8_steepest 22 = .ok (.invokevirtual 110, 3) := by decide +kernel
theorem dX8_steepest_25 : decode cX8_steepest 25 = .ok (.istore 5, 2) := by decide +kernel
theorem dX8_steepest_27 : decode cX8_steepest 27 = .ok (.iload 5, 2) := by decide +kernel
theorem dX8_steepest_29 : decode cX8_steepest 29 = .ok (.iload_n 3, 1) := by decide +kernel
theorem dX8_steepest_30 : decode cX8_steepest 30 = .ok (.if_icmp .le 9, 3) := by decide +kernel
theorem dX8_steepest_33 : decode cX8_steepest 33 = .ok (.iload 5, 2) := by decide +kernel
theorem dX8_steepest_35 : decode cX8_steepest 35 = .ok (.istore_n 3, 1) := by decide +kernel
theorem dX8_steepest_36 : decode cX8_steepest 36 = .ok (.iload 4, 2) := by decide +kernel
theorem dX8_steepest_38 : decode cX8_steepest 38 = .ok (.istore_n 2, 1) := by decide +kernel
theorem dX8_steepest_39 : decode cX8_steepest 39 = .ok (.iinc 4 1, 3) := by decide +kernel
theorem dX8_steepest_42 : decode cX8_steepest 42 = .ok (.goto (-35), 3) := by decide +kernel
theorem dX8_steepest_45 : decode cX8_steepest 45 = .ok (.iload_n 2, 1) := by decide +kernel
theorem dX8_steepest_46 : decode cX8_steepest 46 = .ok (.ireturn, 1) := by decide +kernel
theorem dX8_slope_0 : decode cX8_slope 0 = .ok (.aload_n 0, 1) := by decide +kernel
theorem dX8_slope_1 : decode cX8_slope 1 = .ok (.aload_n 1, 1) := by decide +kernel
theorem dX8_slope_2 : decode cX8_slope 2 = .ok (.invokevirtual 113, 3) := by decide +kernel
theorem dX8_slope_5 : decode cX8_slope 5 = .ok (.istore_n 2, 1) := by decide +kernel
theorem dX8_slope_6 : decode cX8_slope 6 = .ok (.iload_n 2, 1) := by decide +kernel
theorem dX8_slope_7 : decode cX8_slope 7 = .ok (.iconst (-1), 1) := by decide +kernel
theorem dX8_slope_8 : decode cX8_slope 8 = .ok (.if_icmp .ne 7, 3) := by decide +kernel
theorem dX8_slope_11 : decode cX8_slope 11 = .ok (.iconst 0, 1) := by decide +kernel
theorem dX8_slope_12 : decode cX8_slope 12 = .ok (.goto 9, 3) := by decide +kernel
theorem dX8_slope_15 : decode cX8_slope 15 = .ok (.aload_n 0, 1) := by decide +kernel
theorem dX8_slope_16 : decode cX8_slope 16 = .ok (.aload_n 1, 1) := by decide +kernel
theorem dX8_slope_17 : decode cX8_slope 17 = .ok (.iload_n 2, 1) := by decide +kernel
theorem dX8_slope_18 : decode cX8_slope 18 = .ok (.invokevirtual 110, 3) := by decide +kernel
theorem dX8_slope_21 : decode cX8_slope 21 = .ok (.ireturn, 1) := by decide +kernel
theorem dX8_unlikeness_0 : decode cX8_unlikeness 0 = .ok (.aload_n 0, 1) := by decide +kernel
theorem dX8_unlikeness_1 : decode cX8_unlikeness 1 = .ok (.aload_n 1, 1) := by decide +kernel
theorem dX8_unlikeness_2 : decode cX8_unlikeness 2 = .ok (.iload_n 2, 1) := by decide +kernel
theorem dX8_unlikeness_3 : decode cX8_unlikeness 3 = .ok (.invokevirtual 101, 3) := by decide +kernel
theorem dX8_unlikeness_6 : decode cX8_unlikeness 6 = .ok (.aload_n 0, 1) := by decide +kernel
theorem dX8_unlikeness_7 : decode cX8_unlikeness 7 = .ok (.aload_n 1, 1) := by decide +kernel
theorem dX8_unlikeness_8 : decode cX8_unlikeness 8 = .ok (.iload_n 2, 1) := by decide +kernel
theorem dX8_unlikeness_9 : decode cX8_unlikeness 9 = .ok (.iconst 1, 1) := by decide +kernel
theorem dX8_unlikeness_10 : decode cX8_unlikeness 10 = .ok (.iadd, 1) := by decide +kernel
theorem dX8_unlikeness_11 : decode cX8_unlikeness 11 = .ok (.invokevirtual 101, 3) := by decide +kernel
theorem dX8_unlikeness_14 : decode cX8_unlikeness 14 = .ok (.isub, 1) := by decide +kernel
theorem dX8_unlikeness_15 : decode cX8_unlikeness 15 = .ok (.invokestatic 117, 3) := by decide +kernel
theorem dX8_unlikeness_18 : decode cX8_unlikeness 18 = .ok (.ireturn, 1) := by decide +kernel
theorem dJ7_fill_53178_0 : decode cJ7_fill_53178 0 = .ok (.iconst 0, 1) := by decide +kernel
theorem dJ7_fill_53178_1 : decode cJ7_fill_53178 1 = .ok (.istore_n 2, 1) := by decide +kernel
theorem dJ7_fill_53178_2 : decode cJ7_fill_53178 2 = .ok (.aload_n 0, 1) := by decide +kernel
theorem dJ7_fill_53178_3 : decode cJ7_fill_53178 3 = .ok (.arraylength, 1) := by decide +kernel
theorem dJ7_fill_53178_4 : decode cJ7_fill_53178 4 = .ok (.istore_n 3, 1) := by decide +kernel
theorem dJ7_fill_53178_5 : decode cJ7_fill_53178 5 = .ok (.iload_n 2, 1) := by decide +kernel
theorem dJ7_fill_53178_6 : decode cJ7_fill_53178 6 = .ok (.iload_n 3, 1) := by decide +kernel
theorem dJ7_fill_53178_7 : decode cJ7_fill_53178 7 = .ok (.if_icmp .ge 13, 3) := by decide +kernel
theorem dJ7_fill_53178_10 : decode cJ7_fill_53178 10 = .ok (.aload_n 0, 1) := by decide +kernel
theorem dJ7_fill_53178_11 : decode cJ7_fill_53178 11 = .ok (.iload_n 2, 1) := by decide +kernel
theorem dJ7_fill_53178_12 : decode cJ7_fill_53178 12 = .ok (.iload_n 1, 1) := by decide +kernel
theorem dJ7_fill_53178_13 : decode cJ7_fill_53178 13 = .ok (.iastore, 1) := by decide +kernel
theorem dJ7_fill_53178_14 : decode cJ7_fill_53178 14 = .ok (.iinc 2 1, 3) := by decide +kernel
theorem dJ7_fill_53178_17 : decode cJ7_fill_53178 17 = .ok (.goto (-12), 3) := by decide +kernel
theorem dJ7_fill_53178_20 : decode cJ7_fill_53178 20 = .ok (.return_, 1) := by decide +kernel
end
section
theorem dX9_init_0 : decode cX9_init 0 = .ok (.aload_n 0, 1) := by decide +kernel
theorem dX9_init_1 : decode cX9_init 1 = .ok (.invokespecial 1, 3) := by decide +kernel
theorem dX9_init_4 : decode cX9_init 4 = .ok (.aload_n 0, 1) := by decide +kernel
theorem dX9_init_5 : decode cX9_init 5 = .ok (.new 7, 3) := by decide +kernel
theorem dX9_init_8 : decode cX9_init 8 = .ok (.dup, 1) := by decide +kernel
theorem dX9_init_9 : decode cX9_init 9 = .ok (.invokespecial 9, 3) := by decide +kernel
theorem dX9_init_12 : decode cX9_init 12 = .ok (.putfield 10, 3) := by decide +kernel
theorem dX9_init_15 : decode cX9_init 15 = .ok (.aload_n 0, 1) := by decide +kernel
theorem dX9_init_16 : decode cX9_init 16 = .ok (.new 16, 3) := by decide +kernel
theorem dX9_init_19 : decode cX9_init 19 = .ok (.dup, 1) := by decide +kernel
theorem dX9_init_20 : decode cX9_init 20 = .ok (.invokespecial 18, 3) := by decide +kernel
theorem dX9_init_23 : decode cX9_init 23 = .ok (.putfield 19, 3) := by decide +kernel
theorem dX9_init_26 : decode cX9_init 26 = .ok (.aload_n 0, 1) := by decide +kernel
theorem dX9_init_27 : decode cX9_init 27 = .ok (.new 16, 3) := by decide +kernel
theorem dX9_init_30 : decode cX9_init 30 = .ok (.dup, 1) := by decide +kernel
theorem dX9_init_31 : decode cX9_init 31 = .ok (.invokespecial 18, 3) := by decide +kernel
theorem dX9_init_34 : decode cX9_init 34 = .ok (.putfield 23, 3) := by decide +kernel
theorem dX9_init_37 : decode cX9_init 37 = .ok (.aload_n 0, 1) := by decide +kernel
theorem dX9_init_38 : decode cX9_init 38 = .ok (.new 26, 3) := by decide +kernel
theorem dX9_init_41 : decode cX9_init 41 = .ok (.dup, 1) := by decide +kernel
theorem dX9_init_42 : decode cX9_init 42 = .ok (.invokespecial 28, 3) := by decide +kernel
theorem dX9_init_45 : decode cX9_init 45 = .ok (.putfield 29, 3) := by decide +kernel
theorem dX9_init_48 : decode cX9_init 48 = .ok (.aload_n 0, 1) := by decide +kernel
theorem dX9_init_49 : decode cX9_init 49 = .ok (.new 26, 3) := by decide +kernel
theorem dX9_init_52 : decode cX9_init 52 = .ok (.dup, 1) := by decide +kernel
theorem dX9_init_53 : decode cX9_init 53 = .ok (.invokespecial 28, 3) := by decide +kernel
theorem dX9_init_56 : decode cX9_init 56 = .ok (.putfield 33, 3) := by decide +kernel
theorem dX9_init_59 : decode cX9_init 59 = .ok (.aload_n 0, 1) := by decide +kernel
theorem dX9_init_60 : decode cX9_init 60 = .ok (.new 36, 3) := by decide +kernel
theorem dX9_init_63 : decode cX9_init 63 = .ok (.dup, 1) := by decide +kernel
theorem dX9_init_64 : decode cX9_init 64 = .ok (.invokespecial 38, 3) := by decide +kernel
theorem dX9_init_67 : decode cX9_init 67 = .ok (.putfield 39, 3) := by decide +kernel
theorem dX9_init_70 : decode cX9_init 70 = .ok (.aload_n 0, 1) := by decide +kernel
theorem dX9_init_71 : decode cX9_init 71 = .ok (.iconst 2, 1) := by decide +kernel
theorem dX9_init_72 : decode cX9_init 72 = .ok (.anewarray 43, 3) := by decide +kernel
theorem dX9_init_75 : decode cX9_init 75 = .ok (.putfield 45, 3) := by decide +kernel
theorem dX9_init_78 : decode cX9_init 78 = .ok (.aload_n 0, 1) := by decide +kernel
theorem dX9_init_79 : decode cX9_init 79 = .ok (.new 49, 3) := by decide +kernel
theorem dX9_init_82 : decode cX9_init 82 = .ok (.dup, 1) := by decide +kernel
theorem dX9_init_83 : decode cX9_init 83 = .ok (.invokespecial 51, 3) := by decide +kernel
theorem dX9_init_86 : decode cX9_init 86 = .ok (.putfield 52, 3) := by decide +kernel
theorem dX9_init_89 : decode cX9_init 89 = .ok (.aload_n 0, 1) := by decide +kernel
theorem dX9_init_90 : decode cX9_init 90 = .ok (.new 56, 3) := by decide +kernel
theorem dX9_init_93 : decode cX9_init 93 = .ok (.dup, 1) := by decide +kernel
theorem dX9_init_94 : decode cX9_init 94 = .ok (.invokespecial 58, 3) := by decide +kernel
theorem dX9_init_97 : decode cX9_init 97 = .ok (.putfield 59, 3) := by decide +kernel
theorem dX9_init_100 : decode cX9_init 100 = .ok (.aload_n 0, 1) := by decide +kernel
theorem dX9_init_101 : decode cX9_init 101 = .ok (.new 63, 3) := by decide +kernel
theorem dX9_init_104 : decode cX9_init 104 = .ok (.dup, 1) := by decide +kernel
theorem dX9_init_105 : decode cX9_init 105 = .ok (.invokespecial 65, 3) := by decide +kernel
theorem dX9_init_108 : decode cX9_init 108 = .ok (.putfield 66, 3) := by decide +kernel
theorem dX9_init_111 : decode cX9_init 111 = .ok (.aload_n 0, 1) := by decide +kernel
theorem dX9_init_112 : decode cX9_init 112 = .ok (.new 70, 3) := by decide +kernel
theorem dX9_init_115 : decode cX9_init 115 = .ok (.dup, 1) := by decide +kernel
theorem dX9_init_116 : decode cX9_init 116 = .ok (.invokespecial 72, 3) := by decide +kernel
theorem dX9_init_119 : decode cX9_init 119 = .ok (.putfield 73, 3) := by decide +kernel
theorem dX9_init_122 : decode cX9_init 122 = .ok (.aload_n 0, 1) := by decide +kernel
theorem dX9_init_123 : decode cX9_init 123 = .ok (.iconst (-1), 1) := by decide +kernel
theorem dX9_init_124 : decode cX9_init 124 = .ok (.putfield 77, 3) := by decide +kernel
theorem dX9_init_127 : decode cX9_init 127 = .ok (.iconst 0, 1) := by decide +kernel
theorem dX9_init_128 : decode cX9_init 128 = .ok (.istore_n 1, 1) := by decide +kernel
theorem dX9_init_129 : decode cX9_init 129 = .ok (.iload_n 1, 1) := by decide +kernel
theorem dX9_init_130 : decode cX9_init 130 = .ok (.iconst 2, 1) := by decide +kernel
theorem dX9_init_131 : decode cX9_init 131 = .ok (.if_icmp .ge 22, 3) := by decide +kernel
theorem dX9_init_134 : decode cX9_init 134 = .ok (.aload_n 0, 1) := by decide +kernel
theorem dX9_init_135 : decode cX9_init 135 = .ok (.getfield 45, 3) := by decide +kernel
theorem dX9_init_138 : decode cX9_init 138 = .ok (.iload_n 1, 1) := by decide +kernel
theorem dX9_init_139 : decode cX9_init 139 = .ok (.new 43, 3) := by decide +kernel
theorem dX9_init_142 : decode cX9_init 142 = .ok (.dup, 1) := by decide +kernel
theorem dX9_init_143 : decode cX9_init 143 = .ok (.invokespecial 81, 3) := by decide +kernel
theorem dX9_init_146 : decode cX9_init 146 = .ok (.aastore, 1) := by decide +kernel
theorem dX9_init_147 : decode cX9_init 147 = .ok (.iinc 1 1, 3) := by decide +kernel
theorem dX9_init_150 : decode cX9_init 150 = .ok (.goto (-21), 3) := by decide +kernel
theorem dX9_init_153 : decode cX9_init 153 = .ok (.return_, 1) := by decide +kernel
theorem dX9_feed_0 : decode cX9_feed 0 = .ok (.iload_n 1, 1) := by decide +kernel
theorem dX9_feed_1 : decode cX9_feed 1 = .ok (.iconst 0, 1) := by decide +kernel
theorem dX9_feed_2 : decode cX9_feed 2 = .ok (.sipush 255, 3) := by decide +kernel
theorem dX9_feed_5 : decode cX9_feed 5 = .ok (.invokestatic 82, 3) := by decide +kernel
theorem dX9_feed_8 : decode cX9_feed 8 = .ok (.ifCond .ne 6, 3) := by decide +kernel
theorem dX9_feed_11 : decode cX9_feed 11 = .ok (.ldc 86, 2) := by decide +kernel
theorem dX9_feed_13 : decode cX9_feed 13 = .ok (.ireturn, 1) := by decide +kernel
theorem dX9_feed_14 : decode cX9_feed 14 = .ok (.aload_n 0, 1) := by decide +kernel
theorem dX9_feed_15 : decode cX9_feed 15 = .ok (.getfield 10, 3) := by decide +kernel
theorem dX9_feed_18 : decode cX9_feed 18 = .ok (.iload_n 1, 1) := by decide +kernel
theorem dX9_feed_19 : decode cX9_feed 19 = .ok (.invokevirtual 87, 3) := by decide +kernel
theorem dX9_feed_22 : decode cX9_feed 22 = .ok (.ireturn, 1) := by decide +kernel
theorem dX9_coast_0 : decode cX9_coast 0 = .ok (.aload_n 0, 1) := by decide +kernel
theorem dX9_coast_1 : decode cX9_coast 1 = .ok (.getfield 10, 3) := by decide +kernel
theorem dX9_coast_4 : decode cX9_coast 4 = .ok (.aload_n 0, 1) := by decide +kernel
theorem dX9_coast_5 : decode cX9_coast 5 = .ok (.getfield 23, 3) := by decide +kernel
theorem dX9_coast_8 : decode cX9_coast 8 = .ok (.invokevirtual 91, 3) := by decide +kernel
theorem dX9_coast_11 : decode cX9_coast 11 = .ok (.istore_n 1, 1) := by decide +kernel
theorem dX9_coast_12 : decode cX9_coast 12 = .ok (.aload_n 0, 1) := by decide +kernel
theorem dX9_coast_13 : decode cX9_coast 13 = .ok (.aload_n 0, 1) := by decide +kernel
theorem dX9_coast_14 : decode cX9_coast 14 = .ok (.getfield 10, 3) := by decide +kernel
theorem dX9_coast_17 : decode cX9_coast 17 = .ok (.invokevirtual 95, 3) := by decide +kernel
theorem dX9_coast_20 : decode cX9_coast 20 = .ok (.putfield 77, 3) := by decide +kernel
theorem dX9_coast_23 : decode cX9_coast 23 = .ok (.iload_n 1, 1) := by decide +kernel
theorem dX9_coast_24 : decode cX9_coast 24 = .ok (.ifCond .eq 8, 3) := by decide +kernel
theorem dX9_coast_27 : decode cX9_coast 27 = .ok (.bipush (-10), 2) := by decide +kernel
theorem dX9_coast_29 : decode cX9_coast 29 = .ok (.iload_n 1, 1) := by decide +kernel
theorem dX9_coast_30 : decode cX9_coast 30 = .ok (.isub, 1) := by decide +kernel
theorem dX9_coast_31 : decode cX9_coast 31 = .ok (.ireturn, 1) := by decide +kernel
theorem dX9_coast_32 : decode cX9_coast 32 = .ok (.aload_n 0, 1) := by decide +kernel
theorem dX9_coast_33 : decode cX9_coast 33 = .ok (.getfield 19, 3) := by decide +kernel
theorem dX9_coast_36 : decode cX9_coast 36 = .ok (.astore_n 2, 1) := by decide +kernel
theorem dX9_coast_37 : decode cX9_coast 37 = .ok (.aload_n 0, 1) := by decide +kernel
theorem dX9_coast_38 : decode cX9_coast 38 = .ok (.aload_n 0, 1) := by decide +kernel
theorem dX9_coast_39 : decode cX9_coast 39 = .ok (.getfield 23, 3) := by decide +kernel
theorem dX9_coast_42 : decode cX9_coast 42 = .ok (.putfield 19, 3) := by decide +kernel
theorem dX9_coast_45 : decode cX9_coast 45 = .ok (.aload_n 0, 1) := by decide +kernel
theorem dX9_coast_46 : decode cX9_coast 46 = .ok (.aload_n 2, 1) := by decide +kernel
theorem dX9_coast_47 : decode cX9_coast 47 = .ok (.putfield 23, 3) := by decide +kernel
theorem dX9_coast_50 : decode cX9_coast 50 = .ok (.aload_n 0, 1) := by decide +kernel
theorem dX9_coast_51 : decode cX9_coast 51 = .ok (.getfield 29, 3) := by decide +kernel
theorem dX9_coast_54 : decode cX9_coast 54 = .ok (.aload_n 0, 1) := by decide +kernel
theorem dX9_coast_55 : decode cX9_coast 55 = .ok (.getfield 19, 3) := by decide +kernel
theorem dX9_coast_58 : decode cX9_coast 58 = .ok (.invokevirtual 99, 3) := by decide +kernel
theorem dX9_coast_61 : decode cX9_coast 61 = .ok (.aload_n 0, 1) := by decide +kernel
theorem dX9_coast_62 : decode cX9_coast 62 = .ok (.getfield 39, 3) := by decide +kernel
theorem dX9_coast_65 : decode cX9_coast 65 = .ok (.invokevirtual 103, 3) := by decide +kernel
theorem dX9_coast_68 : decode cX9_coast 68 = .ok (.aload_n 0, 1) := by decide +kernel
theorem dX9_coast_69 : decode cX9_coast 69 = .ok (.getfield 59, 3) := by decide +kernel
theorem dX9_coast_72 : decode cX9_coast 72 = .ok (.invokevirtual 106, 3) := by decide +kernel
theorem dX9_coast_75 : decode cX9_coast 75 = .ok (.iconst 0, 1) := by decide +kernel
theorem dX9_coast_76 : decode cX9_coast 76 = .ok (.istore_n 3, 1) := by decide +kernel
theorem dX9_coast_77 : decode cX9_coast 77 = .ok (.iload_n 3, 1) := by decide +kernel
theorem dX9_coast_78 : decode cX9_coast 78 = .ok (.iconst 2, 1) := by decide +kernel
theorem dX9_coast_79 : decode cX9_coast 79 = .ok (.if_icmp .ge 19, 3) := by decide +kernel
theorem dX9_coast_82 : decode cX9_coast 82 = .ok (.aload_n 0, 1) := by decide +kernel
theorem dX9_coast_83 : decode cX9_coast 83 = .ok (.getfield 45, 3) := by decide +kernel
theorem dX9_coast_86 : decode cX9_coast 86 = .ok (.iload_n 3, 1) := by decide +kernel
theorem dX9_coast_87 : decode cX9_coast 87 = .ok (.aaload, 1) := by decide +kernel
theorem dX9_coast_88 : decode cX9_coast 88 = .ok (.iconst 0, 1) := by decide +kernel
theorem dX9_coast_89 : decode cX9_coast 89 = .ok (.putfield 109, 3) := by decide +kernel
theorem dX9_coast_92 : decode cX9_coast 92 = .ok (.iinc 3 1, 3) := by decide +kernel
theorem dX9_coast_95 : decode cX9_coast 95 = .ok (.goto (-18), 3) := by decide +kernel
theorem dX9_coast_98 : decode cX9_coast 98 = .ok (.aload_n 0, 1) := by decide +kernel
theorem dX9_coast_99 : decode cX9_coast 99 = .ok (.getfield 19, 3) := by decide +kernel
theorem dX9_coast_102 : decode cX9_coast 102 = .ok (.getfield 113, 3) := by decide +kernel
theorem dX9_coast_105 : decode cX9_coast 105 = .ok (.ireturn, 1) := by decide +kernel
theorem dX9_fault_0 : decode cX9_fault 0 = .ok (.aload_n 0, 1) := by decide +kernel
theorem dX9_fault_1 : decode cX9_fault 1 = .ok (.getfield 77, 3) := by decide +kernel
theorem dX9_fault_4 : decode cX9_fault 4 = .ok (.ireturn, 1) := by decide +kernel
theorem dX9_told_0 : decode cX9_told 0 = .ok (.iload_n 1, 1) := by decide +kernel
theorem dX9_told_1 : decode cX9_told 1 = .ok (.tableswitch 283 0 18 #[91, 99, 107, 115, 123, 131, 139, 151, 163, 175, 187, 199, 211, 219, 227, 251, 259, 267, 275], 91) := by decide +kernel
theorem dX9_told_92 : decode cX9_told 92 = .ok (.aload_n 0, 1) := by decide +kernel
theorem dX9_told_93 : decode cX9_told 93 = .ok (.getfield 19, 3) := by decide +kernel
theorem dX9_told_96 : decode cX9_told 96 = .ok (.getfield 113, 3) := by decide +kernel
theorem dX9_told_99 : decode cX9_told 99 = .ok (.ireturn, 1) := by decide +kernel
theorem dX9_told_100 : decode cX9_told 100 = .ok (.aload_n 0, 1) := by decide +kernel
theorem dX9_told_101 : decode cX9_told 101 = .ok (.getfield 19, 3) := by decide +kernel
theorem dX9_told_104 : decode cX9_told 104 = .ok (.getfield 116, 3) := by decide +kernel
theorem dX9_told_107 : decode cX9_told 107 = .ok (.ireturn, 1) := by decide +kernel
theorem dX9_told_108 : decode cX9_told 108 = .ok (.aload_n 0, 1) := by decide +kernel
theorem dX9_told_109 : decode cX9_told 109 = .ok (.getfield 19, 3) := by decide +kernel
theorem dX9_told_112 : decode cX9_told 112 = .ok (.getfield 119, 3) := by decide +kernel
theorem dX9_told_115 : decode cX9_told 115 = .ok (.ireturn, 1) := by decide +kernel
theorem dX9_told_116 : decode cX9_told 116 = .ok (.aload_n 0, 1) := by decide +kernel
theorem dX9_told_117 : decode cX9_told 117 = .ok (.getfield 19, 3) := by decide +kernel
theorem dX9_told_120 : decode cX9_told 120 = .ok (.getfield 122, 3) := by decide +kernel
theorem dX9_told_123 : decode cX9_told 123 = .ok (.ireturn, 1) := by decide +kernel
theorem dX9_told_124 : decode cX9_told 124 = .ok (.aload_n 0, 1) := by decide +kernel
theorem dX9_told_125 : decode cX9_told 125 = .ok (.getfield 10, 3) := by decide +kernel
theorem dX9_told_128 : decode cX9_told 128 = .ok (.invokevirtual 125, 3) := by decide +kernel
theorem dX9_told_131 : decode cX9_told 131 = .ok (.ireturn, 1) := by decide +kernel
theorem dX9_told_132 : decode cX9_told 132 = .ok (.aload_n 0, 1) := by decide +kernel
theorem dX9_told_133 : decode cX9_told 133 = .ok (.getfield 29, 3) := by decide +kernel
theorem dX9_told_136 : decode cX9_told 136 = .ok (.getfield 128, 3) := by decide +kernel
theorem dX9_told_139 : decode cX9_told 139 = .ok (.ireturn, 1) := by decide +kernel
theorem dX9_told_140 : decode cX9_told 140 = .ok (.aload_n 0, 1) := by decide +kernel
theorem dX9_told_141 : decode cX9_told 141 = .ok (.getfield 29, 3) := by decide +kernel
theorem dX9_told_144 : decode cX9_told 144 = .ok (.aload_n 0, 1) := by decide +kernel
theorem dX9_told_145 : decode cX9_told 145 = .ok (.getfield 19, 3) := by decide +kernel
theorem dX9_told_148 : decode cX9_told 148 = .ok (.invokevirtual 131, 3) := by decide +kernel
theorem dX9_told_151 : decode cX9_told 151 = .ok (.ireturn, 1) := by decide +kernel
theorem dX9_told_152 : decode cX9_told 152 = .ok (.aload_n 0, 1) := by decide +kernel
theorem dX9_told_153 : decode cX9_told 153 = .ok (.getfield 29, 3) := by decide +kernel
theorem dX9_told_156 : decode cX9_told 156 = .ok (.aload_n 0, 1) := by decide +kernel
theorem dX9_told_157 : decode cX9_told 157 = .ok (.getfield 19, 3) := by decide +kernel
theorem dX9_told_160 : decode cX9_told 160 = .ok (.invokevirtual 134, 3) := by decide +kernel
theorem dX9_told_163 : decode cX9_told 163 = .ok (.ireturn, 1) := by decide +kernel
theorem dX9_told_164 : decode cX9_told 164 = .ok (.aload_n 0, 1) := by decide +kernel
theorem dX9_told_165 : decode cX9_told 165 = .ok (.getfield 29, 3) := by decide +kernel
theorem dX9_told_168 : decode cX9_told 168 = .ok (.aload_n 0, 1) := by decide +kernel
theorem dX9_told_169 : decode cX9_told 169 = .ok (.getfield 19, 3) := by decide +kernel
theorem dX9_told_172 : decode cX9_told 172 = .ok (.invokevirtual 137, 3) := by decide +kernel
theorem dX9_told_175 : decode cX9_told 175 = .ok (.ireturn, 1) := by decide +kernel
theorem dX9_told_176 : decode cX9_told 176 = .ok (.aload_n 0, 1) := by decide +kernel
theorem dX9_told_177 : decode cX9_told 177 = .ok (.getfield 29, 3) := by decide +kernel
theorem dX9_told_180 : decode cX9_told 180 = .ok (.aload_n 0, 1) := by decide +kernel
theorem dX9_told_181 : decode cX9_told 181 = .ok (.getfield 19, 3) := by decide +kernel
theorem dX9_told_184 : decode cX9_told 184 = .ok (.invokevirtual 140, 3) := by decide +kernel
theorem dX9_told_187 : decode cX9_told 187 = .ok (.ireturn, 1) := by decide +kernel
theorem dX9_told_188 : decode cX9_told 188 = .ok (.aload_n 0, 1) := by decide +kernel
theorem dX9_told_189 : decode cX9_told 189 = .ok (.getfield 29, 3) := by decide +kernel
theorem dX9_told_192 : decode cX9_told 192 = .ok (.aload_n 0, 1) := by decide +kernel
theorem dX9_told_193 : decode cX9_told 193 = .ok (.getfield 19, 3) := by decide +kernel
theorem dX9_told_196 : decode cX9_told 196 = .ok (.invokevirtual 143, 3) := by decide +kernel
theorem dX9_told_199 : decode cX9_told 199 = .ok (.ireturn, 1) := by decide +kernel
theorem dX9_told_200 : decode cX9_told 200 = .ok (.aload_n 0, 1) := by decide +kernel
theorem dX9_told_201 : decode cX9_told 201 = .ok (.getfield 29, 3) := by decide +kernel
theorem dX9_told_204 : decode cX9_told 204 = .ok (.aload_n 0, 1) := by decide +kernel
theorem dX9_told_205 : decode cX9_told 205 = .ok (.getfield 19, 3) := by decide +kernel
theorem dX9_told_208 : decode cX9_told 208 = .ok (.invokevirtual 146, 3) := by decide +kernel
theorem dX9_told_211 : decode cX9_told 211 = .ok (.ireturn, 1) := by decide +kernel
theorem dX9_told_212 : decode cX9_told 212 = .ok (.aload_n 0, 1) := by decide +kernel
theorem dX9_told_213 : decode cX9_told 213 = .ok (.getfield 29, 3) := by decide +kernel
theorem dX9_told_216 : decode cX9_told 216 = .ok (.getfield 149, 3) := by decide +kernel
theorem dX9_told_219 : decode cX9_told 219 = .ok (.ireturn, 1) := by decide +kernel
theorem dX9_told_220 : decode cX9_told 220 = .ok (.aload_n 0, 1) := by decide +kernel
theorem dX9_told_221 : decode cX9_told 221 = .ok (.getfield 59, 3) := by decide +kernel
theorem dX9_told_224 : decode cX9_told 224 = .ok (.getfield 152, 3) := by decide +kernel
theorem dX9_told_227 : decode cX9_told 227 = .ok (.ireturn, 1) := by decide +kernel
theorem dX9_told_228 : decode cX9_told 228 = .ok (.aload_n 0, 1) := by decide +kernel
theorem dX9_told_229 : decode cX9_told 229 = .ok (.getfield 73, 3) := by decide +kernel
theorem dX9_told_232 : decode cX9_told 232 = .ok (.aload_n 0, 1) := by decide +kernel
theorem dX9_told_233 : decode cX9_told 233 = .ok (.getfield 19, 3) := by decide +kernel
theorem dX9_told_236 : decode cX9_told 236 = .ok (.aload_n 0, 1) := by decide +kernel
theorem dX9_told_237 : decode cX9_told 237 = .ok (.getfield 29, 3) := by decide +kernel
theorem dX9_told_240 : decode cX9_told 240 = .ok (.aload_n 0, 1) := by decide +kernel
theorem dX9_told_241 : decode cX9_told 241 = .ok (.getfield 59, 3) := by decide +kernel
theorem dX9_told_244 : decode cX9_told 244 = .ok (.aload_n 0, 1) := by decide +kernel
theorem dX9_told_245 : decode cX9_told 245 = .ok (.getfield 33, 3) := by decide +kernel
theorem dX9_told_248 : decode cX9_told 248 = .ok (.invokevirtual 155, 3) := by decide +kernel
theorem dX9_told_251 : decode cX9_told 251 = .ok (.ireturn, 1) := by decide +kernel
theorem dX9_told_252 : decode cX9_told 252 = .ok (.aload_n 0, 1) := by decide +kernel
theorem dX9_told_253 : decode cX9_told 253 = .ok (.getfield 59, 3) := by decide +kernel
theorem dX9_told_256 : decode cX9_told 256 = .ok (.getfield 159, 3) := by decide +kernel
theorem dX9_told_259 : decode cX9_told 259 = .ok (.ireturn, 1) := by decide +kernel
theorem dX9_told_260 : decode cX9_told 260 = .ok (.aload_n 0, 1) := by decide +kernel
theorem dX9_told_261 : decode cX9_told 261 = .ok (.getfield 59, 3) := by decide +kernel
theorem dX9_told_264 : decode cX9_told 264 = .ok (.invokevirtual 162, 3) := by decide +kernel
theorem dX9_told_267 : decode cX9_told 267 = .ok (.ireturn, 1) := by decide +kernel
theorem dX9_told_268 : decode cX9_told 268 = .ok (.aload_n 0, 1) := by decide +kernel
theorem dX9_told_269 : decode cX9_told 269 = .ok (.getfield 59, 3) := by decide +kernel
theorem dX9_told_272 : decode cX9_told 272 = .ok (.getfield 165, 3) := by decide +kernel
theorem dX9_told_275 : decode cX9_told 275 = .ok (.ireturn, 1) := by decide +kernel
theorem dX9_told_276 : decode cX9_told 276 = .ok (.aload_n 0, 1) := by decide +kernel
theorem dX9_told_277 : decode cX9_told 277 = .ok (.getfield 39, 3) := by decide +kernel
theorem dX9_told_280 : decode cX9_told 280 = .ok (.getfield 168, 3) := by decide +kernel
theorem dX9_told_283 : decode cX9_told 283 = .ok (.ireturn, 1) := by decide +kernel
theorem dX9_told_284 : decode cX9_told 284 = .ok (.ldc 86, 2) := by decide +kernel
theorem dX9_told_286 : decode cX9_told 286 = .ok (.ireturn, 1) := by decide +kernel
theorem dX9_cell_0 : decode cX9_cell 0 = .ok (.aload_n 0, 1) := by decide +kernel
theorem dX9_cell_1 : decode cX9_cell 1 = .ok (.getfield 19, 3) := by decide +kernel
theorem dX9_cell_4 : decode cX9_cell 4 = .ok (.iload_n 1, 1) := by decide +kernel
theorem dX9_cell_5 : decode cX9_cell 5 = .ok (.invokevirtual 171, 3) := by decide +kernel
theorem dX9_cell_8 : decode cX9_cell 8 = .ok (.ifCond .ne 6, 3) := by decide +kernel
theorem dX9_cell_11 : decode cX9_cell 11 = .ok (.ldc 175, 2) := by decide +kernel
theorem dX9_cell_13 : decode cX9_cell 13 = .ok (.ireturn, 1) := by decide +kernel
theorem dX9_cell_14 : decode cX9_cell 14 = .ok (.iload_n 2, 1) := by decide +kernel
theorem dX9_cell_15 : decode cX9_cell 15 = .ok (.tableswitch 78 0 3 #[29, 39, 52, 65], 29) := by decide +kernel
theorem dX9_cell_44 : decode cX9_cell 44 = .ok (.aload_n 0, 1) := by decide +kernel
theorem dX9_cell_45 : decode cX9_cell 45 = .ok (.getfield 19, 3) := by decide +kernel
theorem dX9_cell_48 : decode cX9_cell 48 = .ok (.getfield 176, 3) := by decide +kernel
theorem dX9_cell_51 : decode cX9_cell 51 = .ok (.iload_n 1, 1) := by decide +kernel
theorem dX9_cell_52 : decode cX9_cell 52 = .ok (.iaload, 1) := by decide +kernel
theorem dX9_cell_53 : decode cX9_cell 53 = .ok (.ireturn, 1) := by decide +kernel
theorem dX9_cell_54 : decode cX9_cell 54 = .ok (.aload_n 0, 1) := by decide +kernel
theorem dX9_cell_55 : decode cX9_cell 55 = .ok (.getfield 29, 3) := by decide +kernel
theorem dX9_cell_58 : decode cX9_cell 58 = .ok (.aload_n 0, 1) := by decide +kernel
theorem dX9_cell_59 : decode cX9_cell 59 = .ok (.getfield 19, 3) := by decide +kernel
theorem dX9_cell_62 : decode cX9_cell 62 = .ok (.iload_n 1, 1) := by decide +kernel
theorem dX9_cell_63 : decode cX9_cell 63 = .ok (.invokevirtual 180, 3) := by decide +kernel
theorem dX9_cell_66 : decode cX9_cell 66 = .ok (.ireturn, 1) := by decide +kernel
theorem dX9_cell_67 : decode cX9_cell 67 = .ok (.aload_n 0, 1) := by decide +kernel
theorem dX9_cell_68 : decode cX9_cell 68 = .ok (.getfield 29, 3) := by decide +kernel
theorem dX9_cell_71 : decode cX9_cell 71 = .ok (.aload_n 0, 1) := by decide +kernel
theorem dX9_cell_72 : decode cX9_cell 72 = .ok (.getfield 19, 3) := by decide +kernel
theorem dX9_cell_75 : decode cX9_cell 75 = .ok (.iload_n 1, 1) := by decide +kernel
theorem dX9_cell_76 : decode cX9_cell 76 = .ok (.invokevirtual 184, 3) := by decide +kernel
theorem dX9_cell_79 : decode cX9_cell 79 = .ok (.ireturn, 1) := by decide +kernel
theorem dX9_cell_80 : decode cX9_cell 80 = .ok (.aload_n 0, 1) := by decide +kernel
theorem dX9_cell_81 : decode cX9_cell 81 = .ok (.getfield 29, 3) := by decide +kernel
theorem dX9_cell_84 : decode cX9_cell 84 = .ok (.aload_n 0, 1) := by decide +kernel
theorem dX9_cell_85 : decode cX9_cell 85 = .ok (.getfield 19, 3) := by decide +kernel
theorem dX9_cell_88 : decode cX9_cell 88 = .ok (.iload_n 1, 1) := by decide +kernel
theorem dX9_cell_89 : decode cX9_cell 89 = .ok (.invokevirtual 187, 3) := by decide +kernel
theorem dX9_cell_92 : decode cX9_cell 92 = .ok (.ireturn, 1) := by decide +kernel
theorem dX9_cell_93 : decode cX9_cell 93 = .ok (.ldc 86, 2) := by decide +kernel
theorem dX9_cell_95 : decode cX9_cell 95 = .ok (.ireturn, 1) := by decide +kernel
theorem dX9_tower_0 : decode cX9_tower 0 = .ok (.aload_n 0, 1) := by decide +kernel
theorem dX9_tower_1 : decode cX9_tower 1 = .ok (.getfield 19, 3) := by decide +kernel
theorem dX9_tower_4 : decode cX9_tower 4 = .ok (.iload_n 1, 1) := by decide +kernel
theorem dX9_tower_5 : decode cX9_tower 5 = .ok (.invokevirtual 190, 3) := by decide +kernel
theorem dX9_tower_8 : decode cX9_tower 8 = .ok (.ifCond .ne 6, 3) := by decide +kernel
theorem dX9_tower_11 : decode cX9_tower 11 = .ok (.ldc 175, 2) := by decide +kernel
theorem dX9_tower_13 : decode cX9_tower 13 = .ok (.ireturn, 1) := by decide +kernel
theorem dX9_tower_14 : decode cX9_tower 14 = .ok (.iload_n 2, 1) := by decide +kernel
theorem dX9_tower_15 : decode cX9_tower 15 = .ok (.tableswitch 72 0 3 #[29, 39, 49, 59], 29) := by decide +kernel
theorem dX9_tower_44 : decode cX9_tower 44 = .ok (.aload_n 0, 1) := by decide +kernel
theorem dX9_tower_45 : decode cX9_tower 45 = .ok (.getfield 19, 3) := by decide +kernel
theorem dX9_tower_48 : decode cX9_tower 48 = .ok (.getfield 193, 3) := by decide +kernel
theorem dX9_tower_51 : decode cX9_tower 51 = .ok (.iload_n 1, 1) := by decide +kernel
theorem dX9_tower_52 : decode cX9_tower 52 = .ok (.iaload, 1) := by decide +kernel
theorem dX9_tower_53 : decode cX9_tower 53 = .ok (.ireturn, 1) := by decide +kernel
theorem dX9_tower_54 : decode cX9_tower 54 = .ok (.aload_n 0, 1) := by decide +kernel
theorem dX9_tower_55 : decode cX9_tower 55 = .ok (.getfield 19, 3) := by decide +kernel
theorem dX9_tower_58 : decode cX9_tower 58 = .ok (.getfield 196, 3) := by decide +kernel
theorem dX9_tower_61 : decode cX9_tower 61 = .ok (.iload_n 1, 1) := by decide +kernel
theorem dX9_tower_62 : decode cX9_tower 62 = .ok (.iaload, 1) := by decide +kernel
theorem dX9_tower_63 : decode cX9_tower 63 = .ok (.ireturn, 1) := by decide +kernel
theorem dX9_tower_64 : decode cX9_tower 64 = .ok (.aload_n 0, 1) := by decide +kernel
theorem dX9_tower_65 : decode cX9_tower 65 = .ok (.getfield 29, 3) := by decide +kernel
theorem dX9_tower_68 : decode cX9_tower 68 = .ok (.getfield 199, 3) := by decide +kernel
theorem dX9_tower_71 : decode cX9_tower 71 = .ok (.iload_n 1, 1) := by decide +kernel
theorem dX9_tower_72 : decode cX9_tower 72 = .ok (.iaload, 1) := by decide +kernel
theorem dX9_tower_73 : decode cX9_tower 73 = .ok (.ireturn, 1) := by decide +kernel
theorem dX9_tower_74 : decode cX9_tower 74 = .ok (.aload_n 0, 1) := by decide +kernel
theorem dX9_tower_75 : decode cX9_tower 75 = .ok (.getfield 29, 3) := by decide +kernel
theorem dX9_tower_78 : decode cX9_tower 78 = .ok (.aload_n 0, 1) := by decide +kernel
theorem dX9_tower_79 : decode cX9_tower 79 = .ok (.getfield 19, 3) := by decide +kernel
theorem dX9_tower_82 : decode cX9_tower 82 = .ok (.iload_n 1, 1) := by decide +kernel
theorem dX9_tower_83 : decode cX9_tower 83 = .ok (.invokevirtual 202, 3) := by decide +kernel
theorem dX9_tower_86 : decode cX9_tower 86 = .ok (.ireturn, 1) := by decide +kernel
theorem dX9_tower_87 : decode cX9_tower 87 = .ok (.ldc 86, 2) := by decide +kernel
theorem dX9_tower_89 : decode cX9_tower 89 = .ok (.ireturn, 1) := by decide +kernel
theorem dX9_player_0 : decode cX9_player 0 = .ok (.aload_n 0, 1) := by decide +kernel
theorem dX9_player_1 : decode cX9_player 1 = .ok (.getfield 19, 3) := by decide +kernel
theorem dX9_player_4 : decode cX9_player 4 = .ok (.iload_n 1, 1) := by decide +kernel
theorem dX9_player_5 : decode cX9_player 5 = .ok (.invokevirtual 205, 3) := by decide +kernel
theorem dX9_player_8 : decode cX9_player 8 = .ok (.ifCond .ne 6, 3) := by decide +kernel
theorem dX9_player_11 : decode cX9_player 11 = .ok (.ldc 175, 2) := by decide +kernel
theorem dX9_player_13 : decode cX9_player 13 = .ok (.ireturn, 1) := by decide +kernel
theorem dX9_player_14 : decode cX9_player 14 = .ok (.iload_n 2, 1) := by decide +kernel
theorem dX9_player_15 : decode cX9_player 15 = .ok (.tableswitch 76 0 3 #[29, 39, 49, 59], 29) := by decide +kernel
theorem dX9_player_44 : decode cX9_player 44 = .ok (.aload_n 0, 1) := by decide +kernel
theorem dX9_player_45 : decode cX9_player 45 = .ok (.getfield 19, 3) := by decide +kernel
theorem dX9_player_48 : decode cX9_player 48 = .ok (.getfield 208, 3) := by decide +kernel
theorem dX9_player_51 : decode cX9_player 51 = .ok (.iload_n 1, 1) := by decide +kernel
theorem dX9_player_52 : decode cX9_player 52 = .ok (.iaload, 1) := by decide +kernel
theorem dX9_player_53 : decode cX9_player 53 = .ok (.ireturn, 1) := by decide +kernel
theorem dX9_player_54 : decode cX9_player 54 = .ok (.aload_n 0, 1) := by decide +kernel
theorem dX9_player_55 : decode cX9_player 55 = .ok (.getfield 29, 3) := by decide +kernel
theorem dX9_player_58 : decode cX9_player 58 = .ok (.getfield 211, 3) := by decide +kernel
theorem dX9_player_61 : decode cX9_player 61 = .ok (.iload_n 1, 1) := by decide +kernel
theorem dX9_player_62 : decode cX9_player 62 = .ok (.iaload, 1) := by decide +kernel
theorem dX9_player_63 : decode cX9_player 63 = .ok (.ireturn, 1) := by decide +kernel
theorem dX9_player_64 : decode cX9_player 64 = .ok (.aload_n 0, 1) := by decide +kernel
theorem dX9_player_65 : decode cX9_player 65 = .ok (.getfield 29, 3) := by decide +kernel
theorem dX9_player_68 : decode cX9_player 68 = .ok (.getfield 214, 3) := by decide +kernel
theorem dX9_player_71 : decode cX9_player 71 = .ok (.iload_n 1, 1) := by decide +kernel
theorem dX9_player_72 : decode cX9_player 72 = .ok (.iaload, 1) := by decide +kernel
theorem dX9_player_73 : decode cX9_player 73 = .ok (.ireturn, 1) := by decide +kernel
theorem dX9_player_74 : decode cX9_player 74 = .ok (.aload_n 0, 1) := by decide +kernel
theorem dX9_player_75 : decode cX9_player 75 = .ok (.getfield 29, 3) := by decide +kernel
theorem dX9_player_78 : decode cX9_player 78 = .ok (.iload_n 1, 1) := by decide +kernel
theorem dX9_player_79 : decode cX9_player 79 = .ok (.invokevirtual 217, 3) := by decide +kernel
theorem dX9_player_82 : decode cX9_player 82 = .ok (.ifCond .eq 7, 3) := by decide +kernel
theorem dX9_player_85 : decode cX9_player 85 = .ok (.iconst 1, 1) := by decide +kernel
theorem dX9_player_86 : decode cX9_player 86 = .ok (.goto 4, 3) := by decide +kernel
theorem dX9_player_89 : decode cX9_player 89 = .ok (.iconst 0, 1) := by decide +kernel
theorem dX9_player_90 : decode cX9_player 90 = .ok (.ireturn, 1) := by decide +kernel
theorem dX9_player_91 : decode cX9_player 91 = .ok (.ldc 86, 2) := by decide +kernel
theorem dX9_player_93 : decode cX9_player 93 = .ok (.ireturn, 1) := by decide +kernel
theorem dX9_boat_0 : decode cX9_boat 0 = .ok (.aload_n 0, 1) := by decide +kernel
theorem dX9_boat_1 : decode cX9_boat 1 = .ok (.getfield 19, 3) := by decide +kernel
theorem dX9_boat_4 : decode cX9_boat 4 = .ok (.iload_n 1, 1) := by decide +kernel
theorem dX9_boat_5 : decode cX9_boat 5 = .ok (.invokevirtual 220, 3) := by decide +kernel
theorem dX9_boat_8 : decode cX9_boat 8 = .ok (.ifCond .ne 6, 3) := by decide +kernel
theorem dX9_boat_11 : decode cX9_boat 11 = .ok (.ldc 175, 2) := by decide +kernel
theorem dX9_boat_13 : decode cX9_boat 13 = .ok (.ireturn, 1) := by decide +kernel
theorem dX9_boat_14 : decode cX9_boat 14 = .ok (.iload_n 2, 1) := by decide +kernel
theorem dX9_boat_15 : decode cX9_boat 15 = .ok (.tableswitch 69 0 3 #[29, 39, 49, 59], 29) := by decide +kernel
theorem dX9_boat_44 : decode cX9_boat 44 = .ok (.aload_n 0, 1) := by decide +kernel
theorem dX9_boat_45 : decode cX9_boat 45 = .ok (.getfield 19, 3) := by decide +kernel
theorem dX9_boat_48 : decode cX9_boat 48 = .ok (.getfield 223, 3) := by decide +kernel
theorem dX9_boat_51 : decode cX9_boat 51 = .ok (.iload_n 1, 1) := by decide +kernel
theorem dX9_boat_52 : decode cX9_boat 52 = .ok (.iaload, 1) := by decide +kernel
theorem dX9_boat_53 : decode cX9_boat 53 = .ok (.ireturn, 1) := by decide +kernel
theorem dX9_boat_54 : decode cX9_boat 54 = .ok (.aload_n 0, 1) := by decide +kernel
theorem dX9_boat_55 : decode cX9_boat 55 = .ok (.getfield 29, 3) := by decide +kernel
theorem dX9_boat_58 : decode cX9_boat 58 = .ok (.getfield 226, 3) := by decide +kernel
theorem dX9_boat_61 : decode cX9_boat 61 = .ok (.iload_n 1, 1) := by decide +kernel
theorem dX9_boat_62 : decode cX9_boat 62 = .ok (.iaload, 1) := by decide +kernel
theorem dX9_boat_63 : decode cX9_boat 63 = .ok (.ireturn, 1) := by decide +kernel
theorem dX9_boat_64 : decode cX9_boat 64 = .ok (.aload_n 0, 1) := by decide +kernel
theorem dX9_boat_65 : decode cX9_boat 65 = .ok (.getfield 19, 3) := by decide +kernel
theorem dX9_boat_68 : decode cX9_boat 68 = .ok (.getfield 229, 3) := by decide +kernel
theorem dX9_boat_71 : decode cX9_boat 71 = .ok (.iload_n 1, 1) := by decide +kernel
theorem dX9_boat_72 : decode cX9_boat 72 = .ok (.iaload, 1) := by decide +kernel
theorem dX9_boat_73 : decode cX9_boat 73 = .ok (.ireturn, 1) := by decide +kernel
theorem dX9_boat_74 : decode cX9_boat 74 = .ok (.aload_n 0, 1) := by decide +kernel
theorem dX9_boat_75 : decode cX9_boat 75 = .ok (.getfield 19, 3) := by decide +kernel
theorem dX9_boat_78 : decode cX9_boat 78 = .ok (.getfield 232, 3) := by decide +kernel
theorem dX9_boat_81 : decode cX9_boat 81 = .ok (.iload_n 1, 1) := by decide +kernel
theorem dX9_boat_82 : decode cX9_boat 82 = .ok (.iaload, 1) := by decide +kernel
theorem dX9_boat_83 : decode cX9_boat 83 = .ok (.ireturn, 1) := by decide +kernel
theorem dX9_boat_84 : decode cX9_boat 84 = .ok (.ldc 86, 2) := by decide +kernel
theorem dX9_boat_86 : decode cX9_boat 86 = .ok (.ireturn, 1) := by decide +kernel
theorem dX9_hour_0 : decode cX9_hour 0 = .ok (.aload_n 0, 1) := by decide +kernel
theorem dX9_hour_1 : decode cX9_hour 1 = .ok (.iload_n 1, 1) := by decide +kernel
theorem dX9_hour_2 : decode cX9_hour 2 = .ok (.invokevirtual 235, 3) := by decide +kernel
theorem dX9_hour_5 : decode cX9_hour 5 = .ok (.istore_n 2, 1) := by decide +kernel
theorem dX9_hour_6 : decode cX9_hour 6 = .ok (.iload_n 2, 1) := by decide +kernel
theorem dX9_hour_7 : decode cX9_hour 7 = .ok (.ifCond .eq 5, 3) := by decide +kernel
theorem dX9_hour_10 : decode cX9_hour 10 = .ok (.iload_n 2, 1) := by decide +kernel
theorem dX9_hour_11 : decode cX9_hour 11 = .ok (.ireturn, 1) := by decide +kernel
theorem dX9_hour_12 : decode cX9_hour 12 = .ok (.aload_n 0, 1) := by decide +kernel
theorem dX9_hour_13 : decode cX9_hour 13 = .ok (.getfield 39, 3) := by decide +kernel
theorem dX9_hour_16 : decode cX9_hour 16 = .ok (.aload_n 0, 1) := by decide +kernel
theorem dX9_hour_17 : decode cX9_hour 17 = .ok (.getfield 29, 3) := by decide +kernel
theorem dX9_hour_20 : decode cX9_hour 20 = .ok (.invokevirtual 238, 3) := by decide +kernel
theorem dX9_hour_23 : decode cX9_hour 23 = .ok (.iconst 0, 1) := by decide +kernel
theorem dX9_hour_24 : decode cX9_hour 24 = .ok (.istore_n 3, 1) := by decide +kernel
theorem dX9_hour_25 : decode cX9_hour 25 = .ok (.iload_n 3, 1) := by decide +kernel
theorem dX9_hour_26 : decode cX9_hour 26 = .ok (.iload_n 1, 1) := by decide +kernel
theorem dX9_hour_27 : decode cX9_hour 27 = .ok (.if_icmp .ge 20, 3) := by decide +kernel
theorem dX9_hour_30 : decode cX9_hour 30 = .ok (.aload_n 0, 1) := by decide +kernel
theorem dX9_hour_31 : decode cX9_hour 31 = .ok (.getfield 29, 3) := by decide +kernel
theorem dX9_hour_34 : decode cX9_hour 34 = .ok (.aload_n 0, 1) := by decide +kernel
theorem dX9_hour_35 : decode cX9_hour 35 = .ok (.getfield 19, 3) := by decide +kernel
theorem dX9_hour_38 : decode cX9_hour 38 = .ok (.invokevirtual 242, 3) := by decide +kernel
theorem dX9_hour_41 : decode cX9_hour 41 = .ok (.iinc 3 1, 3) := by decide +kernel
theorem dX9_hour_44 : decode cX9_hour 44 = .ok (.goto (-19), 3) := by decide +kernel
theorem dX9_hour_47 : decode cX9_hour 47 = .ok (.aload_n 0, 1) := by decide +kernel
theorem dX9_hour_48 : decode cX9_hour 48 = .ok (.getfield 29, 3) := by decide +kernel
theorem dX9_hour_51 : decode cX9_hour 51 = .ok (.getfield 128, 3) := by decide +kernel
theorem dX9_hour_54 : decode cX9_hour 54 = .ok (.ireturn, 1) := by decide +kernel
theorem dX9_sit_0 : decode cX9_sit 0 = .ok (.aload_n 0, 1) := by decide +kernel
theorem dX9_sit_1 : decode cX9_sit 1 = .ok (.getfield 19, 3) := by decide +kernel
theorem dX9_sit_4 : decode cX9_sit 4 = .ok (.iload_n 1, 1) := by decide +kernel
theorem dX9_sit_5 : decode cX9_sit 5 = .ok (.invokevirtual 205, 3) := by decide +kernel
theorem dX9_sit_8 : decode cX9_sit 8 = .ok (.ifCond .eq 14, 3) := by decide +kernel
theorem dX9_sit_11 : decode cX9_sit 11 = .ok (.aload_n 0, 1) := by decide +kernel
theorem dX9_sit_12 : decode cX9_sit 12 = .ok (.getfield 19, 3) := by decide +kernel
theorem dX9_sit_15 : decode cX9_sit 15 = .ok (.iload_n 2, 1) := by decide +kernel
theorem dX9_sit_16 : decode cX9_sit 16 = .ok (.invokevirtual 190, 3) := by decide +kernel
theorem dX9_sit_19 : decode cX9_sit 19 = .ok (.ifCond .ne 6, 3) := by decide +kernel
theorem dX9_sit_22 : decode cX9_sit 22 = .ok (.ldc 175, 2) := by decide +kernel
theorem dX9_sit_24 : decode cX9_sit 24 = .ok (.ireturn, 1) := by decide +kernel
theorem dX9_sit_25 : decode cX9_sit 25 = .ok (.aload_n 0, 1) := by decide +kernel
theorem dX9_sit_26 : decode cX9_sit 26 = .ok (.getfield 29, 3) := by decide +kernel
theorem dX9_sit_29 : decode cX9_sit 29 = .ok (.aload_n 0, 1) := by decide +kernel
theorem dX9_sit_30 : decode cX9_sit 30 = .ok (.getfield 19, 3) := by decide +kernel
theorem dX9_sit_33 : decode cX9_sit 33 = .ok (.iload_n 2, 1) := by decide +kernel
theorem dX9_sit_34 : decode cX9_sit 34 = .ok (.invokevirtual 202, 3) := by decide +kernel
theorem dX9_sit_37 : decode cX9_sit 37 = .ok (.iconst (-1), 1) := by decide +kernel
theorem dX9_sit_38 : decode cX9_sit 38 = .ok (.if_icmp .eq 6, 3) := by decide +kernel
theorem dX9_sit_41 : decode cX9_sit 41 = .ok (.ldc 245, 2) := by decide +kernel
theorem dX9_sit_43 : decode cX9_sit 43 = .ok (.ireturn, 1) := by decide +kernel
theorem dX9_sit_44 : decode cX9_sit 44 = .ok (.aload_n 0, 1) := by decide +kernel
theorem dX9_sit_45 : decode cX9_sit 45 = .ok (.getfield 39, 3) := by decide +kernel
theorem dX9_sit_48 : decode cX9_sit 48 = .ok (.aload_n 0, 1) := by decide +kernel
theorem dX9_sit_49 : decode cX9_sit 49 = .ok (.getfield 29, 3) := by decide +kernel
theorem dX9_sit_52 : decode cX9_sit 52 = .ok (.invokevirtual 238, 3) := by decide +kernel
theorem dX9_sit_55 : decode cX9_sit 55 = .ok (.aload_n 0, 1) := by decide +kernel
theorem dX9_sit_56 : decode cX9_sit 56 = .ok (.getfield 29, 3) := by decide +kernel
theorem dX9_sit_59 : decode cX9_sit 59 = .ok (.getfield 214, 3) := by decide +kernel
theorem dX9_sit_62 : decode cX9_sit 62 = .ok (.iload_n 1, 1) := by decide +kernel
theorem dX9_sit_63 : decode cX9_sit 63 = .ok (.iaload, 1) := by decide +kernel
theorem dX9_sit_64 : decode cX9_sit 64 = .ok (.istore_n 3, 1) := by decide +kernel
theorem dX9_sit_65 : decode cX9_sit 65 = .ok (.aload_n 0, 1) := by decide +kernel
theorem dX9_sit_66 : decode cX9_sit 66 = .ok (.getfield 29, 3) := by decide +kernel
theorem dX9_sit_69 : decode cX9_sit 69 = .ok (.getfield 214, 3) := by decide +kernel
theorem dX9_sit_72 : decode cX9_sit 72 = .ok (.iload_n 1, 1) := by decide +kernel
theorem dX9_sit_73 : decode cX9_sit 73 = .ok (.iload_n 2, 1) := by decide +kernel
theorem dX9_sit_74 : decode cX9_sit 74 = .ok (.iastore, 1) := by decide +kernel
theorem dX9_sit_75 : decode cX9_sit 75 = .ok (.iload_n 3, 1) := by decide +kernel
theorem dX9_sit_76 : decode cX9_sit 76 = .ok (.ireturn, 1) := by decide +kernel
theorem dX9_rest_0 : decode cX9_rest 0 = .ok (.aload_n 0, 1) := by decide +kernel
theorem dX9_rest_1 : decode cX9_rest 1 = .ok (.getfield 19, 3) := by decide +kernel
theorem dX9_rest_4 : decode cX9_rest 4 = .ok (.iload_n 1, 1) := by decide +kernel
theorem dX9_rest_5 : decode cX9_rest 5 = .ok (.invokevirtual 205, 3) := by decide +kernel
theorem dX9_rest_8 : decode cX9_rest 8 = .ok (.ifCond .ne 6, 3) := by decide +kernel
theorem dX9_rest_11 : decode cX9_rest 11 = .ok (.ldc 175, 2) := by decide +kernel
theorem dX9_rest_13 : decode cX9_rest 13 = .ok (.ireturn, 1) := by decide +kernel
theorem dX9_rest_14 : decode cX9_rest 14 = .ok (.aload_n 0, 1) := by decide +kernel
theorem dX9_rest_15 : decode cX9_rest 15 = .ok (.getfield 29, 3) := by decide +kernel
theorem dX9_rest_18 : decode cX9_rest 18 = .ok (.getfield 214, 3) := by decide +kernel
theorem dX9_rest_21 : decode cX9_rest 21 = .ok (.iload_n 1, 1) := by decide +kernel
theorem dX9_rest_22 : decode cX9_rest 22 = .ok (.iaload, 1) := by decide +kernel
theorem dX9_rest_23 : decode cX9_rest 23 = .ok (.istore_n 2, 1) := by decide +kernel
theorem dX9_rest_24 : decode cX9_rest 24 = .ok (.iload_n 2, 1) := by decide +kernel
theorem dX9_rest_25 : decode cX9_rest 25 = .ok (.iconst (-1), 1) := by decide +kernel
theorem dX9_rest_26 : decode cX9_rest 26 = .ok (.if_icmp .ne 6, 3) := by decide +kernel
theorem dX9_rest_29 : decode cX9_rest 29 = .ok (.ldc 245, 2) := by decide +kernel
theorem dX9_rest_31 : decode cX9_rest 31 = .ok (.ireturn, 1) := by decide +kernel
theorem dX9_rest_32 : decode cX9_rest 32 = .ok (.aload_n 0, 1) := by decide +kernel
theorem dX9_rest_33 : decode cX9_rest 33 = .ok (.getfield 39, 3) := by decide +kernel
theorem dX9_rest_36 : decode cX9_rest 36 = .ok (.aload_n 0, 1) := by decide +kernel
theorem dX9_rest_37 : decode cX9_rest 37 = .ok (.getfield 29, 3) := by decide +kernel
theorem dX9_rest_40 : decode cX9_rest 40 = .ok (.invokevirtual 238, 3) := by decide +kernel
theorem dX9_rest_43 : decode cX9_rest 43 = .ok (.aload_n 0, 1) := by decide +kernel
theorem dX9_rest_44 : decode cX9_rest 44 = .ok (.getfield 29, 3) := by decide +kernel
theorem dX9_rest_47 : decode cX9_rest 47 = .ok (.getfield 214, 3) := by decide +kernel
theorem dX9_rest_50 : decode cX9_rest 50 = .ok (.iload_n 1, 1) := by decide +kernel
theorem dX9_rest_51 : decode cX9_rest 51 = .ok (.iconst (-1), 1) := by decide +kernel
theorem dX9_rest_52 : decode cX9_rest 52 = .ok (.iastore, 1) := by decide +kernel
theorem dX9_rest_53 : decode cX9_rest 53 = .ok (.iload_n 2, 1) := by decide +kernel
theorem dX9_rest_54 : decode cX9_rest 54 = .ok (.ireturn, 1) := by decide +kernel
theorem dX9_sleep_0 : decode cX9_sleep 0 = .ok (.aload_n 0, 1) := by decide +kernel
theorem dX9_sleep_1 : decode cX9_sleep 1 = .ok (.getfield 19, 3) := by decide +kernel
theorem dX9_sleep_4 : decode cX9_sleep 4 = .ok (.iload_n 1, 1) := by decide +kernel
theorem dX9_sleep_5 : decode cX9_sleep 5 = .ok (.invokevirtual 205, 3) := by decide +kernel
theorem dX9_sleep_8 : decode cX9_sleep 8 = .ok (.ifCond .ne 6, 3) := by decide +kernel
theorem dX9_sleep_11 : decode cX9_sleep 11 = .ok (.ldc 175, 2) := by decide +kernel
theorem dX9_sleep_13 : decode cX9_sleep 13 = .ok (.ireturn, 1) := by decide +kernel
theorem dX9_sleep_14 : decode cX9_sleep 14 = .ok (.aload_n 0, 1) := by decide +kernel
theorem dX9_sleep_15 : decode cX9_sleep 15 = .ok (.getfield 39, 3) := by decide +kernel
theorem dX9_sleep_18 : decode cX9_sleep 18 = .ok (.aload_n 0, 1) := by decide +kernel
theorem dX9_sleep_19 : decode cX9_sleep 19 = .ok (.getfield 29, 3) := by decide +kernel
theorem dX9_sleep_22 : decode cX9_sleep 22 = .ok (.invokevirtual 238, 3) := by decide +kernel
theorem dX9_sleep_25 : decode cX9_sleep 25 = .ok (.aload_n 0, 1) := by decide +kernel
theorem dX9_sleep_26 : decode cX9_sleep 26 = .ok (.getfield 29, 3) := by decide +kernel
theorem dX9_sleep_29 : decode cX9_sleep 29 = .ok (.iload_n 1, 1) := by decide +kernel
theorem dX9_sleep_30 : decode cX9_sleep 30 = .ok (.invokevirtual 217, 3) := by decide +kernel
theorem dX9_sleep_33 : decode cX9_sleep 33 = .ok (.ifCond .eq 7, 3) := by decide +kernel
theorem dX9_sleep_36 : decode cX9_sleep 36 = .ok (.iconst 1, 1) := by decide +kernel
theorem dX9_sleep_37 : decode cX9_sleep 37 = .ok (.goto 4, 3) := by decide +kernel
theorem dX9_sleep_40 : decode cX9_sleep 40 = .ok (.iconst 0, 1) := by decide +kernel
theorem dX9_sleep_41 : decode cX9_sleep 41 = .ok (.istore_n 3, 1) := by decide +kernel
theorem dX9_sleep_42 : decode cX9_sleep 42 = .ok (.aload_n 0, 1) := by decide +kernel
theorem dX9_sleep_43 : decode cX9_sleep 43 = .ok (.getfield 29, 3) := by decide +kernel
theorem dX9_sleep_46 : decode cX9_sleep 46 = .ok (.iload_n 1, 1) := by decide +kernel
theorem dX9_sleep_47 : decode cX9_sleep 47 = .ok (.iload_n 2, 1) := by decide +kernel
theorem dX9_sleep_48 : decode cX9_sleep 48 = .ok (.invokevirtual 246, 3) := by decide +kernel
theorem dX9_sleep_51 : decode cX9_sleep 51 = .ok (.iload_n 3, 1) := by decide +kernel
theorem dX9_sleep_52 : decode cX9_sleep 52 = .ok (.ireturn, 1) := by decide +kernel
theorem dX9_turn_0 : decode cX9_turn 0 = .ok (.aload_n 0, 1) := by decide +kernel
theorem dX9_turn_1 : decode cX9_turn 1 = .ok (.getfield 19, 3) := by decide +kernel
theorem dX9_turn_4 : decode cX9_turn 4 = .ok (.iload_n 1, 1) := by decide +kernel
theorem dX9_turn_5 : decode cX9_turn 5 = .ok (.invokevirtual 190, 3) := by decide +kernel
theorem dX9_turn_8 : decode cX9_turn 8 = .ok (.ifCond .ne 6, 3) := by decide +kernel
theorem dX9_turn_11 : decode cX9_turn 11 = .ok (.ldc 175, 2) := by decide +kernel
theorem dX9_turn_13 : decode cX9_turn 13 = .ok (.ireturn, 1) := by decide +kernel
theorem dX9_turn_14 : decode cX9_turn 14 = .ok (.iload_n 2, 1) := by decide +kernel
theorem dX9_turn_15 : decode cX9_turn 15 = .ok (.iconst 0, 1) := by decide +kernel
theorem dX9_turn_16 : decode cX9_turn 16 = .ok (.bipush 99, 2) := by decide +kernel
theorem dX9_turn_18 : decode cX9_turn 18 = .ok (.invokestatic 82, 3) := by decide +kernel
theorem dX9_turn_21 : decode cX9_turn 21 = .ok (.ifCond .ne 6, 3) := by decide +kernel
theorem dX9_turn_24 : decode cX9_turn 24 = .ok (.ldc 86, 2) := by decide +kernel
theorem dX9_turn_26 : decode cX9_turn 26 = .ok (.ireturn, 1) := by decide +kernel
theorem dX9_turn_27 : decode cX9_turn 27 = .ok (.aload_n 0, 1) := by decide +kernel
theorem dX9_turn_28 : decode cX9_turn 28 = .ok (.getfield 39, 3) := by decide +kernel
theorem dX9_turn_31 : decode cX9_turn 31 = .ok (.aload_n 0, 1) := by decide +kernel
theorem dX9_turn_32 : decode cX9_turn 32 = .ok (.getfield 29, 3) := by decide +kernel
theorem dX9_turn_35 : decode cX9_turn 35 = .ok (.invokevirtual 238, 3) := by decide +kernel
theorem dX9_turn_38 : decode cX9_turn 38 = .ok (.aload_n 0, 1) := by decide +kernel
theorem dX9_turn_39 : decode cX9_turn 39 = .ok (.getfield 29, 3) := by decide +kernel
theorem dX9_turn_42 : decode cX9_turn 42 = .ok (.getfield 199, 3) := by decide +kernel
theorem dX9_turn_45 : decode cX9_turn 45 = .ok (.iload_n 1, 1) := by decide +kernel
theorem dX9_turn_46 : decode cX9_turn 46 = .ok (.iaload, 1) := by decide +kernel
theorem dX9_turn_47 : decode cX9_turn 47 = .ok (.istore_n 3, 1) := by decide +kernel
theorem dX9_turn_48 : decode cX9_turn 48 = .ok (.aload_n 0, 1) := by decide +kernel
theorem dX9_turn_49 : decode cX9_turn 49 = .ok (.getfield 29, 3) := by decide +kernel
theorem dX9_turn_52 : decode cX9_turn 52 = .ok (.getfield 199, 3) := by decide +kernel
theorem dX9_turn_55 : decode cX9_turn 55 = .ok (.iload_n 1, 1) := by decide +kernel
theorem dX9_turn_56 : decode cX9_turn 56 = .ok (.iload_n 2, 1) := by decide +kernel
theorem dX9_turn_57 : decode cX9_turn 57 = .ok (.iastore, 1) := by decide +kernel
theorem dX9_turn_58 : decode cX9_turn 58 = .ok (.iload_n 3, 1) := by decide +kernel
theorem dX9_turn_59 : decode cX9_turn 59 = .ok (.ireturn, 1) := by decide +kernel
theorem dX9_send_0 : decode cX9_send 0 = .ok (.aload_n 0, 1) := by decide +kernel
theorem dX9_send_1 : decode cX9_send 1 = .ok (.getfield 19, 3) := by decide +kernel
theorem dX9_send_4 : decode cX9_send 4 = .ok (.iload_n 1, 1) := by decide +kernel
theorem dX9_send_5 : decode cX9_send 5 = .ok (.invokevirtual 220, 3) := by decide +kernel
theorem dX9_send_8 : decode cX9_send 8 = .ok (.ifCond .ne 6, 3) := by decide +kernel
theorem dX9_send_11 : decode cX9_send 11 = .ok (.ldc 175, 2) := by decide +kernel
theorem dX9_send_13 : decode cX9_send 13 = .ok (.ireturn, 1) := by decide +kernel
theorem dX9_send_14 : decode cX9_send 14 = .ok (.aload_n 0, 1) := by decide +kernel
theorem dX9_send_15 : decode cX9_send 15 = .ok (.getfield 39, 3) := by decide +kernel
theorem dX9_send_18 : decode cX9_send 18 = .ok (.aload_n 0, 1) := by decide +kernel
theorem dX9_send_19 : decode cX9_send 19 = .ok (.getfield 29, 3) := by decide +kernel
theorem dX9_send_22 : decode cX9_send 22 = .ok (.invokevirtual 238, 3) := by decide +kernel
theorem dX9_send_25 : decode cX9_send 25 = .ok (.aload_n 0, 1) := by decide +kernel
theorem dX9_send_26 : decode cX9_send 26 = .ok (.getfield 29, 3) := by decide +kernel
theorem dX9_send_29 : decode cX9_send 29 = .ok (.getfield 226, 3) := by decide +kernel
theorem dX9_send_32 : decode cX9_send 32 = .ok (.iload_n 1, 1) := by decide +kernel
theorem dX9_send_33 : decode cX9_send 33 = .ok (.iaload, 1) := by decide +kernel
theorem dX9_send_34 : decode cX9_send 34 = .ok (.istore_n 2, 1) := by decide +kernel
theorem dX9_send_35 : decode cX9_send 35 = .ok (.aload_n 0, 1) := by decide +kernel
theorem dX9_send_36 : decode cX9_send 36 = .ok (.getfield 29, 3) := by decide +kernel
theorem dX9_send_39 : decode cX9_send 39 = .ok (.getfield 226, 3) := by decide +kernel
theorem dX9_send_42 : decode cX9_send 42 = .ok (.iload_n 1, 1) := by decide +kernel
theorem dX9_send_43 : decode cX9_send 43 = .ok (.aload_n 0, 1) := by decide +kernel
theorem dX9_send_44 : decode cX9_send 44 = .ok (.getfield 19, 3) := by decide +kernel
theorem dX9_send_47 : decode cX9_send 47 = .ok (.getfield 229, 3) := by decide +kernel
theorem dX9_send_50 : decode cX9_send 50 = .ok (.iload_n 1, 1) := by decide +kernel
theorem dX9_send_51 : decode cX9_send 51 = .ok (.iaload, 1) := by decide +kernel
theorem dX9_send_52 : decode cX9_send 52 = .ok (.iastore, 1) := by decide +kernel
theorem dX9_send_53 : decode cX9_send 53 = .ok (.iload_n 2, 1) := by decide +kernel
theorem dX9_send_54 : decode cX9_send 54 = .ok (.ireturn, 1) := by decide +kernel
theorem dX9_drift_0 : decode cX9_drift 0 = .ok (.aload_n 0, 1) := by decide +kernel
theorem dX9_drift_1 : decode cX9_drift 1 = .ok (.iload_n 1, 1) := by decide +kernel
theorem dX9_drift_2 : decode cX9_drift 2 = .ok (.invokevirtual 235, 3) := by decide +kernel
theorem dX9_drift_5 : decode cX9_drift 5 = .ok (.istore_n 2, 1) := by decide +kernel
theorem dX9_drift_6 : decode cX9_drift 6 = .ok (.iload_n 2, 1) := by decide +kernel
theorem dX9_drift_7 : decode cX9_drift 7 = .ok (.ifCond .eq 5, 3) := by decide +kernel
theorem dX9_drift_10 : decode cX9_drift 10 = .ok (.iload_n 2, 1) := by decide +kernel
theorem dX9_drift_11 : decode cX9_drift 11 = .ok (.ireturn, 1) := by decide +kernel
theorem dX9_drift_12 : decode cX9_drift 12 = .ok (.aload_n 0, 1) := by decide +kernel
theorem dX9_drift_13 : decode cX9_drift 13 = .ok (.getfield 39, 3) := by decide +kernel
theorem dX9_drift_16 : decode cX9_drift 16 = .ok (.aload_n 0, 1) := by decide +kernel
theorem dX9_drift_17 : decode cX9_drift 17 = .ok (.getfield 29, 3) := by decide +kernel
theorem dX9_drift_20 : decode cX9_drift 20 = .ok (.invokevirtual 238, 3) := by decide +kernel
theorem dX9_drift_23 : decode cX9_drift 23 = .ok (.iconst 0, 1) := by decide +kernel
theorem dX9_drift_24 : decode cX9_drift 24 = .ok (.istore_n 3, 1) := by decide +kernel
theorem dX9_drift_25 : decode cX9_drift 25 = .ok (.iload_n 3, 1) := by decide +kernel
theorem dX9_drift_26 : decode cX9_drift 26 = .ok (.iload_n 1, 1) := by decide +kernel
theorem dX9_drift_27 : decode cX9_drift 27 = .ok (.if_icmp .ge 35, 3) := by decide +kernel
theorem dX9_drift_30 : decode cX9_drift 30 = .ok (.aload_n 0, 1) := by decide +kernel
theorem dX9_drift_31 : decode cX9_drift 31 = .ok (.getfield 52, 3) := by decide +kernel
theorem dX9_drift_34 : decode cX9_drift 34 = .ok (.aload_n 0, 1) := by decide +kernel
theorem dX9_drift_35 : decode cX9_drift 35 = .ok (.getfield 19, 3) := by decide +kernel
theorem dX9_drift_38 : decode cX9_drift 38 = .ok (.aload_n 0, 1) := by decide +kernel
theorem dX9_drift_39 : decode cX9_drift 39 = .ok (.getfield 29, 3) := by decide +kernel
theorem dX9_drift_42 : decode cX9_drift 42 = .ok (.invokevirtual 250, 3) := by decide +kernel
theorem dX9_drift_45 : decode cX9_drift 45 = .ok (.aload_n 0, 1) := by decide +kernel
theorem dX9_drift_46 : decode cX9_drift 46 = .ok (.getfield 29, 3) := by decide +kernel
theorem dX9_drift_49 : decode cX9_drift 49 = .ok (.aload_n 0, 1) := by decide +kernel
theorem dX9_drift_50 : decode cX9_drift 50 = .ok (.getfield 19, 3) := by decide +kernel
theorem dX9_drift_53 : decode cX9_drift 53 = .ok (.invokevirtual 242, 3) := by decide +kernel
theorem dX9_drift_56 : decode cX9_drift 56 = .ok (.iinc 3 1, 3) := by decide +kernel
theorem dX9_drift_59 : decode cX9_drift 59 = .ok (.goto (-34), 3) := by decide +kernel
theorem dX9_drift_62 : decode cX9_drift 62 = .ok (.aload_n 0, 1) := by decide +kernel
theorem dX9_drift_63 : decode cX9_drift 63 = .ok (.getfield 29, 3) := by decide +kernel
theorem dX9_drift_66 : decode cX9_drift 66 = .ok (.getfield 128, 3) := by decide +kernel
theorem dX9_drift_69 : decode cX9_drift 69 = .ok (.ireturn, 1) := by decide +kernel
theorem dX9_undo_0 : decode cX9_undo 0 = .ok (.aload_n 0, 1) := by decide +kernel
theorem dX9_undo_1 : decode cX9_undo 1 = .ok (.getfield 39, 3) := by decide +kernel
theorem dX9_undo_4 : decode cX9_undo 4 = .ok (.getfield 168, 3) := by decide +kernel
theorem dX9_undo_7 : decode cX9_undo 7 = .ok (.ifCond .ne 6, 3) := by decide +kernel
theorem dX9_undo_10 : decode cX9_undo 10 = .ok (.ldc 245, 2) := by decide +kernel
theorem dX9_undo_12 : decode cX9_undo 12 = .ok (.ireturn, 1) := by decide +kernel
theorem dX9_undo_13 : decode cX9_undo 13 = .ok (.aload_n 0, 1) := by decide +kernel
theorem dX9_undo_14 : decode cX9_undo 14 = .ok (.getfield 39, 3) := by decide +kernel
theorem dX9_undo_17 : decode cX9_undo 17 = .ok (.aload_n 0, 1) := by decide +kernel
theorem dX9_undo_18 : decode cX9_undo 18 = .ok (.getfield 29, 3) := by decide +kernel
theorem dX9_undo_21 : decode cX9_undo 21 = .ok (.invokevirtual 254, 3) := by decide +kernel
theorem dX9_undo_24 : decode cX9_undo 24 = .ok (.aload_n 0, 1) := by decide +kernel
theorem dX9_undo_25 : decode cX9_undo 25 = .ok (.getfield 39, 3) := by decide +kernel
theorem dX9_undo_28 : decode cX9_undo 28 = .ok (.getfield 168, 3) := by decide +kernel
theorem dX9_undo_31 : decode cX9_undo 31 = .ok (.ireturn, 1) := by decide +kernel
theorem dX9_sea_0 : decode cX9_sea 0 = .ok (.aload_n 0, 1) := by decide +kernel
theorem dX9_sea_1 : decode cX9_sea 1 = .ok (.getfield 19, 3) := by decide +kernel
theorem dX9_sea_4 : decode cX9_sea 4 = .ok (.iload_n 1, 1) := by decide +kernel
theorem dX9_sea_5 : decode cX9_sea 5 = .ok (.invokevirtual 171, 3) := by decide +kernel
theorem dX9_sea_8 : decode cX9_sea 8 = .ok (.ifCond .ne 6, 3) := by decide +kernel
theorem dX9_sea_11 : decode cX9_sea 11 = .ok (.ldc 175, 2) := by decide +kernel
theorem dX9_sea_13 : decode cX9_sea 13 = .ok (.ireturn, 1) := by decide +kernel
theorem dX9_sea_14 : decode cX9_sea 14 = .ok (.iload_n 2, 1) := by decide +kernel
theorem dX9_sea_15 : decode cX9_sea 15 = .ok (.iconst 0, 1) := by decide +kernel
theorem dX9_sea_16 : decode cX9_sea 16 = .ok (.bipush 100, 2) := by decide +kernel
theorem dX9_sea_18 : decode cX9_sea 18 = .ok (.invokestatic 82, 3) := by decide +kernel
theorem dX9_sea_21 : decode cX9_sea 21 = .ok (.ifCond .eq 12, 3) := by decide +kernel
theorem dX9_sea_24 : decode cX9_sea 24 = .ok (.iload_n 3, 1) := by decide +kernel
theorem dX9_sea_25 : decode cX9_sea 25 = .ok (.iconst 0, 1) := by decide +kernel
theorem dX9_sea_26 : decode cX9_sea 26 = .ok (.iconst 1, 1) := by decide +kernel
theorem dX9_sea_27 : decode cX9_sea 27 = .ok (.invokestatic 82, 3) := by decide +kernel
theorem dX9_sea_30 : decode cX9_sea 30 = .ok (.ifCond .ne 6, 3) := by decide +kernel
theorem dX9_sea_33 : decode cX9_sea 33 = .ok (.ldc 86, 2) := by decide +kernel
theorem dX9_sea_35 : decode cX9_sea 35 = .ok (.ireturn, 1) := by decide +kernel
theorem dX9_sea_36 : decode cX9_sea 36 = .ok (.aload_n 0, 1) := by decide +kernel
theorem dX9_sea_37 : decode cX9_sea 37 = .ok (.getfield 33, 3) := by decide +kernel
theorem dX9_sea_40 : decode cX9_sea 40 = .ok (.aload_n 0, 1) := by decide +kernel
theorem dX9_sea_41 : decode cX9_sea 41 = .ok (.getfield 29, 3) := by decide +kernel
theorem dX9_sea_44 : decode cX9_sea 44 = .ok (.invokevirtual 257, 3) := by decide +kernel
theorem dX9_sea_47 : decode cX9_sea 47 = .ok (.iconst 0, 1) := by decide +kernel
theorem dX9_sea_48 : decode cX9_sea 48 = .ok (.istore 4, 2) := by decide +kernel
theorem dX9_sea_50 : decode cX9_sea 50 = .ok (.iload 4, 2) := by decide +kernel
theorem dX9_sea_52 : decode cX9_sea 52 = .ok (.iload_n 2, 1) := by decide +kernel
theorem dX9_sea_53 : decode cX9_sea 53 = .ok (.if_icmp .ge 20, 3) := by decide +kernel
theorem dX9_sea_56 : decode cX9_sea 56 = .ok (.aload_n 0, 1) := by decide +kernel
theorem dX9_sea_57 : decode cX9_sea 57 = .ok (.getfield 33, 3) := by decide +kernel
theorem dX9_sea_60 : decode cX9_sea 60 = .ok (.aload_n 0, 1) := by decide +kernel
theorem dX9_sea_61 : decode cX9_sea 61 = .ok (.getfield 19, 3) := by decide +kernel
theorem dX9_sea_64 : decode cX9_sea 64 = .ok (.invokevirtual 260, 3) := by decide +kernel
theorem dX9_sea_67 : decode cX9_sea 67 = .ok (.iinc 4 1, 3) := by decide +kernel
theorem dX9_sea_70 : decode cX9_sea 70 = .ok (.goto (-20), 3) := by decide +kernel
theorem dX9_sea_73 : decode cX9_sea 73 = .ok (.iload_n 3, 1) := by decide +kernel
theorem dX9_sea_74 : decode cX9_sea 74 = .ok (.ifCond .ne 18, 3) := by decide +kernel
theorem dX9_sea_77 : decode cX9_sea 77 = .ok (.aload_n 0, 1) := by decide +kernel
theorem dX9_sea_78 : decode cX9_sea 78 = .ok (.getfield 33, 3) := by decide +kernel
theorem dX9_sea_81 : decode cX9_sea 81 = .ok (.aload_n 0, 1) := by decide +kernel
theorem dX9_sea_82 : decode cX9_sea 82 = .ok (.getfield 19, 3) := by decide +kernel
theorem dX9_sea_85 : decode cX9_sea 85 = .ok (.iload_n 1, 1) := by decide +kernel
theorem dX9_sea_86 : decode cX9_sea 86 = .ok (.invokevirtual 180, 3) := by decide +kernel
theorem dX9_sea_89 : decode cX9_sea 89 = .ok (.goto 15, 3) := by decide +kernel
theorem dX9_sea_92 : decode cX9_sea 92 = .ok (.aload_n 0, 1) := by decide +kernel
theorem dX9_sea_93 : decode cX9_sea 93 = .ok (.getfield 33, 3) := by decide +kernel
theorem dX9_sea_96 : decode cX9_sea 96 = .ok (.aload_n 0, 1) := by decide +kernel
theorem dX9_sea_97 : decode cX9_sea 97 = .ok (.getfield 19, 3) := by decide +kernel
theorem dX9_sea_100 : decode cX9_sea 100 = .ok (.iload_n 1, 1) := by decide +kernel
theorem dX9_sea_101 : decode cX9_sea 101 = .ok (.invokevirtual 184, 3) := by decide +kernel
theorem dX9_sea_104 : decode cX9_sea 104 = .ok (.ireturn, 1) := by decide +kernel
theorem dX9_deepest_0 : decode cX9_deepest 0 = .ok (.aload_n 0, 1) := by decide +kernel
theorem dX9_deepest_1 : decode cX9_deepest 1 = .ok (.getfield 19, 3) := by decide +kernel
theorem dX9_deepest_4 : decode cX9_deepest 4 = .ok (.iload_n 1, 1) := by decide +kernel
theorem dX9_deepest_5 : decode cX9_deepest 5 = .ok (.invokevirtual 171, 3) := by decide +kernel
theorem dX9_deepest_8 : decode cX9_deepest 8 = .ok (.ifCond .ne 6, 3) := by decide +kernel
theorem dX9_deepest_11 : decode cX9_deepest 11 = .ok (.ldc 175, 2) := by decide +kernel
theorem dX9_deepest_13 : decode cX9_deepest 13 = .ok (.ireturn, 1) := by decide +kernel
theorem dX9_deepest_14 : decode cX9_deepest 14 = .ok (.iload_n 2, 1) := by decide +kernel
theorem dX9_deepest_15 : decode cX9_deepest 15 = .ok (.iconst 0, 1) := by decide +kernel
theorem dX9_deepest_16 : decode cX9_deepest 16 = .ok (.bipush 100, 2) := by decide +kernel
theorem dX9_deepest_18 : decode cX9_deepest 18 = .ok (.invokestatic 82, 3) := by decide +kernel
theorem dX9_deepest_21 : decode cX9_deepest 21 = .ok (.ifCond .eq 12, 3) := by decide +kernel
theorem dX9_deepest_24 : decode cX9_deepest 24 = .ok (.iload_n 3, 1) := by decide +kernel
theorem dX9_deepest_25 : decode cX9_deepest 25 = .ok (.iconst 0, 1) := by decide +kernel
theorem dX9_deepest_26 : decode cX9_deepest 26 = .ok (.iconst 1, 1) := by decide +kernel
theorem dX9_deepest_27 : decode cX9_deepest 27 = .ok (.invokestatic 82, 3) := by decide +kernel
theorem dX9_deepest_30 : decode cX9_deepest 30 = .ok (.ifCond .ne 6, 3) := by decide +kernel
theorem dX9_deepest_33 : decode cX9_deepest 33 = .ok (.ldc 86, 2) := by decide +kernel
theorem dX9_deepest_35 : decode cX9_deepest 35 = .ok (.ireturn, 1) := by decide +kernel
theorem dX9_deepest_36 : decode cX9_deepest 36 = .ok (.aload_n 0, 1) := by decide +kernel
theorem dX9_deepest_37 : decode cX9_deepest 37 = .ok (.getfield 33, 3) := by decide +kernel
theorem dX9_deepest_40 : decode cX9_deepest 40 = .ok (.aload_n 0, 1) := by decide +kernel
theorem dX9_deepest_41 : decode cX9_deepest 41 = .ok (.getfield 29, 3) := by decide +kernel
theorem dX9_deepest_44 : decode cX9_deepest 44 = .ok (.invokevirtual 257, 3) := by decide +kernel
theorem dX9_deepest_47 : decode cX9_deepest 47 = .ok (.iconst 0, 1) := by decide +kernel
theorem dX9_deepest_48 : decode cX9_deepest 48 = .ok (.istore 4, 2) := by decide +kernel
theorem dX9_deepest_50 : decode cX9_deepest 50 = .ok (.aload_n 0, 1) := by decide +kernel
theorem dX9_deepest_51 : decode cX9_deepest 51 = .ok (.getfield 33, 3) := by decide +kernel
theorem dX9_deepest_54 : decode cX9_deepest 54 = .ok (.aload_n 0, 1) := by decide +kernel
theorem dX9_deepest_55 : decode cX9_deepest 55 = .ok (.getfield 19, 3) := by decide +kernel
theorem dX9_deepest_58 : decode cX9_deepest 58 = .ok (.iload_n 1, 1) := by decide +kernel
theorem dX9_deepest_59 : decode cX9_deepest 59 = .ok (.invokevirtual 184, 3) := by decide +kernel
theorem dX9_deepest_62 : decode cX9_deepest 62 = .ok (.istore 5, 2) := by decide +kernel
theorem dX9_deepest_64 : decode cX9_deepest 64 = .ok (.iconst 1, 1) := by decide +kernel
theorem dX9_deepest_65 : decode cX9_deepest 65 = .ok (.istore 6, 2) := by decide +kernel
theorem dX9_deepest_67 : decode cX9_deepest 67 = .ok (.iload 6, 2) := by decide +kernel
theorem dX9_deepest_69 : decode cX9_deepest 69 = .ok (.iload_n 2, 1) := by decide +kernel
theorem dX9_deepest_70 : decode cX9_deepest 70 = .ok (.if_icmp .gt 49, 3) := by decide +kernel
theorem dX9_deepest_73 : decode cX9_deepest 73 = .ok (.aload_n 0, 1) := by decide +kernel
theorem dX9_deepest_74 : decode cX9_deepest 74 = .ok (.getfield 33, 3) := by decide +kernel
theorem dX9_deepest_77 : decode cX9_deepest 77 = .ok (.aload_n 0, 1) := by decide +kernel
theorem dX9_deepest_78 : decode cX9_deepest 78 = .ok (.getfield 19, 3) := by decide +kernel
theorem dX9_deepest_81 : decode cX9_deepest 81 = .ok (.invokevirtual 260, 3) := by decide +kernel
theorem dX9_deepest_84 : decode cX9_deepest 84 = .ok (.aload_n 0, 1) := by decide +kernel
theorem dX9_deepest_85 : decode cX9_deepest 85 = .ok (.getfield 33, 3) := by decide +kernel
theorem dX9_deepest_88 : decode cX9_deepest 88 = .ok (.aload_n 0, 1) := by decide +kernel
theorem dX9_deepest_89 : decode cX9_deepest 89 = .ok (.getfield 19, 3) := by decide +kernel
theorem dX9_deepest_92 : decode cX9_deepest 92 = .ok (.iload_n 1, 1) := by decide +kernel
theorem dX9_deepest_93 : decode cX9_deepest 93 = .ok (.invokevirtual 184, 3) := by decide +kernel
theorem dX9_deepest_96 : decode cX9_deepest 96 = .ok (.istore 7, 2) := by decide +kernel
theorem dX9_deepest_98 : decode cX9_deepest 98 = .ok (.iload 7, 2) := by decide +kernel
theorem dX9_deepest_100 : decode cX9_deepest 100 = .ok (.iload 5, 2) := by decide +kernel
theorem dX9_deepest_102 : decode cX9_deepest 102 = .ok (.if_icmp .le 11, 3) := by decide +kernel
theorem dX9_deepest_105 : decode cX9_deepest 105 = .ok (.iload 7, 2) := by decide +kernel
theorem dX9_deepest_107 : decode cX9_deepest 107 = .ok (.istore 5, 2) := by decide +kernel
theorem dX9_deepest_109 : decode cX9_deepest 109 = .ok (.iload 6, 2) := by decide +kernel
theorem dX9_deepest_111 : decode cX9_deepest 111 = .ok (.istore 4, 2) := by decide +kernel
theorem dX9_deepest_113 : decode cX9_deepest 113 = .ok (.iinc 6 1, 3) := by decide +kernel
theorem dX9_deepest_116 : decode cX9_deepest 116 = .ok (.goto (-49), 3) := by decide +kernel
theorem dX9_deepest_119 : decode cX9_deepest 119 = .ok (.iload_n 3, 1) := by decide +kernel
theorem dX9_deepest_120 : decode cX9_deepest 120 = .ok (.ifCond .ne 8, 3) := by decide +kernel
theorem dX9_deepest_123 : decode cX9_deepest 123 = .ok (.iload 4, 2) := by decide +kernel
theorem dX9_deepest_125 : decode cX9_deepest 125 = .ok (.goto 5, 3) := by decide +kernel
theorem dX9_deepest_128 : decode cX9_deepest 128 = .ok (.iload 5, 2) := by decide +kernel
theorem dX9_deepest_130 : decode cX9_deepest 130 = .ok (.ireturn, 1) := by decide +kernel
theorem dX9_comes_0 : decode cX9_comes 0 = .ok (.aload_n 0, 1) := by decide +kernel
theorem dX9_comes_1 : decode cX9_comes 1 = .ok (.getfield 19, 3) := by decide +kernel
theorem dX9_comes_4 : decode cX9_comes 4 = .ok (.iload_n 1, 1) := by decide +kernel
theorem dX9_comes_5 : decode cX9_comes 5 = .ok (.invokevirtual 220, 3) := by decide +kernel
theorem dX9_comes_8 : decode cX9_comes 8 = .ok (.ifCond .ne 6, 3) := by decide +kernel
theorem dX9_comes_11 : decode cX9_comes 11 = .ok (.ldc 175, 2) := by decide +kernel
theorem dX9_comes_13 : decode cX9_comes 13 = .ok (.ireturn, 1) := by decide +kernel
theorem dX9_comes_14 : decode cX9_comes 14 = .ok (.aload_n 0, 1) := by decide +kernel
theorem dX9_comes_15 : decode cX9_comes 15 = .ok (.getfield 33, 3) := by decide +kernel
theorem dX9_comes_18 : decode cX9_comes 18 = .ok (.aload_n 0, 1) := by decide +kernel
theorem dX9_comes_19 : decode cX9_comes 19 = .ok (.getfield 29, 3) := by decide +kernel
theorem dX9_comes_22 : decode cX9_comes 22 = .ok (.invokevirtual 257, 3) := by decide +kernel
theorem dX9_comes_25 : decode cX9_comes 25 = .ok (.iconst 0, 1) := by decide +kernel
theorem dX9_comes_26 : decode cX9_comes 26 = .ok (.istore_n 2, 1) := by decide +kernel
theorem dX9_comes_27 : decode cX9_comes 27 = .ok (.iload_n 2, 1) := by decide +kernel
theorem dX9_comes_28 : decode cX9_comes 28 = .ok (.sipush 200, 3) := by decide +kernel
theorem dX9_comes_31 : decode cX9_comes 31 = .ok (.if_icmp .gt 55, 3) := by decide +kernel
theorem dX9_comes_34 : decode cX9_comes 34 = .ok (.aload_n 0, 1) := by decide +kernel
theorem dX9_comes_35 : decode cX9_comes 35 = .ok (.getfield 33, 3) := by decide +kernel
theorem dX9_comes_38 : decode cX9_comes 38 = .ok (.getfield 226, 3) := by decide +kernel
theorem dX9_comes_41 : decode cX9_comes 41 = .ok (.iload_n 1, 1) := by decide +kernel
theorem dX9_comes_42 : decode cX9_comes 42 = .ok (.iaload, 1) := by decide +kernel
theorem dX9_comes_43 : decode cX9_comes 43 = .ok (.aload_n 0, 1) := by decide +kernel
theorem dX9_comes_44 : decode cX9_comes 44 = .ok (.getfield 19, 3) := by decide +kernel
theorem dX9_comes_47 : decode cX9_comes 47 = .ok (.getfield 232, 3) := by decide +kernel
theorem dX9_comes_50 : decode cX9_comes 50 = .ok (.iload_n 1, 1) := by decide +kernel
theorem dX9_comes_51 : decode cX9_comes 51 = .ok (.iaload, 1) := by decide +kernel
theorem dX9_comes_52 : decode cX9_comes 52 = .ok (.if_icmp .ne 5, 3) := by decide +kernel
theorem dX9_comes_55 : decode cX9_comes 55 = .ok (.iload_n 2, 1) := by decide +kernel
theorem dX9_comes_56 : decode cX9_comes 56 = .ok (.ireturn, 1) := by decide +kernel
theorem dX9_comes_57 : decode cX9_comes 57 = .ok (.aload_n 0, 1) := by decide +kernel
theorem dX9_comes_58 : decode cX9_comes 58 = .ok (.getfield 33, 3) := by decide +kernel
theorem dX9_comes_61 : decode cX9_comes 61 = .ok (.aload_n 0, 1) := by decide +kernel
theorem dX9_comes_62 : decode cX9_comes 62 = .ok (.getfield 19, 3) := by decide +kernel
theorem dX9_comes_65 : decode cX9_comes 65 = .ok (.invokevirtual 260, 3) := by decide +kernel
theorem dX9_comes_68 : decode cX9_comes 68 = .ok (.aload_n 0, 1) := by decide +kernel
theorem dX9_comes_69 : decode cX9_comes 69 = .ok (.getfield 33, 3) := by decide +kernel
theorem dX9_comes_72 : decode cX9_comes 72 = .ok (.aload_n 0, 1) := by decide +kernel
theorem dX9_comes_73 : decode cX9_comes 73 = .ok (.getfield 19, 3) := by decide +kernel
theorem dX9_comes_76 : decode cX9_comes 76 = .ok (.iload_n 1, 1) := by decide +kernel
theorem dX9_comes_77 : decode cX9_comes 77 = .ok (.invokevirtual 263, 3) := by decide +kernel
theorem dX9_comes_80 : decode cX9_comes 80 = .ok (.iinc 2 1, 3) := by decide +kernel
theorem dX9_comes_83 : decode cX9_comes 83 = .ok (.goto (-56), 3) := by decide +kernel
theorem dX9_comes_86 : decode cX9_comes 86 = .ok (.iconst (-1), 1) := by decide +kernel
theorem dX9_comes_87 : decode cX9_comes 87 = .ok (.ireturn, 1) := by decide +kernel
theorem dX9_seats_0 : decode cX9_seats 0 = .ok (.aload_n 0, 1) := by decide +kernel
theorem dX9_seats_1 : decode cX9_seats 1 = .ok (.getfield 19, 3) := by decide +kernel
theorem dX9_seats_4 : decode cX9_seats 4 = .ok (.iload_n 1, 1) := by decide +kernel
theorem dX9_seats_5 : decode cX9_seats 5 = .ok (.invokevirtual 171, 3) := by decide +kernel
theorem dX9_seats_8 : decode cX9_seats 8 = .ok (.ifCond .eq 21, 3) := by decide +kernel
theorem dX9_seats_11 : decode cX9_seats 11 = .ok (.iload 4, 2) := by decide +kernel
theorem dX9_seats_13 : decode cX9_seats 13 = .ok (.iconst (-1), 1) := by decide +kernel
theorem dX9_seats_14 : decode cX9_seats 14 = .ok (.if_icmp .eq 18, 3) := by decide +kernel
theorem dX9_seats_17 : decode cX9_seats 17 = .ok (.aload_n 0, 1) := by decide +kernel
theorem dX9_seats_18 : decode cX9_seats 18 = .ok (.getfield 19, 3) := by decide +kernel
theorem dX9_seats_21 : decode cX9_seats 21 = .ok (.iload 4, 2) := by decide +kernel
theorem dX9_seats_23 : decode cX9_seats 23 = .ok (.invokevirtual 205, 3) := by decide +kernel
theorem dX9_seats_26 : decode cX9_seats 26 = .ok (.ifCond .ne 6, 3) := by decide +kernel
theorem dX9_seats_29 : decode cX9_seats 29 = .ok (.ldc 175, 2) := by decide +kernel
theorem dX9_seats_31 : decode cX9_seats 31 = .ok (.ireturn, 1) := by decide +kernel
theorem dX9_seats_32 : decode cX9_seats 32 = .ok (.iload_n 2, 1) := by decide +kernel
theorem dX9_seats_33 : decode cX9_seats 33 = .ok (.iconst 0, 1) := by decide +kernel
theorem dX9_seats_34 : decode cX9_seats 34 = .ok (.bipush 99, 2) := by decide +kernel
theorem dX9_seats_36 : decode cX9_seats 36 = .ok (.invokestatic 82, 3) := by decide +kernel
theorem dX9_seats_39 : decode cX9_seats 39 = .ok (.ifCond .eq 13, 3) := by decide +kernel
theorem dX9_seats_42 : decode cX9_seats 42 = .ok (.iload_n 3, 1) := by decide +kernel
theorem dX9_seats_43 : decode cX9_seats 43 = .ok (.iconst 1, 1) := by decide +kernel
theorem dX9_seats_44 : decode cX9_seats 44 = .ok (.bipush 20, 2) := by decide +kernel
theorem dX9_seats_46 : decode cX9_seats 46 = .ok (.invokestatic 82, 3) := by decide +kernel
theorem dX9_seats_49 : decode cX9_seats 49 = .ok (.ifCond .ne 6, 3) := by decide +kernel
theorem dX9_seats_52 : decode cX9_seats 52 = .ok (.ldc 86, 2) := by decide +kernel
theorem dX9_seats_54 : decode cX9_seats 54 = .ok (.ireturn, 1) := by decide +kernel
theorem dX9_seats_55 : decode cX9_seats 55 = .ok (.aload_n 0, 1) := by decide +kernel
theorem dX9_seats_56 : decode cX9_seats 56 = .ok (.getfield 66, 3) := by decide +kernel
theorem dX9_seats_59 : decode cX9_seats 59 = .ok (.aload_n 0, 1) := by decide +kernel
theorem dX9_seats_60 : decode cX9_seats 60 = .ok (.getfield 19, 3) := by decide +kernel
theorem dX9_seats_63 : decode cX9_seats 63 = .ok (.aload_n 0, 1) := by decide +kernel
theorem dX9_seats_64 : decode cX9_seats 64 = .ok (.getfield 29, 3) := by decide +kernel
theorem dX9_seats_67 : decode cX9_seats 67 = .ok (.iload_n 1, 1) := by decide +kernel
theorem dX9_seats_68 : decode cX9_seats 68 = .ok (.iload_n 2, 1) := by decide +kernel
theorem dX9_seats_69 : decode cX9_seats 69 = .ok (.iload_n 3, 1) := by decide +kernel
theorem dX9_seats_70 : decode cX9_seats 70 = .ok (.invokevirtual 267, 3) := by decide +kernel
theorem dX9_seats_73 : decode cX9_seats 73 = .ok (.istore 5, 2) := by decide +kernel
theorem dX9_seats_75 : decode cX9_seats 75 = .ok (.iload 4, 2) := by decide +kernel
theorem dX9_seats_77 : decode cX9_seats 77 = .ok (.iconst (-1), 1) := by decide +kernel
theorem dX9_seats_78 : decode cX9_seats 78 = .ok (.if_icmp .eq 9, 3) := by decide +kernel
theorem dX9_seats_81 : decode cX9_seats 81 = .ok (.iload 5, 2) := by decide +kernel
theorem dX9_seats_83 : decode cX9_seats 83 = .ok (.iconst (-1), 1) := by decide +kernel
theorem dX9_seats_84 : decode cX9_seats 84 = .ok (.if_icmp .ne 8, 3) := by decide +kernel
theorem dX9_seats_87 : decode cX9_seats 87 = .ok (.iload 5, 2) := by decide +kernel
theorem dX9_seats_89 : decode cX9_seats 89 = .ok (.goto 13, 3) := by decide +kernel
theorem dX9_seats_92 : decode cX9_seats 92 = .ok (.aload_n 0, 1) := by decide +kernel
theorem dX9_seats_93 : decode cX9_seats 93 = .ok (.getfield 66, 3) := by decide +kernel
theorem dX9_seats_96 : decode cX9_seats 96 = .ok (.getfield 271, 3) := by decide +kernel
theorem dX9_seats_99 : decode cX9_seats 99 = .ok (.iload 4, 2) := by decide +kernel
theorem dX9_seats_101 : decode cX9_seats 101 = .ok (.iaload, 1) := by decide +kernel
theorem dX9_seats_102 : decode cX9_seats 102 = .ok (.ireturn, 1) := by decide +kernel
theorem dX9_leave_0 : decode cX9_leave 0 = .ok (.iload_n 1, 1) := by decide +kernel
theorem dX9_leave_1 : decode cX9_leave 1 = .ok (.iconst 0, 1) := by decide +kernel
theorem dX9_leave_2 : decode cX9_leave 2 = .ok (.iconst 1, 1) := by decide +kernel
theorem dX9_leave_3 : decode cX9_leave 3 = .ok (.invokestatic 82, 3) := by decide +kernel
theorem dX9_leave_6 : decode cX9_leave 6 = .ok (.ifCond .ne 6, 3) := by decide +kernel
theorem dX9_leave_9 : decode cX9_leave 9 = .ok (.ldc 86, 2) := by decide +kernel
theorem dX9_leave_11 : decode cX9_leave 11 = .ok (.ireturn, 1) := by decide +kernel
theorem dX9_leave_12 : decode cX9_leave 12 = .ok (.iconst (-1), 1) := by decide +kernel
theorem dX9_leave_13 : decode cX9_leave 13 = .ok (.istore_n 2, 1) := by decide +kernel
theorem dX9_leave_14 : decode cX9_leave 14 = .ok (.iconst (-1), 1) := by decide +kernel
theorem dX9_leave_15 : decode cX9_leave 15 = .ok (.istore_n 3, 1) := by decide +kernel
theorem dX9_leave_16 : decode cX9_leave 16 = .ok (.iconst 0, 1) := by decide +kernel
theorem dX9_leave_17 : decode cX9_leave 17 = .ok (.istore 4, 2) := by decide +kernel
theorem dX9_leave_19 : decode cX9_leave 19 = .ok (.iload 4, 2) := by decide +kernel
theorem dX9_leave_21 : decode cX9_leave 21 = .ok (.aload_n 0, 1) := by decide +kernel
theorem dX9_leave_22 : decode cX9_leave 22 = .ok (.getfield 19, 3) := by decide +kernel
theorem dX9_leave_25 : decode cX9_leave 25 = .ok (.getfield 116, 3) := by decide +kernel
theorem dX9_leave_28 : decode cX9_leave 28 = .ok (.if_icmp .ge 61, 3) := by decide +kernel
theorem dX9_leave_31 : decode cX9_leave 31 = .ok (.aload_n 0, 1) := by decide +kernel
theorem dX9_leave_32 : decode cX9_leave 32 = .ok (.getfield 33, 3) := by decide +kernel
theorem dX9_leave_35 : decode cX9_leave 35 = .ok (.aload_n 0, 1) := by decide +kernel
theorem dX9_leave_36 : decode cX9_leave 36 = .ok (.getfield 29, 3) := by decide +kernel
theorem dX9_leave_39 : decode cX9_leave 39 = .ok (.invokevirtual 257, 3) := by decide +kernel
theorem dX9_leave_42 : decode cX9_leave 42 = .ok (.aload_n 0, 1) := by decide +kernel
theorem dX9_leave_43 : decode cX9_leave 43 = .ok (.getfield 33, 3) := by decide +kernel
theorem dX9_leave_46 : decode cX9_leave 46 = .ok (.getfield 199, 3) := by decide +kernel
theorem dX9_leave_49 : decode cX9_leave 49 = .ok (.iload 4, 2) := by decide +kernel
theorem dX9_leave_51 : decode cX9_leave 51 = .ok (.iconst 0, 1) := by decide +kernel
theorem dX9_leave_52 : decode cX9_leave 52 = .ok (.iastore, 1) := by decide +kernel
theorem dX9_leave_53 : decode cX9_leave 53 = .ok (.aload_n 0, 1) := by decide +kernel
theorem dX9_leave_54 : decode cX9_leave 54 = .ok (.getfield 33, 3) := by decide +kernel
theorem dX9_leave_57 : decode cX9_leave 57 = .ok (.aload_n 0, 1) := by decide +kernel
theorem dX9_leave_58 : decode cX9_leave 58 = .ok (.getfield 19, 3) := by decide +kernel
theorem dX9_leave_61 : decode cX9_leave 61 = .ok (.invokevirtual 131, 3) := by decide +kernel
theorem dX9_leave_64 : decode cX9_leave 64 = .ok (.istore 5, 2) := by decide +kernel
theorem dX9_leave_66 : decode cX9_leave 66 = .ok (.iload_n 2, 1) := by decide +kernel
theorem dX9_leave_67 : decode cX9_leave 67 = .ok (.iconst (-1), 1) := by decide +kernel
theorem dX9_leave_68 : decode cX9_leave 68 = .ok (.if_icmp .eq 9, 3) := by decide +kernel
theorem dX9_leave_71 : decode cX9_leave 71 = .ok (.iload 5, 2) := by decide +kernel
theorem dX9_leave_73 : decode cX9_leave 73 = .ok (.iload_n 3, 1) := by decide +kernel
theorem dX9_leave_74 : decode cX9_leave 74 = .ok (.if_icmp .ge 9, 3) := by decide +kernel
theorem dX9_leave_77 : decode cX9_leave 77 = .ok (.iload 4, 2) := by decide +kernel
theorem dX9_leave_79 : decode cX9_leave 79 = .ok (.istore_n 2, 1) := by decide +kernel
theorem dX9_leave_80 : decode cX9_leave 80 = .ok (.iload 5, 2) := by decide +kernel
theorem dX9_leave_82 : decode cX9_leave 82 = .ok (.istore_n 3, 1) := by decide +kernel
theorem dX9_leave_83 : decode cX9_leave 83 = .ok (.iinc 4 1, 3) := by decide +kernel
theorem dX9_leave_86 : decode cX9_leave 86 = .ok (.goto (-67), 3) := by decide +kernel
theorem dX9_leave_89 : decode cX9_leave 89 = .ok (.iload_n 1, 1) := by decide +kernel
theorem dX9_leave_90 : decode cX9_leave 90 = .ok (.ifCond .ne 7, 3) := by decide +kernel
theorem dX9_leave_93 : decode cX9_leave 93 = .ok (.iload_n 2, 1) := by decide +kernel
theorem dX9_leave_94 : decode cX9_leave 94 = .ok (.goto 4, 3) := by decide +kernel
theorem dX9_leave_97 : decode cX9_leave 97 = .ok (.iload_n 3, 1) := by decide +kernel
theorem dX9_leave_98 : decode cX9_leave 98 = .ok (.ireturn, 1) := by decide +kernel
theorem dX9_share_0 : decode cX9_share 0 = .ok (.iload_n 2, 1) := by decide +kernel
theorem dX9_share_1 : decode cX9_share 1 = .ok (.iconst (-1), 1) := by decide +kernel
theorem dX9_share_2 : decode cX9_share 2 = .ok (.if_icmp .eq 17, 3) := by decide +kernel
theorem dX9_share_5 : decode cX9_share 5 = .ok (.aload_n 0, 1) := by decide +kernel
theorem dX9_share_6 : decode cX9_share 6 = .ok (.getfield 19, 3) := by decide +kernel
theorem dX9_share_9 : decode cX9_share 9 = .ok (.iload_n 2, 1) := by decide +kernel
theorem dX9_share_10 : decode cX9_share 10 = .ok (.invokevirtual 171, 3) := by decide +kernel
theorem dX9_share_13 : decode cX9_share 13 = .ok (.ifCond .ne 6, 3) := by decide +kernel
theorem dX9_share_16 : decode cX9_share 16 = .ok (.ldc 175, 2) := by decide +kernel
theorem dX9_share_18 : decode cX9_share 18 = .ok (.ireturn, 1) := by decide +kernel
theorem dX9_share_19 : decode cX9_share 19 = .ok (.iload_n 1, 1) := by decide +kernel
theorem dX9_share_20 : decode cX9_share 20 = .ok (.iconst 0, 1) := by decide +kernel
theorem dX9_share_21 : decode cX9_share 21 = .ok (.sipush 999, 3) := by decide +kernel
theorem dX9_share_24 : decode cX9_share 24 = .ok (.invokestatic 82, 3) := by decide +kernel
theorem dX9_share_27 : decode cX9_share 27 = .ok (.ifCond .ne 6, 3) := by decide +kernel
theorem dX9_share_30 : decode cX9_share 30 = .ok (.ldc 86, 2) := by decide +kernel
theorem dX9_share_32 : decode cX9_share 32 = .ok (.ireturn, 1) := by decide +kernel
theorem dX9_share_33 : decode cX9_share 33 = .ok (.aload_n 0, 1) := by decide +kernel
theorem dX9_share_34 : decode cX9_share 34 = .ok (.getfield 29, 3) := by decide +kernel
theorem dX9_share_37 : decode cX9_share 37 = .ok (.aload_n 0, 1) := by decide +kernel
theorem dX9_share_38 : decode cX9_share 38 = .ok (.getfield 19, 3) := by decide +kernel
theorem dX9_share_41 : decode cX9_share 41 = .ok (.invokevirtual 274, 3) := by decide +kernel
theorem dX9_share_44 : decode cX9_share 44 = .ok (.istore_n 3, 1) := by decide +kernel
theorem dX9_share_45 : decode cX9_share 45 = .ok (.iload_n 2, 1) := by decide +kernel
theorem dX9_share_46 : decode cX9_share 46 = .ok (.iconst (-1), 1) := by decide +kernel
theorem dX9_share_47 : decode cX9_share 47 = .ok (.if_icmp .eq 11, 3) := by decide +kernel
theorem dX9_share_50 : decode cX9_share 50 = .ok (.aload_n 0, 1) := by decide +kernel
theorem dX9_share_51 : decode cX9_share 51 = .ok (.iload_n 2, 1) := by decide +kernel
theorem dX9_share_52 : decode cX9_share 52 = .ok (.iload_n 1, 1) := by decide +kernel
theorem dX9_share_53 : decode cX9_share 53 = .ok (.iload_n 3, 1) := by decide +kernel
theorem dX9_share_54 : decode cX9_share 54 = .ok (.invokevirtual 277, 3) := by decide +kernel
theorem dX9_share_57 : decode cX9_share 57 = .ok (.ireturn, 1) := by decide +kernel
theorem dX9_share_58 : decode cX9_share 58 = .ok (.iload_n 1, 1) := by decide +kernel
theorem dX9_share_59 : decode cX9_share 59 = .ok (.istore 4, 2) := by decide +kernel
theorem dX9_share_61 : decode cX9_share 61 = .ok (.iconst 0, 1) := by decide +kernel
theorem dX9_share_62 : decode cX9_share 62 = .ok (.istore 5, 2) := by decide +kernel
theorem dX9_share_64 : decode cX9_share 64 = .ok (.iload 5, 2) := by decide +kernel
theorem dX9_share_66 : decode cX9_share 66 = .ok (.aload_n 0, 1) := by decide +kernel
theorem dX9_share_67 : decode cX9_share 67 = .ok (.getfield 19, 3) := by decide +kernel
theorem dX9_share_70 : decode cX9_share 70 = .ok (.getfield 113, 3) := by decide +kernel
theorem dX9_share_73 : decode cX9_share 73 = .ok (.if_icmp .ge 22, 3) := by decide +kernel
theorem dX9_share_76 : decode cX9_share 76 = .ok (.iload 4, 2) := by decide +kernel
theorem dX9_share_78 : decode cX9_share 78 = .ok (.aload_n 0, 1) := by decide +kernel
theorem dX9_share_79 : decode cX9_share 79 = .ok (.iload 5, 2) := by decide +kernel
theorem dX9_share_81 : decode cX9_share 81 = .ok (.iload_n 1, 1) := by decide +kernel
theorem dX9_share_82 : decode cX9_share 82 = .ok (.iload_n 3, 1) := by decide +kernel
theorem dX9_share_83 : decode cX9_share 83 = .ok (.invokevirtual 277, 3) := by decide +kernel
theorem dX9_share_86 : decode cX9_share 86 = .ok (.isub, 1) := by decide +kernel
theorem dX9_share_87 : decode cX9_share 87 = .ok (.istore 4, 2) := by decide +kernel
theorem dX9_share_89 : decode cX9_share 89 = .ok (.iinc 5 1, 3) := by decide +kernel
theorem dX9_share_92 : decode cX9_share 92 = .ok (.goto (-28), 3) := by decide +kernel
theorem dX9_share_95 : decode cX9_share 95 = .ok (.iload 4, 2) := by decide +kernel
theorem dX9_share_97 : decode cX9_share 97 = .ok (.ireturn, 1) := by decide +kernel
theorem dX9_calm_0 : decode cX9_calm 0 = .ok (.iload_n 1, 1) := by decide +kernel
theorem dX9_calm_1 : decode cX9_calm 1 = .ok (.iconst 0, 1) := by decide +kernel
theorem dX9_calm_2 : decode cX9_calm 2 = .ok (.bipush 60, 2) := by decide +kernel
theorem dX9_calm_4 : decode cX9_calm 4 = .ok (.invokestatic 82, 3) := by decide +kernel
theorem dX9_calm_7 : decode cX9_calm 7 = .ok (.ifCond .eq 13, 3) := by decide +kernel
theorem dX9_calm_10 : decode cX9_calm 10 = .ok (.iload_n 2, 1) := by decide +kernel
theorem dX9_calm_11 : decode cX9_calm 11 = .ok (.iconst 0, 1) := by decide +kernel
theorem dX9_calm_12 : decode cX9_calm 12 = .ok (.bipush 100, 2) := by decide +kernel
theorem dX9_calm_14 : decode cX9_calm 14 = .ok (.invokestatic 82, 3) := by decide +kernel
theorem dX9_calm_17 : decode cX9_calm 17 = .ok (.ifCond .ne 6, 3) := by decide +kernel
theorem dX9_calm_20 : decode cX9_calm 20 = .ok (.ldc 86, 2) := by decide +kernel
theorem dX9_calm_22 : decode cX9_calm 22 = .ok (.ireturn, 1) := by decide +kernel
theorem dX9_calm_23 : decode cX9_calm 23 = .ok (.ldc2_w 281, 3) := by decide +kernel
theorem dX9_calm_26 : decode cX9_calm 26 = .ok (.lstore_n 3, 1) := by decide +kernel
theorem dX9_calm_27 : decode cX9_calm 27 = .ok (.iconst 0, 1) := by decide +kernel
theorem dX9_calm_28 : decode cX9_calm 28 = .ok (.istore 5, 2) := by decide +kernel
theorem dX9_calm_30 : decode cX9_calm 30 = .ok (.iload 5, 2) := by decide +kernel
theorem dX9_calm_32 : decode cX9_calm 32 = .ok (.iload_n 1, 1) := by decide +kernel
theorem dX9_calm_33 : decode cX9_calm 33 = .ok (.if_icmp .ge 18, 3) := by decide +kernel
theorem dX9_calm_36 : decode cX9_calm 36 = .ok (.lload_n 3, 1) := by decide +kernel
theorem dX9_calm_37 : decode cX9_calm 37 = .ok (.iload_n 2, 1) := by decide +kernel
theorem dX9_calm_38 : decode cX9_calm 38 = .ok (.i2l, 1) := by decide +kernel
theorem dX9_calm_39 : decode cX9_calm 39 = .ok (.lmul, 1) := by decide +kernel
theorem dX9_calm_40 : decode cX9_calm 40 = .ok (.ldc2_w 283, 3) := by decide +kernel
theorem dX9_calm_43 : decode cX9_calm 43 = .ok (.ldiv, 1) := by decide +kernel
theorem dX9_calm_44 : decode cX9_calm 44 = .ok (.lstore_n 3, 1) := by decide +kernel
theorem dX9_calm_45 : decode cX9_calm 45 = .ok (.iinc 5 1, 3) := by decide +kernel
theorem dX9_calm_48 : decode cX9_calm 48 = .ok (.goto (-18), 3) := by decide +kernel
theorem dX9_calm_51 : decode cX9_calm 51 = .ok (.lload_n 3, 1) := by decide +kernel
theorem dX9_calm_52 : decode cX9_calm 52 = .ok (.l2i, 1) := by decide +kernel
theorem dX9_calm_53 : decode cX9_calm 53 = .ok (.ireturn, 1) := by decide +kernel
theorem dX9_mark_0 : decode cX9_mark 0 = .ok (.aload_n 0, 1) := by decide +kernel
theorem dX9_mark_1 : decode cX9_mark 1 = .ok (.getfield 19, 3) := by decide +kernel
theorem dX9_mark_4 : decode cX9_mark 4 = .ok (.iload_n 1, 1) := by decide +kernel
theorem dX9_mark_5 : decode cX9_mark 5 = .ok (.invokevirtual 171, 3) := by decide +kernel
theorem dX9_mark_8 : decode cX9_mark 8 = .ok (.ifCond .ne 6, 3) := by decide +kernel
theorem dX9_mark_11 : decode cX9_mark 11 = .ok (.ldc 175, 2) := by decide +kernel
theorem dX9_mark_13 : decode cX9_mark 13 = .ok (.ireturn, 1) := by decide +kernel
theorem dX9_mark_14 : decode cX9_mark 14 = .ok (.iload_n 2, 1) := by decide +kernel
theorem dX9_mark_15 : decode cX9_mark 15 = .ok (.iconst 1, 1) := by decide +kernel
theorem dX9_mark_16 : decode cX9_mark 16 = .ok (.bipush 20, 2) := by decide +kernel
theorem dX9_mark_18 : decode cX9_mark 18 = .ok (.invokestatic 82, 3) := by decide +kernel
theorem dX9_mark_21 : decode cX9_mark 21 = .ok (.ifCond .eq 14, 3) := by decide +kernel
theorem dX9_mark_24 : decode cX9_mark 24 = .ok (.iload_n 3, 1) := by decide +kernel
theorem dX9_mark_25 : decode cX9_mark 25 = .ok (.iconst 0, 1) := by decide +kernel
theorem dX9_mark_26 : decode cX9_mark 26 = .ok (.sipush 999, 3) := by decide +kernel
theorem dX9_mark_29 : decode cX9_mark 29 = .ok (.invokestatic 82, 3) := by decide +kernel
theorem dX9_mark_32 : decode cX9_mark 32 = .ok (.ifCond .ne 6, 3) := by decide +kernel
theorem dX9_mark_35 : decode cX9_mark 35 = .ok (.ldc 86, 2) := by decide +kernel
theorem dX9_mark_37 : decode cX9_mark 37 = .ok (.ireturn, 1) := by decide +kernel
theorem dX9_mark_38 : decode cX9_mark 38 = .ok (.aload_n 0, 1) := by decide +kernel
theorem dX9_mark_39 : decode cX9_mark 39 = .ok (.getfield 59, 3) := by decide +kernel
theorem dX9_mark_42 : decode cX9_mark 42 = .ok (.iload_n 1, 1) := by decide +kernel
theorem dX9_mark_43 : decode cX9_mark 43 = .ok (.iload_n 2, 1) := by decide +kernel
theorem dX9_mark_44 : decode cX9_mark 44 = .ok (.iload_n 3, 1) := by decide +kernel
theorem dX9_mark_45 : decode cX9_mark 45 = .ok (.invokevirtual 285, 3) := by decide +kernel
theorem dX9_mark_48 : decode cX9_mark 48 = .ok (.ireturn, 1) := by decide +kernel
theorem dX9_look_0 : decode cX9_look 0 = .ok (.aload_n 0, 1) := by decide +kernel
theorem dX9_look_1 : decode cX9_look 1 = .ok (.getfield 73, 3) := by decide +kernel
theorem dX9_look_4 : decode cX9_look 4 = .ok (.aload_n 0, 1) := by decide +kernel
theorem dX9_look_5 : decode cX9_look 5 = .ok (.getfield 19, 3) := by decide +kernel
theorem dX9_look_8 : decode cX9_look 8 = .ok (.aload_n 0, 1) := by decide +kernel
theorem dX9_look_9 : decode cX9_look 9 = .ok (.getfield 29, 3) := by decide +kernel
theorem dX9_look_12 : decode cX9_look 12 = .ok (.aload_n 0, 1) := by decide +kernel
theorem dX9_look_13 : decode cX9_look 13 = .ok (.getfield 59, 3) := by decide +kernel
theorem dX9_look_16 : decode cX9_look 16 = .ok (.aload_n 0, 1) := by decide +kernel
theorem dX9_look_17 : decode cX9_look 17 = .ok (.getfield 33, 3) := by decide +kernel
theorem dX9_look_20 : decode cX9_look 20 = .ok (.invokevirtual 155, 3) := by decide +kernel
theorem dX9_look_23 : decode cX9_look 23 = .ok (.istore_n 1, 1) := by decide +kernel
theorem dX9_look_24 : decode cX9_look 24 = .ok (.aload_n 0, 1) := by decide +kernel
theorem dX9_look_25 : decode cX9_look 25 = .ok (.getfield 73, 3) := by decide +kernel
theorem dX9_look_28 : decode cX9_look 28 = .ok (.iload_n 1, 1) := by decide +kernel
theorem dX9_look_29 : decode cX9_look 29 = .ok (.aload_n 0, 1) := by decide +kernel
theorem dX9_look_30 : decode cX9_look 30 = .ok (.getfield 19, 3) := by decide +kernel
theorem dX9_look_33 : decode cX9_look 33 = .ok (.aload_n 0, 1) := by decide +kernel
theorem dX9_look_34 : decode cX9_look 34 = .ok (.getfield 29, 3) := by decide +kernel
theorem dX9_look_37 : decode cX9_look 37 = .ok (.aload_n 0, 1) := by decide +kernel
theorem dX9_look_38 : decode cX9_look 38 = .ok (.getfield 33, 3) := by decide +kernel
theorem dX9_look_41 : decode cX9_look 41 = .ok (.invokevirtual 288, 3) := by decide +kernel
theorem dX9_look_44 : decode cX9_look 44 = .ok (.ireturn, 1) := by decide +kernel
theorem dX9_see_0 : decode cX9_see 0 = .ok (.iload_n 1, 1) := by decide +kernel
theorem dX9_see_1 : decode cX9_see 1 = .ok (.iconst 0, 1) := by decide +kernel
theorem dX9_see_2 : decode cX9_see 2 = .ok (.bipush 99, 2) := by decide +kernel
theorem dX9_see_4 : decode cX9_see 4 = .ok (.invokestatic 82, 3) := by decide +kernel
theorem dX9_see_7 : decode cX9_see 7 = .ok (.ifCond .eq 23, 3) := by decide +kernel
theorem dX9_see_10 : decode cX9_see 10 = .ok (.iload_n 2, 1) := by decide +kernel
theorem dX9_see_11 : decode cX9_see 11 = .ok (.iconst 0, 1) := by decide +kernel
theorem dX9_see_12 : decode cX9_see 12 = .ok (.bipush 9, 2) := by decide +kernel
theorem dX9_see_14 : decode cX9_see 14 = .ok (.invokestatic 82, 3) := by decide +kernel
theorem dX9_see_17 : decode cX9_see 17 = .ok (.ifCond .eq 13, 3) := by decide +kernel
theorem dX9_see_20 : decode cX9_see 20 = .ok (.iload_n 3, 1) := by decide +kernel
theorem dX9_see_21 : decode cX9_see 21 = .ok (.iconst 0, 1) := by decide +kernel
theorem dX9_see_22 : decode cX9_see 22 = .ok (.bipush 99, 2) := by decide +kernel
theorem dX9_see_24 : decode cX9_see 24 = .ok (.invokestatic 82, 3) := by decide +kernel
theorem dX9_see_27 : decode cX9_see 27 = .ok (.ifCond .ne 6, 3) := by decide +kernel
theorem dX9_see_30 : decode cX9_see 30 = .ok (.ldc 86, 2) := by decide +kernel
theorem dX9_see_32 : decode cX9_see 32 = .ok (.ireturn, 1) := by decide +kernel
theorem dX9_see_33 : decode cX9_see 33 = .ok (.aload_n 0, 1) := by decide +kernel
theorem dX9_see_34 : decode cX9_see 34 = .ok (.getfield 59, 3) := by decide +kernel
theorem dX9_see_37 : decode cX9_see 37 = .ok (.iload_n 1, 1) := by decide +kernel
theorem dX9_see_38 : decode cX9_see 38 = .ok (.iload_n 2, 1) := by decide +kernel
theorem dX9_see_39 : decode cX9_see 39 = .ok (.iload_n 3, 1) := by decide +kernel
theorem dX9_see_40 : decode cX9_see 40 = .ok (.invokevirtual 292, 3) := by decide +kernel
theorem dX9_see_43 : decode cX9_see 43 = .ok (.ireturn, 1) := by decide +kernel
theorem dX9_write_0 : decode cX9_write 0 = .ok (.aload_n 0, 1) := by decide +kernel
theorem dX9_write_1 : decode cX9_write 1 = .ok (.getfield 19, 3) := by decide +kernel
theorem dX9_write_4 : decode cX9_write 4 = .ok (.iload_n 1, 1) := by decide +kernel
theorem dX9_write_5 : decode cX9_write 5 = .ok (.invokevirtual 171, 3) := by decide +kernel
theorem dX9_write_8 : decode cX9_write 8 = .ok (.ifCond .ne 6, 3) := by decide +kernel
theorem dX9_write_11 : decode cX9_write 11 = .ok (.ldc 175, 2) := by decide +kernel
theorem dX9_write_13 : decode cX9_write 13 = .ok (.ireturn, 1) := by decide +kernel
theorem dX9_write_14 : decode cX9_write 14 = .ok (.iload_n 2, 1) := by decide +kernel
theorem dX9_write_15 : decode cX9_write 15 = .ok (.iconst 0, 1) := by decide +kernel
theorem dX9_write_16 : decode cX9_write 16 = .ok (.sipush 999, 3) := by decide +kernel
theorem dX9_write_19 : decode cX9_write 19 = .ok (.invokestatic 82, 3) := by decide +kernel
theorem dX9_write_22 : decode cX9_write 22 = .ok (.ifCond .ne 6, 3) := by decide +kernel
theorem dX9_write_25 : decode cX9_write 25 = .ok (.ldc 86, 2) := by decide +kernel
theorem dX9_write_27 : decode cX9_write 27 = .ok (.ireturn, 1) := by decide +kernel
theorem dX9_write_28 : decode cX9_write 28 = .ok (.aload_n 0, 1) := by decide +kernel
theorem dX9_write_29 : decode cX9_write 29 = .ok (.getfield 59, 3) := by decide +kernel
theorem dX9_write_32 : decode cX9_write 32 = .ok (.iload_n 1, 1) := by decide +kernel
theorem dX9_write_33 : decode cX9_write 33 = .ok (.iload_n 2, 1) := by decide +kernel
theorem dX9_write_34 : decode cX9_write 34 = .ok (.invokevirtual 295, 3) := by decide +kernel
theorem dX9_write_37 : decode cX9_write 37 = .ok (.ireturn, 1) := by decide +kernel
theorem dX9_tear_0 : decode cX9_tear 0 = .ok (.aload_n 0, 1) := by decide +kernel
theorem dX9_tear_1 : decode cX9_tear 1 = .ok (.getfield 59, 3) := by decide +kernel
theorem dX9_tear_4 : decode cX9_tear 4 = .ok (.getfield 152, 3) := by decide +kernel
theorem dX9_tear_7 : decode cX9_tear 7 = .ok (.aload_n 0, 1) := by decide +kernel
theorem dX9_tear_8 : decode cX9_tear 8 = .ok (.getfield 59, 3) := by decide +kernel
theorem dX9_tear_11 : decode cX9_tear 11 = .ok (.getfield 159, 3) := by decide +kernel
theorem dX9_tear_14 : decode cX9_tear 14 = .ok (.iadd, 1) := by decide +kernel
theorem dX9_tear_15 : decode cX9_tear 15 = .ok (.aload_n 0, 1) := by decide +kernel
theorem dX9_tear_16 : decode cX9_tear 16 = .ok (.getfield 59, 3) := by decide +kernel
theorem dX9_tear_19 : decode cX9_tear 19 = .ok (.getfield 165, 3) := by decide +kernel
theorem dX9_tear_22 : decode cX9_tear 22 = .ok (.iadd, 1) := by decide +kernel
theorem dX9_tear_23 : decode cX9_tear 23 = .ok (.istore_n 1, 1) := by decide +kernel
theorem dX9_tear_24 : decode cX9_tear 24 = .ok (.aload_n 0, 1) := by decide +kernel
theorem dX9_tear_25 : decode cX9_tear 25 = .ok (.getfield 59, 3) := by decide +kernel
theorem dX9_tear_28 : decode cX9_tear 28 = .ok (.invokevirtual 106, 3) := by decide +kernel
theorem dX9_tear_31 : decode cX9_tear 31 = .ok (.iload_n 1, 1) := by decide +kernel
theorem dX9_tear_32 : decode cX9_tear 32 = .ok (.ireturn, 1) := by decide +kernel
theorem dX9_judge_0 : decode cX9_judge 0 = .ok (.aload_n 0, 1) := by decide +kernel
theorem dX9_judge_1 : decode cX9_judge 1 = .ok (.getfield 59, 3) := by decide +kernel
theorem dX9_judge_4 : decode cX9_judge 4 = .ok (.aload_n 0, 1) := by decide +kernel
theorem dX9_judge_5 : decode cX9_judge 5 = .ok (.getfield 19, 3) := by decide +kernel
theorem dX9_judge_8 : decode cX9_judge 8 = .ok (.aload_n 0, 1) := by decide +kernel
theorem dX9_judge_9 : decode cX9_judge 9 = .ok (.getfield 29, 3) := by decide +kernel
theorem dX9_judge_12 : decode cX9_judge 12 = .ok (.invokevirtual 299, 3) := by decide +kernel
theorem dX9_judge_15 : decode cX9_judge 15 = .ok (.ireturn, 1) := by decide +kernel
theorem dX9_seed_0 : decode cX9_seed 0 = .ok (.iload_n 1, 1) := by decide +kernel
theorem dX9_seed_1 : decode cX9_seed 1 = .ok (.ifCond .ge 6, 3) := by decide +kernel
theorem dX9_seed_4 : decode cX9_seed 4 = .ok (.ldc 86, 2) := by decide +kernel
theorem dX9_seed_6 : decode cX9_seed 6 = .ok (.ireturn, 1) := by decide +kernel
theorem dX9_seed_7 : decode cX9_seed 7 = .ok (.aload_n 0, 1) := by decide +kernel
theorem dX9_seed_8 : decode cX9_seed 8 = .ok (.getfield 52, 3) := by decide +kernel
theorem dX9_seed_11 : decode cX9_seed 11 = .ok (.getfield 303, 3) := by decide +kernel
theorem dX9_seed_14 : decode cX9_seed 14 = .ok (.istore_n 2, 1) := by decide +kernel
theorem dX9_seed_15 : decode cX9_seed 15 = .ok (.aload_n 0, 1) := by decide +kernel
theorem dX9_seed_16 : decode cX9_seed 16 = .ok (.getfield 52, 3) := by decide +kernel
theorem dX9_seed_19 : decode cX9_seed 19 = .ok (.iload_n 1, 1) := by decide +kernel
theorem dX9_seed_20 : decode cX9_seed 20 = .ok (.putfield 303, 3) := by decide +kernel
theorem dX9_seed_23 : decode cX9_seed 23 = .ok (.iload_n 2, 1) := by decide +kernel
theorem dX9_seed_24 : decode cX9_seed 24 = .ok (.ireturn, 1) := by decide +kernel
theorem dX9_keep_0 : decode cX9_keep 0 = .ok (.iload_n 1, 1) := by decide +kernel
theorem dX9_keep_1 : decode cX9_keep 1 = .ok (.iconst 0, 1) := by decide +kernel
theorem dX9_keep_2 : decode cX9_keep 2 = .ok (.iconst 1, 1) := by decide +kernel
theorem dX9_keep_3 : decode cX9_keep 3 = .ok (.invokestatic 82, 3) := by decide +kernel
theorem dX9_keep_6 : decode cX9_keep 6 = .ok (.ifCond .ne 6, 3) := by decide +kernel
theorem dX9_keep_9 : decode cX9_keep 9 = .ok (.ldc 175, 2) := by decide +kernel
theorem dX9_keep_11 : decode cX9_keep 11 = .ok (.ireturn, 1) := by decide +kernel
theorem dX9_keep_12 : decode cX9_keep 12 = .ok (.aload_n 0, 1) := by decide +kernel
theorem dX9_keep_13 : decode cX9_keep 13 = .ok (.getfield 45, 3) := by decide +kernel
theorem dX9_keep_16 : decode cX9_keep 16 = .ok (.iload_n 1, 1) := by decide +kernel
theorem dX9_keep_17 : decode cX9_keep 17 = .ok (.aaload, 1) := by decide +kernel
theorem dX9_keep_18 : decode cX9_keep 18 = .ok (.getfield 306, 3) := by decide +kernel
theorem dX9_keep_21 : decode cX9_keep 21 = .ok (.aload_n 0, 1) := by decide +kernel
theorem dX9_keep_22 : decode cX9_keep 22 = .ok (.getfield 29, 3) := by decide +kernel
theorem dX9_keep_25 : decode cX9_keep 25 = .ok (.invokevirtual 257, 3) := by decide +kernel
theorem dX9_keep_28 : decode cX9_keep 28 = .ok (.aload_n 0, 1) := by decide +kernel
theorem dX9_keep_29 : decode cX9_keep 29 = .ok (.getfield 45, 3) := by decide +kernel
theorem dX9_keep_32 : decode cX9_keep 32 = .ok (.iload_n 1, 1) := by decide +kernel
theorem dX9_keep_33 : decode cX9_keep 33 = .ok (.aaload, 1) := by decide +kernel
theorem dX9_keep_34 : decode cX9_keep 34 = .ok (.aload_n 0, 1) := by decide +kernel
theorem dX9_keep_35 : decode cX9_keep 35 = .ok (.getfield 52, 3) := by decide +kernel
theorem dX9_keep_38 : decode cX9_keep 38 = .ok (.getfield 303, 3) := by decide +kernel
theorem dX9_keep_41 : decode cX9_keep 41 = .ok (.putfield 309, 3) := by decide +kernel
theorem dX9_keep_44 : decode cX9_keep 44 = .ok (.aload_n 0, 1) := by decide +kernel
theorem dX9_keep_45 : decode cX9_keep 45 = .ok (.getfield 45, 3) := by decide +kernel
theorem dX9_keep_48 : decode cX9_keep 48 = .ok (.iload_n 1, 1) := by decide +kernel
theorem dX9_keep_49 : decode cX9_keep 49 = .ok (.aaload, 1) := by decide +kernel
theorem dX9_keep_50 : decode cX9_keep 50 = .ok (.iconst 1, 1) := by decide +kernel
theorem dX9_keep_51 : decode cX9_keep 51 = .ok (.putfield 109, 3) := by decide +kernel
theorem dX9_keep_54 : decode cX9_keep 54 = .ok (.aload_n 0, 1) := by decide +kernel
theorem dX9_keep_55 : decode cX9_keep 55 = .ok (.getfield 39, 3) := by decide +kernel
theorem dX9_keep_58 : decode cX9_keep 58 = .ok (.invokevirtual 103, 3) := by decide +kernel
theorem dX9_keep_61 : decode cX9_keep 61 = .ok (.iconst 1, 1) := by decide +kernel
theorem dX9_keep_62 : decode cX9_keep 62 = .ok (.ireturn, 1) := by decide +kernel
theorem dX9_goBack_0 : decode cX9_goBack 0 = .ok (.iload_n 1, 1) := by decide +kernel
theorem dX9_goBack_1 : decode cX9_goBack 1 = .ok (.iconst 0, 1) := by decide +kernel
theorem dX9_goBack_2 : decode cX9_goBack 2 = .ok (.iconst 1, 1) := by decide +kernel
theorem dX9_goBack_3 : decode cX9_goBack 3 = .ok (.invokestatic 82, 3) := by decide +kernel
theorem dX9_goBack_6 : decode cX9_goBack 6 = .ok (.ifCond .ne 6, 3) := by decide +kernel
theorem dX9_goBack_9 : decode cX9_goBack 9 = .ok (.ldc 175, 2) := by decide +kernel
theorem dX9_goBack_11 : decode cX9_goBack 11 = .ok (.ireturn, 1) := by decide +kernel
theorem dX9_goBack_12 : decode cX9_goBack 12 = .ok (.aload_n 0, 1) := by decide +kernel
theorem dX9_goBack_13 : decode cX9_goBack 13 = .ok (.getfield 45, 3) := by decide +kernel
theorem dX9_goBack_16 : decode cX9_goBack 16 = .ok (.iload_n 1, 1) := by decide +kernel
theorem dX9_goBack_17 : decode cX9_goBack 17 = .ok (.aaload, 1) := by decide +kernel
theorem dX9_goBack_18 : decode cX9_goBack 18 = .ok (.getfield 109, 3) := by decide +kernel
theorem dX9_goBack_21 : decode cX9_goBack 21 = .ok (.ifCond .ne 6, 3) := by decide +kernel
theorem dX9_goBack_24 : decode cX9_goBack 24 = .ok (.ldc 245, 2) := by decide +kernel
theorem dX9_goBack_26 : decode cX9_goBack 26 = .ok (.ireturn, 1) := by decide +kernel
theorem dX9_goBack_27 : decode cX9_goBack 27 = .ok (.aload_n 0, 1) := by decide +kernel
theorem dX9_goBack_28 : decode cX9_goBack 28 = .ok (.getfield 29, 3) := by decide +kernel
theorem dX9_goBack_31 : decode cX9_goBack 31 = .ok (.aload_n 0, 1) := by decide +kernel
theorem dX9_goBack_32 : decode cX9_goBack 32 = .ok (.getfield 45, 3) := by decide +kernel
theorem dX9_goBack_35 : decode cX9_goBack 35 = .ok (.iload_n 1, 1) := by decide +kernel
theorem dX9_goBack_36 : decode cX9_goBack 36 = .ok (.aaload, 1) := by decide +kernel
theorem dX9_goBack_37 : decode cX9_goBack 37 = .ok (.getfield 306, 3) := by decide +kernel
theorem dX9_goBack_40 : decode cX9_goBack 40 = .ok (.invokevirtual 257, 3) := by decide +kernel
theorem dX9_goBack_43 : decode cX9_goBack 43 = .ok (.aload_n 0, 1) := by decide +kernel
theorem dX9_goBack_44 : decode cX9_goBack 44 = .ok (.getfield 52, 3) := by decide +kernel
theorem dX9_goBack_47 : decode cX9_goBack 47 = .ok (.aload_n 0, 1) := by decide +kernel
theorem dX9_goBack_48 : decode cX9_goBack 48 = .ok (.getfield 45, 3) := by decide +kernel
theorem dX9_goBack_51 : decode cX9_goBack 51 = .ok (.iload_n 1, 1) := by decide +kernel
theorem dX9_goBack_52 : decode cX9_goBack 52 = .ok (.aaload, 1) := by decide +kernel
theorem dX9_goBack_53 : decode cX9_goBack 53 = .ok (.getfield 309, 3) := by decide +kernel
theorem dX9_goBack_56 : decode cX9_goBack 56 = .ok (.putfield 303, 3) := by decide +kernel
theorem dX9_goBack_59 : decode cX9_goBack 59 = .ok (.aload_n 0, 1) := by decide +kernel
theorem dX9_goBack_60 : decode cX9_goBack 60 = .ok (.getfield 39, 3) := by decide +kernel
theorem dX9_goBack_63 : decode cX9_goBack 63 = .ok (.invokevirtual 103, 3) := by decide +kernel
theorem dX9_goBack_66 : decode cX9_goBack 66 = .ok (.iconst 1, 1) := by decide +kernel
theorem dX9_goBack_67 : decode cX9_goBack 67 = .ok (.ireturn, 1) := by decide +kernel
theorem dX9_within_0 : decode cX9_within 0 = .ok (.iload_n 0, 1) := by decide +kernel
theorem dX9_within_1 : decode cX9_within 1 = .ok (.iload_n 1, 1) := by decide +kernel
theorem dX9_within_2 : decode cX9_within 2 = .ok (.if_icmp .lt 12, 3) := by decide +kernel
theorem dX9_within_5 : decode cX9_within 5 = .ok (.iload_n 0, 1) := by decide +kernel
theorem dX9_within_6 : decode cX9_within 6 = .ok (.iload_n 2, 1) := by decide +kernel
theorem dX9_within_7 : decode cX9_within 7 = .ok (.if_icmp .gt 7, 3) := by decide +kernel
theorem dX9_within_10 : decode cX9_within 10 = .ok (.iconst 1, 1) := by decide +kernel
theorem dX9_within_11 : decode cX9_within 11 = .ok (.goto 4, 3) := by decide +kernel
theorem dX9_within_14 : decode cX9_within 14 = .ok (.iconst 0, 1) := by decide +kernel
theorem dX9_within_15 : decode cX9_within 15 = .ok (.ireturn, 1) := by decide +kernel
theorem dX9_refusalOfHours_0 : decode cX9_refusalOfHours 0 = .ok (.iload_n 1, 1) := by decide +kernel
theorem dX9_refusalOfHours_1 : decode cX9_refusalOfHours 1 = .ok (.iconst 1, 1) := by decide +kernel
theorem dX9_refusalOfHours_2 : decode cX9_refusalOfHours 2 = .ok (.bipush 60, 2) := by decide +kernel
theorem dX9_refusalOfHours_4 : decode cX9_refusalOfHours 4 = .ok (.invokestatic 82, 3) := by decide +kernel
theorem dX9_refusalOfHours_7 : decode cX9_refusalOfHours 7 = .ok (.ifCond .ne 6, 3) := by decide +kernel
theorem dX9_refusalOfHours_10 : decode cX9_refusalOfHours 10 = .ok (.ldc 86, 2) := by decide +kernel
theorem dX9_refusalOfHours_12 : decode cX9_refusalOfHours 12 = .ok (.ireturn, 1) := by decide +kernel
theorem dX9_refusalOfHours_13 : decode cX9_refusalOfHours 13 = .ok (.aload_n 0, 1) := by decide +kernel
theorem dX9_refusalOfHours_14 : decode cX9_refusalOfHours 14 = .ok (.getfield 19, 3) := by decide +kernel
theorem dX9_refusalOfHours_17 : decode cX9_refusalOfHours 17 = .ok (.getfield 113, 3) := by decide +kernel
theorem dX9_refusalOfHours_20 : decode cX9_refusalOfHours 20 = .ok (.ifCond .ne 6, 3) := by decide +kernel
theorem dX9_refusalOfHours_23 : decode cX9_refusalOfHours 23 = .ok (.ldc 245, 2) := by decide +kernel
theorem dX9_refusalOfHours_25 : decode cX9_refusalOfHours 25 = .ok (.ireturn, 1) := by decide +kernel
theorem dX9_refusalOfHours_26 : decode cX9_refusalOfHours 26 = .ok (.aload_n 0, 1) := by decide +kernel
theorem dX9_refusalOfHours_27 : decode cX9_refusalOfHours 27 = .ok (.getfield 29, 3) := by decide +kernel
theorem dX9_refusalOfHours_30 : decode cX9_refusalOfHours 30 = .ok (.getfield 128, 3) := by decide +kernel
theorem dX9_refusalOfHours_33 : decode cX9_refusalOfHours 33 = .ok (.sipush 9000, 3) := by decide +kernel
theorem dX9_refusalOfHours_36 : decode cX9_refusalOfHours 36 = .ok (.if_icmp .le 9, 3) := by decide +kernel
theorem dX9_refusalOfHours_39 : decode cX9_refusalOfHours 39 = .ok (.ldc_w 310, 3) := by decide +kernel
theorem dX9_refusalOfHours_42 : decode cX9_refusalOfHours 42 = .ok (.goto 4, 3) := by decide +kernel
theorem dX9_refusalOfHours_45 : decode cX9_refusalOfHours 45 = .ok (.iconst 0, 1) := by decide +kernel
theorem dX9_refusalOfHours_46 : decode cX9_refusalOfHours 46 = .ok (.ireturn, 1) := by decide +kernel
theorem dX9_shareOf_0 : decode cX9_shareOf 0 = .ok (.iload_n 3, 1) := by decide +kernel
theorem dX9_shareOf_1 : decode cX9_shareOf 1 = .ok (.ifCond .le 18, 3) := by decide +kernel
theorem dX9_shareOf_4 : decode cX9_shareOf 4 = .ok (.aload_n 0, 1) := by decide +kernel
theorem dX9_shareOf_5 : decode cX9_shareOf 5 = .ok (.getfield 29, 3) := by decide +kernel
theorem dX9_shareOf_8 : decode cX9_shareOf 8 = .ok (.aload_n 0, 1) := by decide +kernel
theorem dX9_shareOf_9 : decode cX9_shareOf 9 = .ok (.getfield 19, 3) := by decide +kernel
theorem dX9_shareOf_12 : decode cX9_shareOf 12 = .ok (.iload_n 1, 1) := by decide +kernel
theorem dX9_shareOf_13 : decode cX9_shareOf 13 = .ok (.invokevirtual 184, 3) := by decide +kernel
theorem dX9_shareOf_16 : decode cX9_shareOf 16 = .ok (.ifCond .le 5, 3) := by decide +kernel
theorem dX9_shareOf_19 : decode cX9_shareOf 19 = .ok (.iconst 0, 1) := by decide +kernel
theorem dX9_shareOf_20 : decode cX9_shareOf 20 = .ok (.ireturn, 1) := by decide +kernel
theorem dX9_shareOf_21 : decode cX9_shareOf 21 = .ok (.iload_n 2, 1) := by decide +kernel
theorem dX9_shareOf_22 : decode cX9_shareOf 22 = .ok (.aload_n 0, 1) := by decide +kernel
theorem dX9_shareOf_23 : decode cX9_shareOf 23 = .ok (.getfield 19, 3) := by decide +kernel
theorem dX9_shareOf_26 : decode cX9_shareOf 26 = .ok (.getfield 176, 3) := by decide +kernel
theorem dX9_shareOf_29 : decode cX9_shareOf 29 = .ok (.iload_n 1, 1) := by decide +kernel
theorem dX9_shareOf_30 : decode cX9_shareOf 30 = .ok (.iaload, 1) := by decide +kernel
theorem dX9_shareOf_31 : decode cX9_shareOf 31 = .ok (.imul, 1) := by decide +kernel
theorem dX9_shareOf_32 : decode cX9_shareOf 32 = .ok (.iload_n 3, 1) := by decide +kernel
theorem dX9_shareOf_33 : decode cX9_shareOf 33 = .ok (.idiv, 1) := by decide +kernel
theorem dX9_shareOf_34 : decode cX9_shareOf 34 = .ok (.ireturn, 1) := by decide +kernel
end
section
theorem dX10_init_0 : decode cX10_init 0 = .ok (.aload_n 0, 1) := by decide +kernel
theorem dX10_init_1 : decode cX10_init 1 = .ok (.invokespecial 1, 3) := by decide +kernel
theorem dX10_init_4 : decode cX10_init 4 = .ok (.aload_n 0, 1) := by decide +kernel
theorem dX10_init_5 : decode cX10_init 5 = .ok (.bipush 44, 2) := by decide +kernel
theorem dX10_init_7 : decode cX10_init 7 = .ok (.newarray .int, 2) := by decide +kernel
theorem dX10_init_9 : decode cX10_init 9 = .ok (.putfield 7, 3) := by decide +kernel
theorem dX10_init_12 : decode cX10_init 12 = .ok (.aload_n 0, 1) := by decide +kernel
theorem dX10_init_13 : decode cX10_init 13 = .ok (.bipush 44, 2) := by decide +kernel
theorem dX10_init_15 : decode cX10_init 15 = .ok (.newarray .int, 2) := by decide +kernel
theorem dX10_init_17 : decode cX10_init 17 = .ok (.putfield 13, 3) := by decide +kernel
theorem dX10_init_20 : decode cX10_init 20 = .ok (.aload_n 0, 1) := by decide +kernel
theorem dX10_init_21 : decode cX10_init 21 = .ok (.bipush 24, 2) := by decide +kernel
theorem dX10_init_23 : decode cX10_init 23 = .ok (.newarray .int, 2) := by decide +kernel
theorem dX10_init_25 : decode cX10_init 25 = .ok (.putfield 16, 3) := by decide +kernel
theorem dX10_init_28 : decode cX10_init 28 = .ok (.aload_n 0, 1) := by decide +kernel
theorem dX10_init_29 : decode cX10_init 29 = .ok (.bipush 24, 2) := by decide +kernel
theorem dX10_init_31 : decode cX10_init 31 = .ok (.newarray .int, 2) := by decide +kernel
theorem dX10_init_33 : decode cX10_init 33 = .ok (.putfield 19, 3) := by decide +kernel
theorem dX10_init_36 : decode cX10_init 36 = .ok (.aload_n 0, 1) := by decide +kernel
theorem dX10_init_37 : decode cX10_init 37 = .ok (.sipush 384, 3) := by decide +kernel
theorem dX10_init_40 : decode cX10_init 40 = .ok (.newarray .int, 2) := by decide +kernel
theorem dX10_init_42 : decode cX10_init 42 = .ok (.putfield 22, 3) := by decide +kernel
theorem dX10_init_45 : decode cX10_init 45 = .ok (.aload_n 0, 1) := by decide +kernel
theorem dX10_init_46 : decode cX10_init 46 = .ok (.bipush 50, 2) := by decide +kernel
theorem dX10_init_48 : decode cX10_init 48 = .ok (.newarray .int, 2) := by decide +kernel
theorem dX10_init_50 : decode cX10_init 50 = .ok (.putfield 25, 3) := by decide +kernel
theorem dX10_init_53 : decode cX10_init 53 = .ok (.aload_n 0, 1) := by decide +kernel
theorem dX10_init_54 : decode cX10_init 54 = .ok (.iconst 2, 1) := by decide +kernel
theorem dX10_init_55 : decode cX10_init 55 = .ok (.newarray .boolean, 2) := by decide +kernel
theorem dX10_init_57 : decode cX10_init 57 = .ok (.putfield 28, 3) := by decide +kernel
theorem dX10_init_60 : decode cX10_init 60 = .ok (.aload_n 0, 1) := by decide +kernel
theorem dX10_init_61 : decode cX10_init 61 = .ok (.sipush 240, 3) := by decide +kernel
theorem dX10_init_64 : decode cX10_init 64 = .ok (.newarray .int, 2) := by decide +kernel
theorem dX10_init_66 : decode cX10_init 66 = .ok (.putfield 32, 3) := by decide +kernel
theorem dX10_init_69 : decode cX10_init 69 = .ok (.aload_n 0, 1) := by decide +kernel
theorem dX10_init_70 : decode cX10_init 70 = .ok (.iconst (-1), 1) := by decide +kernel
theorem dX10_init_71 : decode cX10_init 71 = .ok (.putfield 35, 3) := by decide +kernel
theorem dX10_init_74 : decode cX10_init 74 = .ok (.aload_n 0, 1) := by decide +kernel
theorem dX10_init_75 : decode cX10_init 75 = .ok (.bipush 18, 2) := by decide +kernel
theorem dX10_init_77 : decode cX10_init 77 = .ok (.newarray .int, 2) := by decide +kernel
theorem dX10_init_79 : decode cX10_init 79 = .ok (.putfield 39, 3) := by decide +kernel
theorem dX10_init_82 : decode cX10_init 82 = .ok (.aload_n 0, 1) := by decide +kernel
theorem dX10_init_83 : decode cX10_init 83 = .ok (.bipush 18, 2) := by decide +kernel
theorem dX10_init_85 : decode cX10_init 85 = .ok (.newarray .int, 2) := by decide +kernel
theorem dX10_init_87 : decode cX10_init 87 = .ok (.putfield 42, 3) := by decide +kernel
theorem dX10_init_90 : decode cX10_init 90 = .ok (.aload_n 0, 1) := by decide +kernel
theorem dX10_init_91 : decode cX10_init 91 = .ok (.bipush 30, 2) := by decide +kernel
theorem dX10_init_93 : decode cX10_init 93 = .ok (.newarray .int, 2) := by decide +kernel
theorem dX10_init_95 : decode cX10_init 95 = .ok (.putfield 45, 3) := by decide +kernel
theorem dX10_init_98 : decode cX10_init 98 = .ok (.aload_n 0, 1) := by decide +kernel
theorem dX10_init_99 : decode cX10_init 99 = .ok (.bipush 6, 2) := by decide +kernel
theorem dX10_init_101 : decode cX10_init 101 = .ok (.newarray .int, 2) := by decide +kernel
theorem dX10_init_103 : decode cX10_init 103 = .ok (.putfield 48, 3) := by decide +kernel
theorem dX10_init_106 : decode cX10_init 106 = .ok (.aload_n 0, 1) := by decide +kernel
theorem dX10_init_107 : decode cX10_init 107 = .ok (.bipush 6, 2) := by decide +kernel
theorem dX10_init_109 : decode cX10_init 109 = .ok (.newarray .int, 2) := by decide +kernel
theorem dX10_init_111 : decode cX10_init 111 = .ok (.putfield 51, 3) := by decide +kernel
theorem dX10_init_114 : decode cX10_init 114 = .ok (.aload_n 0, 1) := by decide +kernel
theorem dX10_init_115 : decode cX10_init 115 = .ok (.sipush 1200, 3) := by decide +kernel
theorem dX10_init_118 : decode cX10_init 118 = .ok (.newarray .int, 2) := by decide +kernel
theorem dX10_init_120 : decode cX10_init 120 = .ok (.putfield 54, 3) := by decide +kernel
theorem dX10_init_123 : decode cX10_init 123 = .ok (.aload_n 0, 1) := by decide +kernel
theorem dX10_init_124 : decode cX10_init 124 = .ok (.invokevirtual 57, 3) := by decide +kernel
theorem dX10_init_127 : decode cX10_init 127 = .ok (.return_, 1) := by decide +kernel
theorem dX10_in_0 : decode cX10_in 0 = .ok (.lload_n 0, 1) := by decide +kernel
theorem dX10_in_1 : decode cX10_in 1 = .ok (.lload_n 2, 1) := by decide +kernel
theorem dX10_in_2 : decode cX10_in 2 = .ok (.lcmp, 1) := by decide +kernel
theorem dX10_in_3 : decode cX10_in 3 = .ok (.ifCond .lt 14, 3) := by decide +kernel
theorem dX10_in_6 : decode cX10_in 6 = .ok (.lload_n 0, 1) := by decide +kernel
theorem dX10_in_7 : decode cX10_in 7 = .ok (.lload 4, 2) := by decide +kernel
theorem dX10_in_9 : decode cX10_in 9 = .ok (.lcmp, 1) := by decide +kernel
theorem dX10_in_10 : decode cX10_in 10 = .ok (.ifCond .gt 7, 3) := by decide +kernel
theorem dX10_in_13 : decode cX10_in 13 = .ok (.iconst 1, 1) := by decide +kernel
theorem dX10_in_14 : decode cX10_in 14 = .ok (.goto 4, 3) := by decide +kernel
theorem dX10_in_17 : decode cX10_in 17 = .ok (.iconst 0, 1) := by decide +kernel
theorem dX10_in_18 : decode cX10_in 18 = .ok (.ireturn, 1) := by decide +kernel
theorem dX10_has_0 : decode cX10_has 0 = .ok (.iload_n 0, 1) := by decide +kernel
theorem dX10_has_1 : decode cX10_has 1 = .ok (.iload_n 1, 1) := by decide +kernel
theorem dX10_has_2 : decode cX10_has 2 = .ok (.ishr, 1) := by decide +kernel
theorem dX10_has_3 : decode cX10_has 3 = .ok (.iconst 1, 1) := by decide +kernel
theorem dX10_has_4 : decode cX10_has 4 = .ok (.iand, 1) := by decide +kernel
theorem dX10_has_5 : decode cX10_has 5 = .ok (.iconst 1, 1) := by decide +kernel
theorem dX10_has_6 : decode cX10_has 6 = .ok (.if_icmp .ne 7, 3) := by decide +kernel
theorem dX10_has_9 : decode cX10_has 9 = .ok (.iconst 1, 1) := by decide +kernel
theorem dX10_has_10 : decode cX10_has 10 = .ok (.goto 4, 3) := by decide +kernel
theorem dX10_has_13 : decode cX10_has 13 = .ok (.iconst 0, 1) := by decide +kernel
theorem dX10_has_14 : decode cX10_has 14 = .ok (.ireturn, 1) := by decide +kernel
theorem dX10_bits_0 : decode cX10_bits 0 = .ok (.iconst 0, 1) := by decide +kernel
theorem dX10_bits_1 : decode cX10_bits 1 = .ok (.istore_n 1, 1) := by decide +kernel
theorem dX10_bits_2 : decode cX10_bits 2 = .ok (.iload_n 0, 1) := by decide +kernel
theorem dX10_bits_3 : decode cX10_bits 3 = .ok (.istore_n 2, 1) := by decide +kernel
theorem dX10_bits_4 : decode cX10_bits 4 = .ok (.iload_n 2, 1) := by decide +kernel
theorem dX10_bits_5 : decode cX10_bits 5 = .ok (.ifCond .eq 15, 3) := by decide +kernel
theorem dX10_bits_8 : decode cX10_bits 8 = .ok (.iinc 1 1, 3) := by decide +kernel
theorem dX10_bits_11 : decode cX10_bits 11 = .ok (.iload_n 2, 1) := by decide +kernel
theorem dX10_bits_12 : decode cX10_bits 12 = .ok (.iload_n 2, 1) := by decide +kernel
theorem dX10_bits_13 : decode cX10_bits 13 = .ok (.iconst 1, 1) := by decide +kernel
theorem dX10_bits_14 : decode cX10_bits 14 = .ok (.isub, 1) := by decide +kernel
theorem dX10_bits_15 : decode cX10_bits 15 = .ok (.iand, 1) := by decide +kernel
theorem dX10_bits_16 : decode cX10_bits 16 = .ok (.istore_n 2, 1) := by decide +kernel
theorem dX10_bits_17 : decode cX10_bits 17 = .ok (.goto (-13), 3) := by decide +kernel
theorem dX10_bits_20 : decode cX10_bits 20 = .ok (.iload_n 1, 1) := by decide +kernel
theorem dX10_bits_21 : decode cX10_bits 21 = .ok (.ireturn, 1) := by decide +kernel
theorem dX10_lesser_0 : decode cX10_lesser 0 = .ok (.iload_n 0, 1) := by decide +kernel
theorem dX10_lesser_1 : decode cX10_lesser 1 = .ok (.iload_n 1, 1) := by decide +kernel
theorem dX10_lesser_2 : decode cX10_lesser 2 = .ok (.if_icmp .ge 7, 3) := by decide +kernel
theorem dX10_lesser_5 : decode cX10_lesser 5 = .ok (.iload_n 0, 1) := by decide +kernel
theorem dX10_lesser_6 : decode cX10_lesser 6 = .ok (.goto 4, 3) := by decide +kernel
theorem dX10_lesser_9 : decode cX10_lesser 9 = .ok (.iload_n 1, 1) := by decide +kernel
theorem dX10_lesser_10 : decode cX10_lesser 10 = .ok (.ireturn, 1) := by decide +kernel
theorem dX10_greater_0 : decode cX10_greater 0 = .ok (.iload_n 0, 1) := by decide +kernel
theorem dX10_greater_1 : decode cX10_greater 1 = .ok (.iload_n 1, 1) := by decide +kernel
theorem dX10_greater_2 : decode cX10_greater 2 = .ok (.if_icmp .le 7, 3) := by decide +kernel
theorem dX10_greater_5 : decode cX10_greater 5 = .ok (.iload_n 0, 1) := by decide +kernel
theorem dX10_greater_6 : decode cX10_greater 6 = .ok (.goto 4, 3) := by decide +kernel
theorem dX10_greater_9 : decode cX10_greater 9 = .ok (.iload_n 1, 1) := by decide +kernel
theorem dX10_greater_10 : decode cX10_greater 10 = .ok (.ireturn, 1) := by decide +kernel
theorem dX10_copies_0 : decode cX10_copies 0 = .ok (.iconst 0, 1) := by decide +kernel
theorem dX10_copies_1 : decode cX10_copies 1 = .ok (.istore 5, 2) := by decide +kernel
theorem dX10_copies_3 : decode cX10_copies 3 = .ok (.iload 5, 2) := by decide +kernel
theorem dX10_copies_5 : decode cX10_copies 5 = .ok (.iload 4, 2) := by decide +kernel
theorem dX10_copies_7 : decode cX10_copies 7 = .ok (.if_icmp .ge 21, 3) := by decide +kernel
theorem dX10_copies_10 : decode cX10_copies 10 = .ok (.aload_n 2, 1) := by decide +kernel
theorem dX10_copies_11 : decode cX10_copies 11 = .ok (.iload_n 3, 1) := by decide +kernel
theorem dX10_copies_12 : decode cX10_copies 12 = .ok (.iload 5, 2) := by decide +kernel
theorem dX10_copies_14 : decode cX10_copies 14 = .ok (.iadd, 1) := by decide +kernel
theorem dX10_copies_15 : decode cX10_copies 15 = .ok (.aload_n 0, 1) := by decide +kernel
theorem dX10_copies_16 : decode cX10_copies 16 = .ok (.iload_n 1, 1) := by decide +kernel
theorem dX10_copies_17 : decode cX10_copies 17 = .ok (.iload 5, 2) := by decide +kernel
theorem dX10_copies_19 : decode cX10_copies 19 = .ok (.iadd, 1) := by decide +kernel
theorem dX10_copies_20 : decode cX10_copies 20 = .ok (.iaload, 1) := by decide +kernel
theorem dX10_copies_21 : decode cX10_copies 21 = .ok (.iastore, 1) := by decide +kernel
theorem dX10_copies_22 : decode cX10_copies 22 = .ok (.iinc 5 1, 3) := by decide +kernel
theorem dX10_copies_25 : decode cX10_copies 25 = .ok (.goto (-22), 3) := by decide +kernel
theorem dX10_copies_28 : decode cX10_copies 28 = .ok (.return_, 1) := by decide +kernel
theorem dX10_begins_0 : decode cX10_begins 0 = .ok (.iconst 0, 1) := by decide +kernel
theorem dX10_begins_1 : decode cX10_begins 1 = .ok (.istore_n 1, 1) := by decide +kernel
theorem dX10_begins_2 : decode cX10_begins 2 = .ok (.iload_n 1, 1) := by decide +kernel
theorem dX10_begins_3 : decode cX10_begins 3 = .ok (.bipush 24, 2) := by decide +kernel
theorem dX10_begins_5 : decode cX10_begins 5 = .ok (.if_icmp .ge 34, 3) := by decide +kernel
theorem dX10_begins_8 : decode cX10_begins 8 = .ok (.aload_n 0, 1) := by decide +kernel
theorem dX10_begins_9 : decode cX10_begins 9 = .ok (.getfield 16, 3) := by decide +kernel
theorem dX10_begins_12 : decode cX10_begins 12 = .ok (.iload_n 1, 1) := by decide +kernel
theorem dX10_begins_13 : decode cX10_begins 13 = .ok (.iload_n 1, 1) := by decide +kernel
theorem dX10_begins_14 : decode cX10_begins 14 = .ok (.i2l, 1) := by decide +kernel
theorem dX10_begins_15 : decode cX10_begins 15 = .ok (.ldc2_w 60, 3) := by decide +kernel
theorem dX10_begins_18 : decode cX10_begins 18 = .ok (.ldc2_w 62, 3) := by decide +kernel
theorem dX10_begins_21 : decode cX10_begins 21 = .ok (.invokestatic 64, 3) := by decide +kernel
theorem dX10_begins_24 : decode cX10_begins 24 = .ok (.ifCond .eq 7, 3) := by decide +kernel
theorem dX10_begins_27 : decode cX10_begins 27 = .ok (.iconst (-1), 1) := by decide +kernel
theorem dX10_begins_28 : decode cX10_begins 28 = .ok (.goto 4, 3) := by decide +kernel
theorem dX10_begins_31 : decode cX10_begins 31 = .ok (.iconst 0, 1) := by decide +kernel
theorem dX10_begins_32 : decode cX10_begins 32 = .ok (.iastore, 1) := by decide +kernel
theorem dX10_begins_33 : decode cX10_begins 33 = .ok (.iinc 1 1, 3) := by decide +kernel
theorem dX10_begins_36 : decode cX10_begins 36 = .ok (.goto (-34), 3) := by decide +kernel
theorem dX10_begins_39 : decode cX10_begins 39 = .ok (.aload_n 0, 1) := by decide +kernel
theorem dX10_begins_40 : decode cX10_begins 40 = .ok (.getfield 7, 3) := by decide +kernel
theorem dX10_begins_43 : decode cX10_begins 43 = .ok (.bipush 36, 2) := by decide +kernel
theorem dX10_begins_45 : decode cX10_begins 45 = .ok (.aload_n 0, 1) := by decide +kernel
theorem dX10_begins_46 : decode cX10_begins 46 = .ok (.getfield 16, 3) := by decide +kernel
theorem dX10_begins_49 : decode cX10_begins 49 = .ok (.bipush 19, 2) := by decide +kernel
theorem dX10_begins_51 : decode cX10_begins 51 = .ok (.iconst 4, 1) := by decide +kernel
theorem dX10_begins_52 : decode cX10_begins 52 = .ok (.invokestatic 68, 3) := by decide +kernel
theorem dX10_begins_55 : decode cX10_begins 55 = .ok (.aload_n 0, 1) := by decide +kernel
theorem dX10_begins_56 : decode cX10_begins 56 = .ok (.iconst 0, 1) := by decide +kernel
theorem dX10_begins_57 : decode cX10_begins 57 = .ok (.putfield 72, 3) := by decide +kernel
theorem dX10_begins_60 : decode cX10_begins 60 = .ok (.aload_n 0, 1) := by decide +kernel
theorem dX10_begins_61 : decode cX10_begins 61 = .ok (.iconst 0, 1) := by decide +kernel
theorem dX10_begins_62 : decode cX10_begins 62 = .ok (.putfield 75, 3) := by decide +kernel
theorem dX10_begins_65 : decode cX10_begins 65 = .ok (.aload_n 0, 1) := by decide +kernel
theorem dX10_begins_66 : decode cX10_begins 66 = .ok (.iconst 0, 1) := by decide +kernel
theorem dX10_begins_67 : decode cX10_begins 67 = .ok (.putfield 78, 3) := by decide +kernel
theorem dX10_begins_70 : decode cX10_begins 70 = .ok (.aload_n 0, 1) := by decide +kernel
theorem dX10_begins_71 : decode cX10_begins 71 = .ok (.iconst 0, 1) := by decide +kernel
theorem dX10_begins_72 : decode cX10_begins 72 = .ok (.putfield 81, 3) := by decide +kernel
theorem dX10_begins_75 : decode cX10_begins 75 = .ok (.aload_n 0, 1) := by decide +kernel
theorem dX10_begins_76 : decode cX10_begins 76 = .ok (.getfield 28, 3) := by decide +kernel
theorem dX10_begins_79 : decode cX10_begins 79 = .ok (.iconst 0, 1) := by decide +kernel
theorem dX10_begins_80 : decode cX10_begins 80 = .ok (.iconst 0, 1) := by decide +kernel
theorem dX10_begins_81 : decode cX10_begins 81 = .ok (.bastore, 1) := by decide +kernel
theorem dX10_begins_82 : decode cX10_begins 82 = .ok (.aload_n 0, 1) := by decide +kernel
theorem dX10_begins_83 : decode cX10_begins 83 = .ok (.getfield 28, 3) := by decide +kernel
theorem dX10_begins_86 : decode cX10_begins 86 = .ok (.iconst 1, 1) := by decide +kernel
theorem dX10_begins_87 : decode cX10_begins 87 = .ok (.iconst 0, 1) := by decide +kernel
theorem dX10_begins_88 : decode cX10_begins 88 = .ok (.bastore, 1) := by decide +kernel
theorem dX10_begins_89 : decode cX10_begins 89 = .ok (.return_, 1) := by decide +kernel
theorem dX10_feed_0 : decode cX10_feed 0 = .ok (.iload_n 1, 1) := by decide +kernel
theorem dX10_feed_1 : decode cX10_feed 1 = .ok (.i2l, 1) := by decide +kernel
theorem dX10_feed_2 : decode cX10_feed 2 = .ok (.lconst 0, 1) := by decide +kernel
theorem dX10_feed_3 : decode cX10_feed 3 = .ok (.ldc2_w 84, 3) := by decide +kernel
theorem dX10_feed_6 : decode cX10_feed 6 = .ok (.invokestatic 64, 3) := by decide +kernel
theorem dX10_feed_9 : decode cX10_feed 9 = .ok (.ifCond .ne 6, 3) := by decide +kernel
theorem dX10_feed_12 : decode cX10_feed 12 = .ok (.ldc 86, 2) := by decide +kernel
theorem dX10_feed_14 : decode cX10_feed 14 = .ok (.ireturn, 1) := by decide +kernel
theorem dX10_feed_15 : decode cX10_feed 15 = .ok (.aload_n 0, 1) := by decide +kernel
theorem dX10_feed_16 : decode cX10_feed 16 = .ok (.getfield 87, 3) := by decide +kernel
theorem dX10_feed_19 : decode cX10_feed 19 = .ok (.sipush 240, 3) := by decide +kernel
theorem dX10_feed_22 : decode cX10_feed 22 = .ok (.if_icmp .ne 6, 3) := by decide +kernel
theorem dX10_feed_25 : decode cX10_feed 25 = .ok (.ldc 90, 2) := by decide +kernel
theorem dX10_feed_27 : decode cX10_feed 27 = .ok (.ireturn, 1) := by decide +kernel
theorem dX10_feed_28 : decode cX10_feed 28 = .ok (.aload_n 0, 1) := by decide +kernel
theorem dX10_feed_29 : decode cX10_feed 29 = .ok (.getfield 32, 3) := by decide +kernel
theorem dX10_feed_32 : decode cX10_feed 32 = .ok (.aload_n 0, 1) := by decide +kernel
theorem dX10_feed_33 : decode cX10_feed 33 = .ok (.getfield 87, 3) := by decide +kernel
theorem dX10_feed_36 : decode cX10_feed 36 = .ok (.iload_n 1, 1) := by decide +kernel
theorem dX10_feed_37 : decode cX10_feed 37 = .ok (.iastore, 1) := by decide +kernel
theorem dX10_feed_38 : decode cX10_feed 38 = .ok (.aload_n 0, 1) := by decide +kernel
theorem dX10_feed_39 : decode cX10_feed 39 = .ok (.dup, 1) := by decide +kernel
theorem dX10_feed_40 : decode cX10_feed 40 = .ok (.getfield 87, 3) := by decide +kernel
theorem dX10_feed_43 : decode cX10_feed 43 = .ok (.iconst 1, 1) := by decide +kernel
theorem dX10_feed_44 : decode cX10_feed 44 = .ok (.iadd, 1) := by decide +kernel
theorem dX10_feed_45 : decode cX10_feed 45 = .ok (.putfield 87, 3) := by decide +kernel
theorem dX10_feed_48 : decode cX10_feed 48 = .ok (.aload_n 0, 1) := by decide +kernel
theorem dX10_feed_49 : decode cX10_feed 49 = .ok (.getfield 87, 3) := by decide +kernel
theorem dX10_feed_52 : decode cX10_feed 52 = .ok (.ireturn, 1) := by decide +kernel
theorem dX10_here_0 : decode cX10_here 0 = .ok (.aload_n 0, 1) := by decide +kernel
theorem dX10_here_1 : decode cX10_here 1 = .ok (.getfield 91, 3) := by decide +kernel
theorem dX10_here_4 : decode cX10_here 4 = .ok (.aload_n 0, 1) := by decide +kernel
theorem dX10_here_5 : decode cX10_here 5 = .ok (.getfield 87, 3) := by decide +kernel
theorem dX10_here_8 : decode cX10_here 8 = .ok (.if_icmp .ge 15, 3) := by decide +kernel
theorem dX10_here_11 : decode cX10_here 11 = .ok (.aload_n 0, 1) := by decide +kernel
theorem dX10_here_12 : decode cX10_here 12 = .ok (.getfield 32, 3) := by decide +kernel
theorem dX10_here_15 : decode cX10_here 15 = .ok (.aload_n 0, 1) := by decide +kernel
theorem dX10_here_16 : decode cX10_here 16 = .ok (.getfield 91, 3) := by decide +kernel
theorem dX10_here_19 : decode cX10_here 19 = .ok (.iaload, 1) := by decide +kernel
theorem dX10_here_20 : decode cX10_here 20 = .ok (.goto 4, 3) := by decide +kernel
theorem dX10_here_23 : decode cX10_here 23 = .ok (.iconst (-1), 1) := by decide +kernel
theorem dX10_here_24 : decode cX10_here 24 = .ok (.ireturn, 1) := by decide +kernel
theorem dX10_step_0 : decode cX10_step 0 = .ok (.aload_n 0, 1) := by decide +kernel
theorem dX10_step_1 : decode cX10_step 1 = .ok (.invokevirtual 94, 3) := by decide +kernel
theorem dX10_step_4 : decode cX10_step 4 = .ok (.bipush 32, 2) := by decide +kernel
theorem dX10_step_6 : decode cX10_step 6 = .ok (.if_icmp .ne 16, 3) := by decide +kernel
theorem dX10_step_9 : decode cX10_step 9 = .ok (.aload_n 0, 1) := by decide +kernel
theorem dX10_step_10 : decode cX10_step 10 = .ok (.dup, 1) := by decide +kernel
theorem dX10_step_11 : decode cX10_step 11 = .ok (.getfield 91, 3) := by decide +kernel
theorem dX10_step_14 : decode cX10_step 14 = .ok (.iconst 1, 1) := by decide +kernel
theorem dX10_step_15 : decode cX10_step 15 = .ok (.iadd, 1) := by decide +kernel
theorem dX10_step_16 : decode cX10_step 16 = .ok (.putfield 91, 3) := by decide +kernel
theorem dX10_step_19 : decode cX10_step 19 = .ok (.goto (-19), 3) := by decide +kernel
theorem dX10_step_22 : decode cX10_step 22 = .ok (.aload_n 0, 1) := by decide +kernel
theorem dX10_step_23 : decode cX10_step 23 = .ok (.aload_n 0, 1) := by decide +kernel
theorem dX10_step_24 : decode cX10_step 24 = .ok (.getfield 91, 3) := by decide +kernel
theorem dX10_step_27 : decode cX10_step 27 = .ok (.putfield 98, 3) := by decide +kernel
theorem dX10_step_30 : decode cX10_step 30 = .ok (.aload_n 0, 1) := by decide +kernel
theorem dX10_step_31 : decode cX10_step 31 = .ok (.aload_n 0, 1) := by decide +kernel
theorem dX10_step_32 : decode cX10_step 32 = .ok (.invokevirtual 94, 3) := by decide +kernel
theorem dX10_step_35 : decode cX10_step 35 = .ok (.putfield 101, 3) := by decide +kernel
theorem dX10_step_38 : decode cX10_step 38 = .ok (.aload_n 0, 1) := by decide +kernel
theorem dX10_step_39 : decode cX10_step 39 = .ok (.iconst 0, 1) := by decide +kernel
theorem dX10_step_40 : decode cX10_step 40 = .ok (.putfield 104, 3) := by decide +kernel
theorem dX10_step_43 : decode cX10_step 43 = .ok (.aload_n 0, 1) := by decide +kernel
theorem dX10_step_44 : decode cX10_step 44 = .ok (.iconst 0, 1) := by decide +kernel
theorem dX10_step_45 : decode cX10_step 45 = .ok (.putfield 107, 3) := by decide +kernel
theorem dX10_step_48 : decode cX10_step 48 = .ok (.aload_n 0, 1) := by decide +kernel
theorem dX10_step_49 : decode cX10_step 49 = .ok (.getfield 101, 3) := by decide +kernel
theorem dX10_step_52 : decode cX10_step 52 = .ok (.i2l, 1) := by decide +kernel
theorem dX10_step_53 : decode cX10_step 53 = .ok (.ldc2_w 110, 3) := by decide +kernel
theorem dX10_step_56 : decode cX10_step 56 = .ok (.ldc2_w 112, 3) := by decide +kernel
theorem dX10_step_59 : decode cX10_step 59 = .ok (.invokestatic 64, 3) := by decide +kernel
theorem dX10_step_62 : decode cX10_step 62 = .ok (.ifCond .ne 25, 3) := by decide +kernel
theorem dX10_step_65 : decode cX10_step 65 = .ok (.aload_n 0, 1) := by decide +kernel
theorem dX10_step_66 : decode cX10_step 66 = .ok (.dup, 1) := by decide +kernel
theorem dX10_step_67 : decode cX10_step 67 = .ok (.getfield 91, 3) := by decide +kernel
theorem dX10_step_70 : decode cX10_step 70 = .ok (.aload_n 0, 1) := by decide +kernel
theorem dX10_step_71 : decode cX10_step 71 = .ok (.getfield 101, 3) := by decide +kernel
theorem dX10_step_74 : decode cX10_step 74 = .ok (.ifCond .ge 7, 3) := by decide +kernel
theorem dX10_step_77 : decode cX10_step 77 = .ok (.iconst 0, 1) := by decide +kernel
theorem dX10_step_78 : decode cX10_step 78 = .ok (.goto 4, 3) := by decide +kernel
theorem dX10_step_81 : decode cX10_step 81 = .ok (.iconst 1, 1) := by decide +kernel
theorem dX10_step_82 : decode cX10_step 82 = .ok (.iadd, 1) := by decide +kernel
theorem dX10_step_83 : decode cX10_step 83 = .ok (.putfield 91, 3) := by decide +kernel
theorem dX10_step_86 : decode cX10_step 86 = .ok (.return_, 1) := by decide +kernel
theorem dX10_step_87 : decode cX10_step 87 = .ok (.aload_n 0, 1) := by decide +kernel
theorem dX10_step_88 : decode cX10_step 88 = .ok (.bipush 48, 2) := by decide +kernel
theorem dX10_step_90 : decode cX10_step 90 = .ok (.putfield 101, 3) := by decide +kernel
theorem dX10_step_93 : decode cX10_step 93 = .ok (.aload_n 0, 1) := by decide +kernel
theorem dX10_step_94 : decode cX10_step 94 = .ok (.invokevirtual 94, 3) := by decide +kernel
theorem dX10_step_97 : decode cX10_step 97 = .ok (.i2l, 1) := by decide +kernel
theorem dX10_step_98 : decode cX10_step 98 = .ok (.ldc2_w 110, 3) := by decide +kernel
theorem dX10_step_101 : decode cX10_step 101 = .ok (.ldc2_w 112, 3) := by decide +kernel
theorem dX10_step_104 : decode cX10_step 104 = .ok (.invokestatic 64, 3) := by decide +kernel
theorem dX10_step_107 : decode cX10_step 107 = .ok (.ifCond .eq 60, 3) := by decide +kernel
theorem dX10_step_110 : decode cX10_step 110 = .ok (.aload_n 0, 1) := by decide +kernel
theorem dX10_step_111 : decode cX10_step 111 = .ok (.aload_n 0, 1) := by decide +kernel
theorem dX10_step_112 : decode cX10_step 112 = .ok (.getfield 104, 3) := by decide +kernel
theorem dX10_step_115 : decode cX10_step 115 = .ok (.iconst 3, 1) := by decide +kernel
theorem dX10_step_116 : decode cX10_step 116 = .ok (.if_icmp .ge 21, 3) := by decide +kernel
theorem dX10_step_119 : decode cX10_step 119 = .ok (.bipush 10, 2) := by decide +kernel
theorem dX10_step_121 : decode cX10_step 121 = .ok (.aload_n 0, 1) := by decide +kernel
theorem dX10_step_122 : decode cX10_step 122 = .ok (.getfield 107, 3) := by decide +kernel
theorem dX10_step_125 : decode cX10_step 125 = .ok (.imul, 1) := by decide +kernel
theorem dX10_step_126 : decode cX10_step 126 = .ok (.aload_n 0, 1) := by decide +kernel
theorem dX10_step_127 : decode cX10_step 127 = .ok (.invokevirtual 94, 3) := by decide +kernel
theorem dX10_step_130 : decode cX10_step 130 = .ok (.iadd, 1) := by decide +kernel
theorem dX10_step_131 : decode cX10_step 131 = .ok (.bipush 48, 2) := by decide +kernel
theorem dX10_step_133 : decode cX10_step 133 = .ok (.isub, 1) := by decide +kernel
theorem dX10_step_134 : decode cX10_step 134 = .ok (.goto 7, 3) := by decide +kernel
theorem dX10_step_137 : decode cX10_step 137 = .ok (.aload_n 0, 1) := by decide +kernel
theorem dX10_step_138 : decode cX10_step 138 = .ok (.getfield 107, 3) := by decide +kernel
theorem dX10_step_141 : decode cX10_step 141 = .ok (.putfield 107, 3) := by decide +kernel
theorem dX10_step_144 : decode cX10_step 144 = .ok (.aload_n 0, 1) := by decide +kernel
theorem dX10_step_145 : decode cX10_step 145 = .ok (.dup, 1) := by decide +kernel
theorem dX10_step_146 : decode cX10_step 146 = .ok (.getfield 104, 3) := by decide +kernel
theorem dX10_step_149 : decode cX10_step 149 = .ok (.iconst 1, 1) := by decide +kernel
theorem dX10_step_150 : decode cX10_step 150 = .ok (.iadd, 1) := by decide +kernel
theorem dX10_step_151 : decode cX10_step 151 = .ok (.putfield 104, 3) := by decide +kernel
theorem dX10_step_154 : decode cX10_step 154 = .ok (.aload_n 0, 1) := by decide +kernel
theorem dX10_step_155 : decode cX10_step 155 = .ok (.dup, 1) := by decide +kernel
theorem dX10_step_156 : decode cX10_step 156 = .ok (.getfield 91, 3) := by decide +kernel
theorem dX10_step_159 : decode cX10_step 159 = .ok (.iconst 1, 1) := by decide +kernel
theorem dX10_step_160 : decode cX10_step 160 = .ok (.iadd, 1) := by decide +kernel
theorem dX10_step_161 : decode cX10_step 161 = .ok (.putfield 91, 3) := by decide +kernel
theorem dX10_step_164 : decode cX10_step 164 = .ok (.goto (-71), 3) := by decide +kernel
theorem dX10_step_167 : decode cX10_step 167 = .ok (.return_, 1) := by decide +kernel
theorem dX10_fails_0 : decode cX10_fails 0 = .ok (.aload_n 0, 1) := by decide +kernel
theorem dX10_fails_1 : decode cX10_fails 1 = .ok (.iload_n 1, 1) := by decide +kernel
theorem dX10_fails_2 : decode cX10_fails 2 = .ok (.putfield 114, 3) := by decide +kernel
theorem dX10_fails_5 : decode cX10_fails 5 = .ok (.iconst 0, 1) := by decide +kernel
theorem dX10_fails_6 : decode cX10_fails 6 = .ok (.ireturn, 1) := by decide +kernel
theorem dX10_number_0 : decode cX10_number 0 = .ok (.aload_n 0, 1) := by decide +kernel
theorem dX10_number_1 : decode cX10_number 1 = .ok (.invokevirtual 117, 3) := by decide +kernel
theorem dX10_number_4 : decode cX10_number 4 = .ok (.aload_n 0, 1) := by decide +kernel
theorem dX10_number_5 : decode cX10_number 5 = .ok (.getfield 101, 3) := by decide +kernel
theorem dX10_number_8 : decode cX10_number 8 = .ok (.bipush 48, 2) := by decide +kernel
theorem dX10_number_10 : decode cX10_number 10 = .ok (.if_icmp .eq 9, 3) := by decide +kernel
theorem dX10_number_13 : decode cX10_number 13 = .ok (.aload_n 0, 1) := by decide +kernel
theorem dX10_number_14 : decode cX10_number 14 = .ok (.iconst 1, 1) := by decide +kernel
theorem dX10_number_15 : decode cX10_number 15 = .ok (.invokevirtual 120, 3) := by decide +kernel
theorem dX10_number_18 : decode cX10_number 18 = .ok (.ireturn, 1) := by decide +kernel
theorem dX10_number_19 : decode cX10_number 19 = .ok (.aload_n 0, 1) := by decide +kernel
theorem dX10_number_20 : decode cX10_number 20 = .ok (.getfield 104, 3) := by decide +kernel
theorem dX10_number_23 : decode cX10_number 23 = .ok (.iconst 3, 1) := by decide +kernel
theorem dX10_number_24 : decode cX10_number 24 = .ok (.if_icmp .gt 18, 3) := by decide +kernel
theorem dX10_number_27 : decode cX10_number 27 = .ok (.aload_n 0, 1) := by decide +kernel
theorem dX10_number_28 : decode cX10_number 28 = .ok (.getfield 107, 3) := by decide +kernel
theorem dX10_number_31 : decode cX10_number 31 = .ok (.i2l, 1) := by decide +kernel
theorem dX10_number_32 : decode cX10_number 32 = .ok (.iload_n 2, 1) := by decide +kernel
theorem dX10_number_33 : decode cX10_number 33 = .ok (.i2l, 1) := by decide +kernel
theorem dX10_number_34 : decode cX10_number 34 = .ok (.iload_n 3, 1) := by decide +kernel
theorem dX10_number_35 : decode cX10_number 35 = .ok (.i2l, 1) := by decide +kernel
theorem dX10_number_36 : decode cX10_number 36 = .ok (.invokestatic 64, 3) := by decide +kernel
theorem dX10_number_39 : decode cX10_number 39 = .ok (.ifCond .ne 9, 3) := by decide +kernel
theorem dX10_number_42 : decode cX10_number 42 = .ok (.aload_n 0, 1) := by decide +kernel
theorem dX10_number_43 : decode cX10_number 43 = .ok (.iconst 2, 1) := by decide +kernel
theorem dX10_number_44 : decode cX10_number 44 = .ok (.invokevirtual 120, 3) := by decide +kernel
theorem dX10_number_47 : decode cX10_number 47 = .ok (.ireturn, 1) := by decide +kernel
theorem dX10_number_48 : decode cX10_number 48 = .ok (.aload_n 0, 1) := by decide +kernel
theorem dX10_number_49 : decode cX10_number 49 = .ok (.getfield 13, 3) := by decide +kernel
theorem dX10_number_52 : decode cX10_number 52 = .ok (.iload_n 1, 1) := by decide +kernel
theorem dX10_number_53 : decode cX10_number 53 = .ok (.aload_n 0, 1) := by decide +kernel
theorem dX10_number_54 : decode cX10_number 54 = .ok (.getfield 107, 3) := by decide +kernel
theorem dX10_number_57 : decode cX10_number 57 = .ok (.iastore, 1) := by decide +kernel
theorem dX10_number_58 : decode cX10_number 58 = .ok (.iconst 1, 1) := by decide +kernel
theorem dX10_number_59 : decode cX10_number 59 = .ok (.ireturn, 1) := by decide +kernel
theorem dX10_ends_0 : decode cX10_ends 0 = .ok (.aload_n 0, 1) := by decide +kernel
theorem dX10_ends_1 : decode cX10_ends 1 = .ok (.invokevirtual 117, 3) := by decide +kernel
theorem dX10_ends_4 : decode cX10_ends 4 = .ok (.aload_n 0, 1) := by decide +kernel
theorem dX10_ends_5 : decode cX10_ends 5 = .ok (.getfield 101, 3) := by decide +kernel
theorem dX10_ends_8 : decode cX10_ends 8 = .ok (.bipush 59, 2) := by decide +kernel
theorem dX10_ends_10 : decode cX10_ends 10 = .ok (.if_icmp .eq 11, 3) := by decide +kernel
theorem dX10_ends_13 : decode cX10_ends 13 = .ok (.aload_n 0, 1) := by decide +kernel
theorem dX10_ends_14 : decode cX10_ends 14 = .ok (.iconst 1, 1) := by decide +kernel
theorem dX10_ends_15 : decode cX10_ends 15 = .ok (.invokevirtual 120, 3) := by decide +kernel
theorem dX10_ends_18 : decode cX10_ends 18 = .ok (.ifCond .eq 7, 3) := by decide +kernel
theorem dX10_ends_21 : decode cX10_ends 21 = .ok (.iconst 1, 1) := by decide +kernel
theorem dX10_ends_22 : decode cX10_ends 22 = .ok (.goto 4, 3) := by decide +kernel
theorem dX10_ends_25 : decode cX10_ends 25 = .ok (.iconst 0, 1) := by decide +kernel
theorem dX10_ends_26 : decode cX10_ends 26 = .ok (.ireturn, 1) := by decide +kernel
theorem dX10_readsCells_0 : decode cX10_readsCells 0 = .ok (.aload_n 0, 1) := by decide +kernel
theorem dX10_readsCells_1 : decode cX10_readsCells 1 = .ok (.getfield 13, 3) := by decide +kernel
theorem dX10_readsCells_4 : decode cX10_readsCells 4 = .ok (.iconst 0, 1) := by decide +kernel
theorem dX10_readsCells_5 : decode cX10_readsCells 5 = .ok (.iaload, 1) := by decide +kernel
theorem dX10_readsCells_6 : decode cX10_readsCells 6 = .ok (.ifCond .le 9, 3) := by decide +kernel
theorem dX10_readsCells_9 : decode cX10_readsCells 9 = .ok (.aload_n 0, 1) := by decide +kernel
theorem dX10_readsCells_10 : decode cX10_readsCells 10 = .ok (.iconst 3, 1) := by decide +kernel
theorem dX10_readsCells_11 : decode cX10_readsCells 11 = .ok (.invokevirtual 120, 3) := by decide +kernel
theorem dX10_readsCells_14 : decode cX10_readsCells 14 = .ok (.ireturn, 1) := by decide +kernel
theorem dX10_readsCells_15 : decode cX10_readsCells 15 = .ok (.iconst 1, 1) := by decide +kernel
theorem dX10_readsCells_16 : decode cX10_readsCells 16 = .ok (.istore_n 1, 1) := by decide +kernel
theorem dX10_readsCells_17 : decode cX10_readsCells 17 = .ok (.iload_n 1, 1) := by decide +kernel
theorem dX10_readsCells_18 : decode cX10_readsCells 18 = .ok (.ifCond .eq 73, 3) := by decide +kernel
theorem dX10_readsCells_21 : decode cX10_readsCells 21 = .ok (.aload_n 0, 1) := by decide +kernel
theorem dX10_readsCells_22 : decode cX10_readsCells 22 = .ok (.iconst 4, 1) := by decide +kernel
theorem dX10_readsCells_23 : decode cX10_readsCells 23 = .ok (.aload_n 0, 1) := by decide +kernel
theorem dX10_readsCells_24 : decode cX10_readsCells 24 = .ok (.getfield 13, 3) := by decide +kernel
theorem dX10_readsCells_27 : decode cX10_readsCells 27 = .ok (.iconst 0, 1) := by decide +kernel
theorem dX10_readsCells_28 : decode cX10_readsCells 28 = .ok (.iaload, 1) := by decide +kernel
theorem dX10_readsCells_29 : decode cX10_readsCells 29 = .ok (.iadd, 1) := by decide +kernel
theorem dX10_readsCells_30 : decode cX10_readsCells 30 = .ok (.iconst 0, 1) := by decide +kernel
theorem dX10_readsCells_31 : decode cX10_readsCells 31 = .ok (.bipush 60, 2) := by decide +kernel
theorem dX10_readsCells_33 : decode cX10_readsCells 33 = .ok (.invokevirtual 124, 3) := by decide +kernel
theorem dX10_readsCells_36 : decode cX10_readsCells 36 = .ok (.ifCond .ne 5, 3) := by decide +kernel
theorem dX10_readsCells_39 : decode cX10_readsCells 39 = .ok (.iconst 0, 1) := by decide +kernel
theorem dX10_readsCells_40 : decode cX10_readsCells 40 = .ok (.ireturn, 1) := by decide +kernel
theorem dX10_readsCells_41 : decode cX10_readsCells 41 = .ok (.aload_n 0, 1) := by decide +kernel
theorem dX10_readsCells_42 : decode cX10_readsCells 42 = .ok (.getfield 13, 3) := by decide +kernel
theorem dX10_readsCells_45 : decode cX10_readsCells 45 = .ok (.iconst 0, 1) := by decide +kernel
theorem dX10_readsCells_46 : decode cX10_readsCells 46 = .ok (.dup2, 1) := by decide +kernel
theorem dX10_readsCells_47 : decode cX10_readsCells 47 = .ok (.iaload, 1) := by decide +kernel
theorem dX10_readsCells_48 : decode cX10_readsCells 48 = .ok (.iconst 1, 1) := by decide +kernel
theorem dX10_readsCells_49 : decode cX10_readsCells 49 = .ok (.iadd, 1) := by decide +kernel
theorem dX10_readsCells_50 : decode cX10_readsCells 50 = .ok (.iastore, 1) := by decide +kernel
theorem dX10_readsCells_51 : decode cX10_readsCells 51 = .ok (.aload_n 0, 1) := by decide +kernel
theorem dX10_readsCells_52 : decode cX10_readsCells 52 = .ok (.invokevirtual 117, 3) := by decide +kernel
theorem dX10_readsCells_55 : decode cX10_readsCells 55 = .ok (.aload_n 0, 1) := by decide +kernel
theorem dX10_readsCells_56 : decode cX10_readsCells 56 = .ok (.getfield 101, 3) := by decide +kernel
theorem dX10_readsCells_59 : decode cX10_readsCells 59 = .ok (.bipush 44, 2) := by decide +kernel
theorem dX10_readsCells_61 : decode cX10_readsCells 61 = .ok (.if_icmp .ne 7, 3) := by decide +kernel
theorem dX10_readsCells_64 : decode cX10_readsCells 64 = .ok (.iconst 1, 1) := by decide +kernel
theorem dX10_readsCells_65 : decode cX10_readsCells 65 = .ok (.goto 4, 3) := by decide +kernel
theorem dX10_readsCells_68 : decode cX10_readsCells 68 = .ok (.iconst 0, 1) := by decide +kernel
theorem dX10_readsCells_69 : decode cX10_readsCells 69 = .ok (.istore_n 1, 1) := by decide +kernel
theorem dX10_readsCells_70 : decode cX10_readsCells 70 = .ok (.iload_n 1, 1) := by decide +kernel
theorem dX10_readsCells_71 : decode cX10_readsCells 71 = .ok (.ifCond .eq (-54), 3) := by decide +kernel
theorem dX10_readsCells_74 : decode cX10_readsCells 74 = .ok (.aload_n 0, 1) := by decide +kernel
theorem dX10_readsCells_75 : decode cX10_readsCells 75 = .ok (.getfield 13, 3) := by decide +kernel
theorem dX10_readsCells_78 : decode cX10_readsCells 78 = .ok (.iconst 0, 1) := by decide +kernel
theorem dX10_readsCells_79 : decode cX10_readsCells 79 = .ok (.iaload, 1) := by decide +kernel
theorem dX10_readsCells_80 : decode cX10_readsCells 80 = .ok (.bipush 10, 2) := by decide +kernel
theorem dX10_readsCells_82 : decode cX10_readsCells 82 = .ok (.if_icmp .ne (-65), 3) := by decide +kernel
theorem dX10_readsCells_85 : decode cX10_readsCells 85 = .ok (.aload_n 0, 1) := by decide +kernel
theorem dX10_readsCells_86 : decode cX10_readsCells 86 = .ok (.iconst 1, 1) := by decide +kernel
theorem dX10_readsCells_87 : decode cX10_readsCells 87 = .ok (.invokevirtual 120, 3) := by decide +kernel
theorem dX10_readsCells_90 : decode cX10_readsCells 90 = .ok (.ireturn, 1) := by decide +kernel
theorem dX10_readsCells_91 : decode cX10_readsCells 91 = .ok (.aload_n 0, 1) := by decide +kernel
theorem dX10_readsCells_92 : decode cX10_readsCells 92 = .ok (.getfield 101, 3) := by decide +kernel
theorem dX10_readsCells_95 : decode cX10_readsCells 95 = .ok (.bipush 59, 2) := by decide +kernel
theorem dX10_readsCells_97 : decode cX10_readsCells 97 = .ok (.if_icmp .ne 13, 3) := by decide +kernel
theorem dX10_readsCells_100 : decode cX10_readsCells 100 = .ok (.aload_n 0, 1) := by decide +kernel
theorem dX10_readsCells_101 : decode cX10_readsCells 101 = .ok (.getfield 13, 3) := by decide +kernel
theorem dX10_readsCells_104 : decode cX10_readsCells 104 = .ok (.iconst 0, 1) := by decide +kernel
theorem dX10_readsCells_105 : decode cX10_readsCells 105 = .ok (.iaload, 1) := by decide +kernel
theorem dX10_readsCells_106 : decode cX10_readsCells 106 = .ok (.iconst 1, 1) := by decide +kernel
theorem dX10_readsCells_107 : decode cX10_readsCells 107 = .ok (.if_icmp .gt 11, 3) := by decide +kernel
theorem dX10_readsCells_110 : decode cX10_readsCells 110 = .ok (.aload_n 0, 1) := by decide +kernel
theorem dX10_readsCells_111 : decode cX10_readsCells 111 = .ok (.iconst 1, 1) := by decide +kernel
theorem dX10_readsCells_112 : decode cX10_readsCells 112 = .ok (.invokevirtual 120, 3) := by decide +kernel
theorem dX10_readsCells_115 : decode cX10_readsCells 115 = .ok (.ifCond .eq 7, 3) := by decide +kernel
theorem dX10_readsCells_118 : decode cX10_readsCells 118 = .ok (.iconst 1, 1) := by decide +kernel
theorem dX10_readsCells_119 : decode cX10_readsCells 119 = .ok (.goto 4, 3) := by decide +kernel
theorem dX10_readsCells_122 : decode cX10_readsCells 122 = .ok (.iconst 0, 1) := by decide +kernel
theorem dX10_readsCells_123 : decode cX10_readsCells 123 = .ok (.ireturn, 1) := by decide +kernel
theorem dX10_readsTower_0 : decode cX10_readsTower 0 = .ok (.aload_n 0, 1) := by decide +kernel
theorem dX10_readsTower_1 : decode cX10_readsTower 1 = .ok (.getfield 13, 3) := by decide +kernel
theorem dX10_readsTower_4 : decode cX10_readsTower 4 = .ok (.iconst 1, 1) := by decide +kernel
theorem dX10_readsTower_5 : decode cX10_readsTower 5 = .ok (.iaload, 1) := by decide +kernel
theorem dX10_readsTower_6 : decode cX10_readsTower 6 = .ok (.istore_n 1, 1) := by decide +kernel
theorem dX10_readsTower_7 : decode cX10_readsTower 7 = .ok (.iload_n 1, 1) := by decide +kernel
theorem dX10_readsTower_8 : decode cX10_readsTower 8 = .ok (.bipush 6, 2) := by decide +kernel
theorem dX10_readsTower_10 : decode cX10_readsTower 10 = .ok (.if_icmp .ne 9, 3) := by decide +kernel
theorem dX10_readsTower_13 : decode cX10_readsTower 13 = .ok (.aload_n 0, 1) := by decide +kernel
theorem dX10_readsTower_14 : decode cX10_readsTower 14 = .ok (.iconst 3, 1) := by decide +kernel
theorem dX10_readsTower_15 : decode cX10_readsTower 15 = .ok (.invokevirtual 120, 3) := by decide +kernel
theorem dX10_readsTower_18 : decode cX10_readsTower 18 = .ok (.ireturn, 1) := by decide +kernel
theorem dX10_readsTower_19 : decode cX10_readsTower 19 = .ok (.aload_n 0, 1) := by decide +kernel
theorem dX10_readsTower_20 : decode cX10_readsTower 20 = .ok (.getfield 13, 3) := by decide +kernel
theorem dX10_readsTower_23 : decode cX10_readsTower 23 = .ok (.iconst 1, 1) := by decide +kernel
theorem dX10_readsTower_24 : decode cX10_readsTower 24 = .ok (.dup2, 1) := by decide +kernel
theorem dX10_readsTower_25 : decode cX10_readsTower 25 = .ok (.iaload, 1) := by decide +kernel
theorem dX10_readsTower_26 : decode cX10_readsTower 26 = .ok (.iconst 1, 1) := by decide +kernel
theorem dX10_readsTower_27 : decode cX10_readsTower 27 = .ok (.iadd, 1) := by decide +kernel
theorem dX10_readsTower_28 : decode cX10_readsTower 28 = .ok (.iastore, 1) := by decide +kernel
theorem dX10_readsTower_29 : decode cX10_readsTower 29 = .ok (.aload_n 0, 1) := by decide +kernel
theorem dX10_readsTower_30 : decode cX10_readsTower 30 = .ok (.bipush 14, 2) := by decide +kernel
theorem dX10_readsTower_32 : decode cX10_readsTower 32 = .ok (.iload_n 1, 1) := by decide +kernel
theorem dX10_readsTower_33 : decode cX10_readsTower 33 = .ok (.iadd, 1) := by decide +kernel
theorem dX10_readsTower_34 : decode cX10_readsTower 34 = .ok (.iconst 0, 1) := by decide +kernel
theorem dX10_readsTower_35 : decode cX10_readsTower 35 = .ok (.aload_n 0, 1) := by decide +kernel
theorem dX10_readsTower_36 : decode cX10_readsTower 36 = .ok (.getfield 13, 3) := by decide +kernel
theorem dX10_readsTower_39 : decode cX10_readsTower 39 = .ok (.iconst 0, 1) := by decide +kernel
theorem dX10_readsTower_40 : decode cX10_readsTower 40 = .ok (.iaload, 1) := by decide +kernel
theorem dX10_readsTower_41 : decode cX10_readsTower 41 = .ok (.iconst 1, 1) := by decide +kernel
theorem dX10_readsTower_42 : decode cX10_readsTower 42 = .ok (.isub, 1) := by decide +kernel
theorem dX10_readsTower_43 : decode cX10_readsTower 43 = .ok (.invokevirtual 124, 3) := by decide +kernel
theorem dX10_readsTower_46 : decode cX10_readsTower 46 = .ok (.ifCond .eq 28, 3) := by decide +kernel
theorem dX10_readsTower_49 : decode cX10_readsTower 49 = .ok (.aload_n 0, 1) := by decide +kernel
theorem dX10_readsTower_50 : decode cX10_readsTower 50 = .ok (.bipush 20, 2) := by decide +kernel
theorem dX10_readsTower_52 : decode cX10_readsTower 52 = .ok (.iload_n 1, 1) := by decide +kernel
theorem dX10_readsTower_53 : decode cX10_readsTower 53 = .ok (.iadd, 1) := by decide +kernel
theorem dX10_readsTower_54 : decode cX10_readsTower 54 = .ok (.iconst 1, 1) := by decide +kernel
theorem dX10_readsTower_55 : decode cX10_readsTower 55 = .ok (.bipush 20, 2) := by decide +kernel
theorem dX10_readsTower_57 : decode cX10_readsTower 57 = .ok (.invokevirtual 124, 3) := by decide +kernel
theorem dX10_readsTower_60 : decode cX10_readsTower 60 = .ok (.ifCond .eq 14, 3) := by decide +kernel
theorem dX10_readsTower_63 : decode cX10_readsTower 63 = .ok (.aload_n 0, 1) := by decide +kernel
theorem dX10_readsTower_64 : decode cX10_readsTower 64 = .ok (.invokevirtual 128, 3) := by decide +kernel
theorem dX10_readsTower_67 : decode cX10_readsTower 67 = .ok (.ifCond .eq 7, 3) := by decide +kernel
theorem dX10_readsTower_70 : decode cX10_readsTower 70 = .ok (.iconst 1, 1) := by decide +kernel
theorem dX10_readsTower_71 : decode cX10_readsTower 71 = .ok (.goto 4, 3) := by decide +kernel
theorem dX10_readsTower_74 : decode cX10_readsTower 74 = .ok (.iconst 0, 1) := by decide +kernel
theorem dX10_readsTower_75 : decode cX10_readsTower 75 = .ok (.ireturn, 1) := by decide +kernel
theorem dX10_readsPlayer_0 : decode cX10_readsPlayer 0 = .ok (.aload_n 0, 1) := by decide +kernel
theorem dX10_readsPlayer_1 : decode cX10_readsPlayer 1 = .ok (.getfield 13, 3) := by decide +kernel
theorem dX10_readsPlayer_4 : decode cX10_readsPlayer 4 = .ok (.iconst 2, 1) := by decide +kernel
theorem dX10_readsPlayer_5 : decode cX10_readsPlayer 5 = .ok (.iaload, 1) := by decide +kernel
theorem dX10_readsPlayer_6 : decode cX10_readsPlayer 6 = .ok (.istore_n 1, 1) := by decide +kernel
theorem dX10_readsPlayer_7 : decode cX10_readsPlayer 7 = .ok (.iload_n 1, 1) := by decide +kernel
theorem dX10_readsPlayer_8 : decode cX10_readsPlayer 8 = .ok (.bipush 6, 2) := by decide +kernel
theorem dX10_readsPlayer_10 : decode cX10_readsPlayer 10 = .ok (.if_icmp .ne 9, 3) := by decide +kernel
theorem dX10_readsPlayer_13 : decode cX10_readsPlayer 13 = .ok (.aload_n 0, 1) := by decide +kernel
theorem dX10_readsPlayer_14 : decode cX10_readsPlayer 14 = .ok (.iconst 3, 1) := by decide +kernel
theorem dX10_readsPlayer_15 : decode cX10_readsPlayer 15 = .ok (.invokevirtual 120, 3) := by decide +kernel
theorem dX10_readsPlayer_18 : decode cX10_readsPlayer 18 = .ok (.ireturn, 1) := by decide +kernel
theorem dX10_readsPlayer_19 : decode cX10_readsPlayer 19 = .ok (.aload_n 0, 1) := by decide +kernel
theorem dX10_readsPlayer_20 : decode cX10_readsPlayer 20 = .ok (.getfield 13, 3) := by decide +kernel
theorem dX10_readsPlayer_23 : decode cX10_readsPlayer 23 = .ok (.iconst 2, 1) := by decide +kernel
theorem dX10_readsPlayer_24 : decode cX10_readsPlayer 24 = .ok (.dup2, 1) := by decide +kernel
theorem dX10_readsPlayer_25 : decode cX10_readsPlayer 25 = .ok (.iaload, 1) := by decide +kernel
theorem dX10_readsPlayer_26 : decode cX10_readsPlayer 26 = .ok (.iconst 1, 1) := by decide +kernel
theorem dX10_readsPlayer_27 : decode cX10_readsPlayer 27 = .ok (.iadd, 1) := by decide +kernel
theorem dX10_readsPlayer_28 : decode cX10_readsPlayer 28 = .ok (.iastore, 1) := by decide +kernel
theorem dX10_readsPlayer_29 : decode cX10_readsPlayer 29 = .ok (.aload_n 0, 1) := by decide +kernel
theorem dX10_readsPlayer_30 : decode cX10_readsPlayer 30 = .ok (.bipush 26, 2) := by decide +kernel
theorem dX10_readsPlayer_32 : decode cX10_readsPlayer 32 = .ok (.iload_n 1, 1) := by decide +kernel
theorem dX10_readsPlayer_33 : decode cX10_readsPlayer 33 = .ok (.iadd, 1) := by decide +kernel
theorem dX10_readsPlayer_34 : decode cX10_readsPlayer 34 = .ok (.iconst 1, 1) := by decide +kernel
theorem dX10_readsPlayer_35 : decode cX10_readsPlayer 35 = .ok (.bipush 9, 2) := by decide +kernel
theorem dX10_readsPlayer_37 : decode cX10_readsPlayer 37 = .ok (.invokevirtual 124, 3) := by decide +kernel
theorem dX10_readsPlayer_40 : decode cX10_readsPlayer 40 = .ok (.ifCond .eq 14, 3) := by decide +kernel
theorem dX10_readsPlayer_43 : decode cX10_readsPlayer 43 = .ok (.aload_n 0, 1) := by decide +kernel
theorem dX10_readsPlayer_44 : decode cX10_readsPlayer 44 = .ok (.invokevirtual 128, 3) := by decide +kernel
theorem dX10_readsPlayer_47 : decode cX10_readsPlayer 47 = .ok (.ifCond .eq 7, 3) := by decide +kernel
theorem dX10_readsPlayer_50 : decode cX10_readsPlayer 50 = .ok (.iconst 1, 1) := by decide +kernel
theorem dX10_readsPlayer_51 : decode cX10_readsPlayer 51 = .ok (.goto 4, 3) := by decide +kernel
theorem dX10_readsPlayer_54 : decode cX10_readsPlayer 54 = .ok (.iconst 0, 1) := by decide +kernel
theorem dX10_readsPlayer_55 : decode cX10_readsPlayer 55 = .ok (.ireturn, 1) := by decide +kernel
theorem dX10_readsBoat_0 : decode cX10_readsBoat 0 = .ok (.aload_n 0, 1) := by decide +kernel
theorem dX10_readsBoat_1 : decode cX10_readsBoat 1 = .ok (.getfield 13, 3) := by decide +kernel
theorem dX10_readsBoat_4 : decode cX10_readsBoat 4 = .ok (.iconst 3, 1) := by decide +kernel
theorem dX10_readsBoat_5 : decode cX10_readsBoat 5 = .ok (.iaload, 1) := by decide +kernel
theorem dX10_readsBoat_6 : decode cX10_readsBoat 6 = .ok (.istore_n 1, 1) := by decide +kernel
theorem dX10_readsBoat_7 : decode cX10_readsBoat 7 = .ok (.iload_n 1, 1) := by decide +kernel
theorem dX10_readsBoat_8 : decode cX10_readsBoat 8 = .ok (.iconst 4, 1) := by decide +kernel
theorem dX10_readsBoat_9 : decode cX10_readsBoat 9 = .ok (.if_icmp .ne 9, 3) := by decide +kernel
theorem dX10_readsBoat_12 : decode cX10_readsBoat 12 = .ok (.aload_n 0, 1) := by decide +kernel
theorem dX10_readsBoat_13 : decode cX10_readsBoat 13 = .ok (.iconst 3, 1) := by decide +kernel
theorem dX10_readsBoat_14 : decode cX10_readsBoat 14 = .ok (.invokevirtual 120, 3) := by decide +kernel
theorem dX10_readsBoat_17 : decode cX10_readsBoat 17 = .ok (.ireturn, 1) := by decide +kernel
theorem dX10_readsBoat_18 : decode cX10_readsBoat 18 = .ok (.aload_n 0, 1) := by decide +kernel
theorem dX10_readsBoat_19 : decode cX10_readsBoat 19 = .ok (.getfield 13, 3) := by decide +kernel
theorem dX10_readsBoat_22 : decode cX10_readsBoat 22 = .ok (.iconst 3, 1) := by decide +kernel
theorem dX10_readsBoat_23 : decode cX10_readsBoat 23 = .ok (.dup2, 1) := by decide +kernel
theorem dX10_readsBoat_24 : decode cX10_readsBoat 24 = .ok (.iaload, 1) := by decide +kernel
theorem dX10_readsBoat_25 : decode cX10_readsBoat 25 = .ok (.iconst 1, 1) := by decide +kernel
theorem dX10_readsBoat_26 : decode cX10_readsBoat 26 = .ok (.iadd, 1) := by decide +kernel
theorem dX10_readsBoat_27 : decode cX10_readsBoat 27 = .ok (.iastore, 1) := by decide +kernel
theorem dX10_readsBoat_28 : decode cX10_readsBoat 28 = .ok (.aload_n 0, 1) := by decide +kernel
theorem dX10_readsBoat_29 : decode cX10_readsBoat 29 = .ok (.bipush 32, 2) := by decide +kernel
theorem dX10_readsBoat_31 : decode cX10_readsBoat 31 = .ok (.iload_n 1, 1) := by decide +kernel
theorem dX10_readsBoat_32 : decode cX10_readsBoat 32 = .ok (.iadd, 1) := by decide +kernel
theorem dX10_readsBoat_33 : decode cX10_readsBoat 33 = .ok (.iconst 1, 1) := by decide +kernel
theorem dX10_readsBoat_34 : decode cX10_readsBoat 34 = .ok (.bipush 30, 2) := by decide +kernel
theorem dX10_readsBoat_36 : decode cX10_readsBoat 36 = .ok (.invokevirtual 124, 3) := by decide +kernel
theorem dX10_readsBoat_39 : decode cX10_readsBoat 39 = .ok (.ifCond .eq 54, 3) := by decide +kernel
theorem dX10_readsBoat_42 : decode cX10_readsBoat 42 = .ok (.aload_n 0, 1) := by decide +kernel
theorem dX10_readsBoat_43 : decode cX10_readsBoat 43 = .ok (.bipush 36, 2) := by decide +kernel
theorem dX10_readsBoat_45 : decode cX10_readsBoat 45 = .ok (.iload_n 1, 1) := by decide +kernel
theorem dX10_readsBoat_46 : decode cX10_readsBoat 46 = .ok (.iadd, 1) := by decide +kernel
theorem dX10_readsBoat_47 : decode cX10_readsBoat 47 = .ok (.iconst 0, 1) := by decide +kernel
theorem dX10_readsBoat_48 : decode cX10_readsBoat 48 = .ok (.aload_n 0, 1) := by decide +kernel
theorem dX10_readsBoat_49 : decode cX10_readsBoat 49 = .ok (.getfield 13, 3) := by decide +kernel
theorem dX10_readsBoat_52 : decode cX10_readsBoat 52 = .ok (.iconst 0, 1) := by decide +kernel
theorem dX10_readsBoat_53 : decode cX10_readsBoat 53 = .ok (.iaload, 1) := by decide +kernel
theorem dX10_readsBoat_54 : decode cX10_readsBoat 54 = .ok (.iconst 1, 1) := by decide +kernel
theorem dX10_readsBoat_55 : decode cX10_readsBoat 55 = .ok (.isub, 1) := by decide +kernel
theorem dX10_readsBoat_56 : decode cX10_readsBoat 56 = .ok (.invokevirtual 124, 3) := by decide +kernel
theorem dX10_readsBoat_59 : decode cX10_readsBoat 59 = .ok (.ifCond .eq 34, 3) := by decide +kernel
theorem dX10_readsBoat_62 : decode cX10_readsBoat 62 = .ok (.aload_n 0, 1) := by decide +kernel
theorem dX10_readsBoat_63 : decode cX10_readsBoat 63 = .ok (.bipush 40, 2) := by decide +kernel
theorem dX10_readsBoat_65 : decode cX10_readsBoat 65 = .ok (.iload_n 1, 1) := by decide +kernel
theorem dX10_readsBoat_66 : decode cX10_readsBoat 66 = .ok (.iadd, 1) := by decide +kernel
theorem dX10_readsBoat_67 : decode cX10_readsBoat 67 = .ok (.iconst 0, 1) := by decide +kernel
theorem dX10_readsBoat_68 : decode cX10_readsBoat 68 = .ok (.aload_n 0, 1) := by decide +kernel
theorem dX10_readsBoat_69 : decode cX10_readsBoat 69 = .ok (.getfield 13, 3) := by decide +kernel
theorem dX10_readsBoat_72 : decode cX10_readsBoat 72 = .ok (.iconst 0, 1) := by decide +kernel
theorem dX10_readsBoat_73 : decode cX10_readsBoat 73 = .ok (.iaload, 1) := by decide +kernel
theorem dX10_readsBoat_74 : decode cX10_readsBoat 74 = .ok (.iconst 1, 1) := by decide +kernel
theorem dX10_readsBoat_75 : decode cX10_readsBoat 75 = .ok (.isub, 1) := by decide +kernel
theorem dX10_readsBoat_76 : decode cX10_readsBoat 76 = .ok (.invokevirtual 124, 3) := by decide +kernel
theorem dX10_readsBoat_79 : decode cX10_readsBoat 79 = .ok (.ifCond .eq 14, 3) := by decide +kernel
theorem dX10_readsBoat_82 : decode cX10_readsBoat 82 = .ok (.aload_n 0, 1) := by decide +kernel
theorem dX10_readsBoat_83 : decode cX10_readsBoat 83 = .ok (.invokevirtual 128, 3) := by decide +kernel
theorem dX10_readsBoat_86 : decode cX10_readsBoat 86 = .ok (.ifCond .eq 7, 3) := by decide +kernel
theorem dX10_readsBoat_89 : decode cX10_readsBoat 89 = .ok (.iconst 1, 1) := by decide +kernel
theorem dX10_readsBoat_90 : decode cX10_readsBoat 90 = .ok (.goto 4, 3) := by decide +kernel
theorem dX10_readsBoat_93 : decode cX10_readsBoat 93 = .ok (.iconst 0, 1) := by decide +kernel
theorem dX10_readsBoat_94 : decode cX10_readsBoat 94 = .ok (.ireturn, 1) := by decide +kernel
theorem dX10_readsClause_0 : decode cX10_readsClause 0 = .ok (.aload_n 0, 1) := by decide +kernel
theorem dX10_readsClause_1 : decode cX10_readsClause 1 = .ok (.getfield 101, 3) := by decide +kernel
theorem dX10_readsClause_4 : decode cX10_readsClause 4 = .ok (.bipush 99, 2) := by decide +kernel
theorem dX10_readsClause_6 : decode cX10_readsClause 6 = .ok (.if_icmp .ne 8, 3) := by decide +kernel
theorem dX10_readsClause_9 : decode cX10_readsClause 9 = .ok (.aload_n 0, 1) := by decide +kernel
theorem dX10_readsClause_10 : decode cX10_readsClause 10 = .ok (.invokevirtual 132, 3) := by decide +kernel
theorem dX10_readsClause_13 : decode cX10_readsClause 13 = .ok (.ireturn, 1) := by decide +kernel
theorem dX10_readsClause_14 : decode cX10_readsClause 14 = .ok (.aload_n 0, 1) := by decide +kernel
theorem dX10_readsClause_15 : decode cX10_readsClause 15 = .ok (.getfield 13, 3) := by decide +kernel
theorem dX10_readsClause_18 : decode cX10_readsClause 18 = .ok (.iconst 0, 1) := by decide +kernel
theorem dX10_readsClause_19 : decode cX10_readsClause 19 = .ok (.iaload, 1) := by decide +kernel
theorem dX10_readsClause_20 : decode cX10_readsClause 20 = .ok (.ifCond .ne 9, 3) := by decide +kernel
theorem dX10_readsClause_23 : decode cX10_readsClause 23 = .ok (.aload_n 0, 1) := by decide +kernel
theorem dX10_readsClause_24 : decode cX10_readsClause 24 = .ok (.iconst 1, 1) := by decide +kernel
theorem dX10_readsClause_25 : decode cX10_readsClause 25 = .ok (.invokevirtual 120, 3) := by decide +kernel
theorem dX10_readsClause_28 : decode cX10_readsClause 28 = .ok (.ireturn, 1) := by decide +kernel
theorem dX10_readsClause_29 : decode cX10_readsClause 29 = .ok (.aload_n 0, 1) := by decide +kernel
theorem dX10_readsClause_30 : decode cX10_readsClause 30 = .ok (.getfield 101, 3) := by decide +kernel
theorem dX10_readsClause_33 : decode cX10_readsClause 33 = .ok (.lookupswitch 50 #[(98, 45), (112, 40), (116, 35)], 35) := by decide +kernel
theorem dX10_readsClause_68 : decode cX10_readsClause 68 = .ok (.aload_n 0, 1) := by decide +kernel
theorem dX10_readsClause_69 : decode cX10_readsClause 69 = .ok (.invokevirtual 135, 3) := by decide +kernel
theorem dX10_readsClause_72 : decode cX10_readsClause 72 = .ok (.ireturn, 1) := by decide +kernel
theorem dX10_readsClause_73 : decode cX10_readsClause 73 = .ok (.aload_n 0, 1) := by decide +kernel
theorem dX10_readsClause_74 : decode cX10_readsClause 74 = .ok (.invokevirtual 138, 3) := by decide +kernel
theorem dX10_readsClause_77 : decode cX10_readsClause 77 = .ok (.ireturn, 1) := by decide +kernel
theorem dX10_readsClause_78 : decode cX10_readsClause 78 = .ok (.aload_n 0, 1) := by decide +kernel
theorem dX10_readsClause_79 : decode cX10_readsClause 79 = .ok (.invokevirtual 141, 3) := by decide +kernel
theorem dX10_readsClause_82 : decode cX10_readsClause 82 = .ok (.ireturn, 1) := by decide +kernel
theorem dX10_readsClause_83 : decode cX10_readsClause 83 = .ok (.aload_n 0, 1) := by decide +kernel
theorem dX10_readsClause_84 : decode cX10_readsClause 84 = .ok (.iconst 1, 1) := by decide +kernel
theorem dX10_readsClause_85 : decode cX10_readsClause 85 = .ok (.invokevirtual 120, 3) := by decide +kernel
theorem dX10_readsClause_88 : decode cX10_readsClause 88 = .ok (.ireturn, 1) := by decide +kernel
theorem dX10_coast_0 : decode cX10_coast 0 = .ok (.iconst 0, 1) := by decide +kernel
theorem dX10_coast_1 : decode cX10_coast 1 = .ok (.istore_n 1, 1) := by decide +kernel
theorem dX10_coast_2 : decode cX10_coast 2 = .ok (.iload_n 1, 1) := by decide +kernel
theorem dX10_coast_3 : decode cX10_coast 3 = .ok (.bipush 44, 2) := by decide +kernel
theorem dX10_coast_5 : decode cX10_coast 5 = .ok (.if_icmp .ge 16, 3) := by decide +kernel
theorem dX10_coast_8 : decode cX10_coast 8 = .ok (.aload_n 0, 1) := by decide +kernel
theorem dX10_coast_9 : decode cX10_coast 9 = .ok (.getfield 13, 3) := by decide +kernel
theorem dX10_coast_12 : decode cX10_coast 12 = .ok (.iload_n 1, 1) := by decide +kernel
theorem dX10_coast_13 : decode cX10_coast 13 = .ok (.iconst 0, 1) := by decide +kernel
theorem dX10_coast_14 : decode cX10_coast 14 = .ok (.iastore, 1) := by decide +kernel
theorem dX10_coast_15 : decode cX10_coast 15 = .ok (.iinc 1 1, 3) := by decide +kernel
theorem dX10_coast_18 : decode cX10_coast 18 = .ok (.goto (-16), 3) := by decide +kernel
theorem dX10_coast_21 : decode cX10_coast 21 = .ok (.aload_n 0, 1) := by decide +kernel
theorem dX10_coast_22 : decode cX10_coast 22 = .ok (.iconst 0, 1) := by decide +kernel
theorem dX10_coast_23 : decode cX10_coast 23 = .ok (.putfield 91, 3) := by decide +kernel
theorem dX10_coast_26 : decode cX10_coast 26 = .ok (.aload_n 0, 1) := by decide +kernel
theorem dX10_coast_27 : decode cX10_coast 27 = .ok (.iconst (-1), 1) := by decide +kernel
theorem dX10_coast_28 : decode cX10_coast 28 = .ok (.putfield 35, 3) := by decide +kernel
theorem dX10_coast_31 : decode cX10_coast 31 = .ok (.iconst 1, 1) := by decide +kernel
theorem dX10_coast_32 : decode cX10_coast 32 = .ok (.istore_n 1, 1) := by decide +kernel
theorem dX10_coast_33 : decode cX10_coast 33 = .ok (.aload_n 0, 1) := by decide +kernel
theorem dX10_coast_34 : decode cX10_coast 34 = .ok (.invokevirtual 117, 3) := by decide +kernel
theorem dX10_coast_37 : decode cX10_coast 37 = .ok (.aload_n 0, 1) := by decide +kernel
theorem dX10_coast_38 : decode cX10_coast 38 = .ok (.getfield 101, 3) := by decide +kernel
theorem dX10_coast_41 : decode cX10_coast 41 = .ok (.ifCond .lt 23, 3) := by decide +kernel
theorem dX10_coast_44 : decode cX10_coast 44 = .ok (.iload_n 1, 1) := by decide +kernel
theorem dX10_coast_45 : decode cX10_coast 45 = .ok (.ifCond .eq 19, 3) := by decide +kernel
theorem dX10_coast_48 : decode cX10_coast 48 = .ok (.aload_n 0, 1) := by decide +kernel
theorem dX10_coast_49 : decode cX10_coast 49 = .ok (.invokevirtual 144, 3) := by decide +kernel
theorem dX10_coast_52 : decode cX10_coast 52 = .ok (.istore_n 1, 1) := by decide +kernel
theorem dX10_coast_53 : decode cX10_coast 53 = .ok (.iload_n 1, 1) := by decide +kernel
theorem dX10_coast_54 : decode cX10_coast 54 = .ok (.ifCond .eq (-17), 3) := by decide +kernel
theorem dX10_coast_57 : decode cX10_coast 57 = .ok (.aload_n 0, 1) := by decide +kernel
theorem dX10_coast_58 : decode cX10_coast 58 = .ok (.invokevirtual 117, 3) := by decide +kernel
theorem dX10_coast_61 : decode cX10_coast 61 = .ok (.goto (-24), 3) := by decide +kernel
theorem dX10_coast_64 : decode cX10_coast 64 = .ok (.aload_n 0, 1) := by decide +kernel
theorem dX10_coast_65 : decode cX10_coast 65 = .ok (.iconst 0, 1) := by decide +kernel
theorem dX10_coast_66 : decode cX10_coast 66 = .ok (.putfield 87, 3) := by decide +kernel
theorem dX10_coast_69 : decode cX10_coast 69 = .ok (.iload_n 1, 1) := by decide +kernel
theorem dX10_coast_70 : decode cX10_coast 70 = .ok (.ifCond .ne 19, 3) := by decide +kernel
theorem dX10_coast_73 : decode cX10_coast 73 = .ok (.aload_n 0, 1) := by decide +kernel
theorem dX10_coast_74 : decode cX10_coast 74 = .ok (.aload_n 0, 1) := by decide +kernel
theorem dX10_coast_75 : decode cX10_coast 75 = .ok (.getfield 98, 3) := by decide +kernel
theorem dX10_coast_78 : decode cX10_coast 78 = .ok (.putfield 35, 3) := by decide +kernel
theorem dX10_coast_81 : decode cX10_coast 81 = .ok (.bipush (-10), 2) := by decide +kernel
theorem dX10_coast_83 : decode cX10_coast 83 = .ok (.aload_n 0, 1) := by decide +kernel
theorem dX10_coast_84 : decode cX10_coast 84 = .ok (.getfield 114, 3) := by decide +kernel
theorem dX10_coast_87 : decode cX10_coast 87 = .ok (.isub, 1) := by decide +kernel
theorem dX10_coast_88 : decode cX10_coast 88 = .ok (.ireturn, 1) := by decide +kernel
theorem dX10_coast_89 : decode cX10_coast 89 = .ok (.aload_n 0, 1) := by decide +kernel
theorem dX10_coast_90 : decode cX10_coast 90 = .ok (.getfield 13, 3) := by decide +kernel
theorem dX10_coast_93 : decode cX10_coast 93 = .ok (.iconst 0, 1) := by decide +kernel
theorem dX10_coast_94 : decode cX10_coast 94 = .ok (.aload_n 0, 1) := by decide +kernel
theorem dX10_coast_95 : decode cX10_coast 95 = .ok (.getfield 7, 3) := by decide +kernel
theorem dX10_coast_98 : decode cX10_coast 98 = .ok (.iconst 0, 1) := by decide +kernel
theorem dX10_coast_99 : decode cX10_coast 99 = .ok (.bipush 44, 2) := by decide +kernel
theorem dX10_coast_101 : decode cX10_coast 101 = .ok (.invokestatic 68, 3) := by decide +kernel
theorem dX10_coast_104 : decode cX10_coast 104 = .ok (.aload_n 0, 1) := by decide +kernel
theorem dX10_coast_105 : decode cX10_coast 105 = .ok (.invokevirtual 57, 3) := by decide +kernel
theorem dX10_coast_108 : decode cX10_coast 108 = .ok (.aload_n 0, 1) := by decide +kernel
theorem dX10_coast_109 : decode cX10_coast 109 = .ok (.getfield 7, 3) := by decide +kernel
theorem dX10_coast_112 : decode cX10_coast 112 = .ok (.iconst 0, 1) := by decide +kernel
theorem dX10_coast_113 : decode cX10_coast 113 = .ok (.iaload, 1) := by decide +kernel
theorem dX10_coast_114 : decode cX10_coast 114 = .ok (.ireturn, 1) := by decide +kernel
theorem dX10_fault_0 : decode cX10_fault 0 = .ok (.aload_n 0, 1) := by decide +kernel
theorem dX10_fault_1 : decode cX10_fault 1 = .ok (.getfield 35, 3) := by decide +kernel
theorem dX10_fault_4 : decode cX10_fault 4 = .ok (.ireturn, 1) := by decide +kernel
theorem dX10_isCell_0 : decode cX10_isCell 0 = .ok (.iload_n 1, 1) := by decide +kernel
theorem dX10_isCell_1 : decode cX10_isCell 1 = .ok (.i2l, 1) := by decide +kernel
theorem dX10_isCell_2 : decode cX10_isCell 2 = .ok (.lconst 0, 1) := by decide +kernel
theorem dX10_isCell_3 : decode cX10_isCell 3 = .ok (.aload_n 0, 1) := by decide +kernel
theorem dX10_isCell_4 : decode cX10_isCell 4 = .ok (.getfield 7, 3) := by decide +kernel
theorem dX10_isCell_7 : decode cX10_isCell 7 = .ok (.iconst 0, 1) := by decide +kernel
theorem dX10_isCell_8 : decode cX10_isCell 8 = .ok (.iaload, 1) := by decide +kernel
theorem dX10_isCell_9 : decode cX10_isCell 9 = .ok (.iconst 1, 1) := by decide +kernel
theorem dX10_isCell_10 : decode cX10_isCell 10 = .ok (.isub, 1) := by decide +kernel
theorem dX10_isCell_11 : decode cX10_isCell 11 = .ok (.i2l, 1) := by decide +kernel
theorem dX10_isCell_12 : decode cX10_isCell 12 = .ok (.invokestatic 64, 3) := by decide +kernel
theorem dX10_isCell_15 : decode cX10_isCell 15 = .ok (.ireturn, 1) := by decide +kernel
theorem dX10_isTower_0 : decode cX10_isTower 0 = .ok (.iload_n 1, 1) := by decide +kernel
theorem dX10_isTower_1 : decode cX10_isTower 1 = .ok (.i2l, 1) := by decide +kernel
theorem dX10_isTower_2 : decode cX10_isTower 2 = .ok (.lconst 0, 1) := by decide +kernel
theorem dX10_isTower_3 : decode cX10_isTower 3 = .ok (.aload_n 0, 1) := by decide +kernel
theorem dX10_isTower_4 : decode cX10_isTower 4 = .ok (.getfield 7, 3) := by decide +kernel
theorem dX10_isTower_7 : decode cX10_isTower 7 = .ok (.iconst 1, 1) := by decide +kernel
theorem dX10_isTower_8 : decode cX10_isTower 8 = .ok (.iaload, 1) := by decide +kernel
theorem dX10_isTower_9 : decode cX10_isTower 9 = .ok (.iconst 1, 1) := by decide +kernel
theorem dX10_isTower_10 : decode cX10_isTower 10 = .ok (.isub, 1) := by decide +kernel
theorem dX10_isTower_11 : decode cX10_isTower 11 = .ok (.i2l, 1) := by decide +kernel
theorem dX10_isTower_12 : decode cX10_isTower 12 = .ok (.invokestatic 64, 3) := by decide +kernel
theorem dX10_isTower_15 : decode cX10_isTower 15 = .ok (.ireturn, 1) := by decide +kernel
theorem dX10_isPlayer_0 : decode cX10_isPlayer 0 = .ok (.iload_n 1, 1) := by decide +kernel
theorem dX10_isPlayer_1 : decode cX10_isPlayer 1 = .ok (.i2l, 1) := by decide +kernel
theorem dX10_isPlayer_2 : decode cX10_isPlayer 2 = .ok (.lconst 0, 1) := by decide +kernel
theorem dX10_isPlayer_3 : decode cX10_isPlayer 3 = .ok (.aload_n 0, 1) := by decide +kernel
theorem dX10_isPlayer_4 : decode cX10_isPlayer 4 = .ok (.getfield 7, 3) := by decide +kernel
theorem dX10_isPlayer_7 : decode cX10_isPlayer 7 = .ok (.iconst 2, 1) := by decide +kernel
theorem dX10_isPlayer_8 : decode cX10_isPlayer 8 = .ok (.iaload, 1) := by decide +kernel
theorem dX10_isPlayer_9 : decode cX10_isPlayer 9 = .ok (.iconst 1, 1) := by decide +kernel
theorem dX10_isPlayer_10 : decode cX10_isPlayer 10 = .ok (.isub, 1) := by decide +kernel
theorem dX10_isPlayer_11 : decode cX10_isPlayer 11 = .ok (.i2l, 1) := by decide +kernel
theorem dX10_isPlayer_12 : decode cX10_isPlayer 12 = .ok (.invokestatic 64, 3) := by decide +kernel
theorem dX10_isPlayer_15 : decode cX10_isPlayer 15 = .ok (.ireturn, 1) := by decide +kernel
theorem dX10_isBoat_0 : decode cX10_isBoat 0 = .ok (.iload_n 1, 1) := by decide +kernel
theorem dX10_isBoat_1 : decode cX10_isBoat 1 = .ok (.i2l, 1) := by decide +kernel
theorem dX10_isBoat_2 : decode cX10_isBoat 2 = .ok (.lconst 0, 1) := by decide +kernel
theorem dX10_isBoat_3 : decode cX10_isBoat 3 = .ok (.aload_n 0, 1) := by decide +kernel
theorem dX10_isBoat_4 : decode cX10_isBoat 4 = .ok (.getfield 7, 3) := by decide +kernel
theorem dX10_isBoat_7 : decode cX10_isBoat 7 = .ok (.iconst 3, 1) := by decide +kernel
theorem dX10_isBoat_8 : decode cX10_isBoat 8 = .ok (.iaload, 1) := by decide +kernel
theorem dX10_isBoat_9 : decode cX10_isBoat 9 = .ok (.iconst 1, 1) := by decide +kernel
theorem dX10_isBoat_10 : decode cX10_isBoat 10 = .ok (.isub, 1) := by decide +kernel
theorem dX10_isBoat_11 : decode cX10_isBoat 11 = .ok (.i2l, 1) := by decide +kernel
theorem dX10_isBoat_12 : decode cX10_isBoat 12 = .ok (.invokestatic 64, 3) := by decide +kernel
theorem dX10_isBoat_15 : decode cX10_isBoat 15 = .ok (.ireturn, 1) := by decide +kernel
theorem dX10_bears_0 : decode cX10_bears 0 = .ok (.iload_n 3, 1) := by decide +kernel
theorem dX10_bears_1 : decode cX10_bears 1 = .ok (.aload_n 0, 1) := by decide +kernel
theorem dX10_bears_2 : decode cX10_bears 2 = .ok (.getfield 7, 3) := by decide +kernel
theorem dX10_bears_5 : decode cX10_bears 5 = .ok (.bipush 14, 2) := by decide +kernel
theorem dX10_bears_7 : decode cX10_bears 7 = .ok (.iload_n 2, 1) := by decide +kernel
theorem dX10_bears_8 : decode cX10_bears 8 = .ok (.iadd, 1) := by decide +kernel
theorem dX10_bears_9 : decode cX10_bears 9 = .ok (.iaload, 1) := by decide +kernel
theorem dX10_bears_10 : decode cX10_bears 10 = .ok (.isub, 1) := by decide +kernel
theorem dX10_bears_11 : decode cX10_bears 11 = .ok (.istore 4, 2) := by decide +kernel
theorem dX10_bears_13 : decode cX10_bears 13 = .ok (.iload 4, 2) := by decide +kernel
theorem dX10_bears_15 : decode cX10_bears 15 = .ok (.ifCond .ge 9, 3) := by decide +kernel
theorem dX10_bears_18 : decode cX10_bears 18 = .ok (.iload 4, 2) := by decide +kernel
theorem dX10_bears_20 : decode cX10_bears 20 = .ok (.ineg, 1) := by decide +kernel
theorem dX10_bears_21 : decode cX10_bears 21 = .ok (.goto 5, 3) := by decide +kernel
theorem dX10_bears_24 : decode cX10_bears 24 = .ok (.iload 4, 2) := by decide +kernel
theorem dX10_bears_26 : decode cX10_bears 26 = .ok (.istore 4, 2) := by decide +kernel
theorem dX10_bears_28 : decode cX10_bears 28 = .ok (.iconst 0, 1) := by decide +kernel
theorem dX10_bears_29 : decode cX10_bears 29 = .ok (.aload_n 1, 1) := by decide +kernel
theorem dX10_bears_30 : decode cX10_bears 30 = .ok (.iconst 0, 1) := by decide +kernel
theorem dX10_bears_31 : decode cX10_bears 31 = .ok (.iload_n 2, 1) := by decide +kernel
theorem dX10_bears_32 : decode cX10_bears 32 = .ok (.iadd, 1) := by decide +kernel
theorem dX10_bears_33 : decode cX10_bears 33 = .ok (.iaload, 1) := by decide +kernel
theorem dX10_bears_34 : decode cX10_bears 34 = .ok (.aload_n 0, 1) := by decide +kernel
theorem dX10_bears_35 : decode cX10_bears 35 = .ok (.getfield 7, 3) := by decide +kernel
theorem dX10_bears_38 : decode cX10_bears 38 = .ok (.bipush 20, 2) := by decide +kernel
theorem dX10_bears_40 : decode cX10_bears 40 = .ok (.iload_n 2, 1) := by decide +kernel
theorem dX10_bears_41 : decode cX10_bears 41 = .ok (.iadd, 1) := by decide +kernel
theorem dX10_bears_42 : decode cX10_bears 42 = .ok (.iaload, 1) := by decide +kernel
theorem dX10_bears_43 : decode cX10_bears 43 = .ok (.iload 4, 2) := by decide +kernel
theorem dX10_bears_45 : decode cX10_bears 45 = .ok (.imul, 1) := by decide +kernel
theorem dX10_bears_46 : decode cX10_bears 46 = .ok (.isub, 1) := by decide +kernel
theorem dX10_bears_47 : decode cX10_bears 47 = .ok (.invokestatic 147, 3) := by decide +kernel
theorem dX10_bears_50 : decode cX10_bears 50 = .ok (.ireturn, 1) := by decide +kernel
theorem dX10_seaOn_0 : decode cX10_seaOn 0 = .ok (.iconst 0, 1) := by decide +kernel
theorem dX10_seaOn_1 : decode cX10_seaOn 1 = .ok (.istore_n 3, 1) := by decide +kernel
theorem dX10_seaOn_2 : decode cX10_seaOn 2 = .ok (.iconst 0, 1) := by decide +kernel
theorem dX10_seaOn_3 : decode cX10_seaOn 3 = .ok (.istore 4, 2) := by decide +kernel
theorem dX10_seaOn_5 : decode cX10_seaOn 5 = .ok (.iload 4, 2) := by decide +kernel
theorem dX10_seaOn_7 : decode cX10_seaOn 7 = .ok (.aload_n 0, 1) := by decide +kernel
theorem dX10_seaOn_8 : decode cX10_seaOn 8 = .ok (.getfield 7, 3) := by decide +kernel
theorem dX10_seaOn_11 : decode cX10_seaOn 11 = .ok (.iconst 1, 1) := by decide +kernel
theorem dX10_seaOn_12 : decode cX10_seaOn 12 = .ok (.iaload, 1) := by decide +kernel
theorem dX10_seaOn_13 : decode cX10_seaOn 13 = .ok (.if_icmp .ge 20, 3) := by decide +kernel
theorem dX10_seaOn_16 : decode cX10_seaOn 16 = .ok (.iload_n 3, 1) := by decide +kernel
theorem dX10_seaOn_17 : decode cX10_seaOn 17 = .ok (.aload_n 0, 1) := by decide +kernel
theorem dX10_seaOn_18 : decode cX10_seaOn 18 = .ok (.aload_n 1, 1) := by decide +kernel
theorem dX10_seaOn_19 : decode cX10_seaOn 19 = .ok (.iload 4, 2) := by decide +kernel
theorem dX10_seaOn_21 : decode cX10_seaOn 21 = .ok (.iload_n 2, 1) := by decide +kernel
theorem dX10_seaOn_22 : decode cX10_seaOn 22 = .ok (.invokevirtual 151, 3) := by decide +kernel
theorem dX10_seaOn_25 : decode cX10_seaOn 25 = .ok (.iadd, 1) := by decide +kernel
theorem dX10_seaOn_26 : decode cX10_seaOn 26 = .ok (.istore_n 3, 1) := by decide +kernel
theorem dX10_seaOn_27 : decode cX10_seaOn 27 = .ok (.iinc 4 1, 3) := by decide +kernel
theorem dX10_seaOn_30 : decode cX10_seaOn 30 = .ok (.goto (-25), 3) := by decide +kernel
theorem dX10_seaOn_33 : decode cX10_seaOn 33 = .ok (.iload_n 3, 1) := by decide +kernel
theorem dX10_seaOn_34 : decode cX10_seaOn 34 = .ok (.ireturn, 1) := by decide +kernel
theorem dX10_depthOn_0 : decode cX10_depthOn 0 = .ok (.iconst 0, 1) := by decide +kernel
theorem dX10_depthOn_1 : decode cX10_depthOn 1 = .ok (.aload_n 0, 1) := by decide +kernel
theorem dX10_depthOn_2 : decode cX10_depthOn 2 = .ok (.aload_n 1, 1) := by decide +kernel
theorem dX10_depthOn_3 : decode cX10_depthOn 3 = .ok (.iload_n 2, 1) := by decide +kernel
theorem dX10_depthOn_4 : decode cX10_depthOn 4 = .ok (.invokevirtual 155, 3) := by decide +kernel
theorem dX10_depthOn_7 : decode cX10_depthOn 7 = .ok (.aload_n 0, 1) := by decide +kernel
theorem dX10_depthOn_8 : decode cX10_depthOn 8 = .ok (.getfield 7, 3) := by decide +kernel
theorem dX10_depthOn_11 : decode cX10_depthOn 11 = .ok (.iconst 4, 1) := by decide +kernel
theorem dX10_depthOn_12 : decode cX10_depthOn 12 = .ok (.iload_n 2, 1) := by decide +kernel
theorem dX10_depthOn_13 : decode cX10_depthOn 13 = .ok (.iadd, 1) := by decide +kernel
theorem dX10_depthOn_14 : decode cX10_depthOn 14 = .ok (.iaload, 1) := by decide +kernel
theorem dX10_depthOn_15 : decode cX10_depthOn 15 = .ok (.isub, 1) := by decide +kernel
theorem dX10_depthOn_16 : decode cX10_depthOn 16 = .ok (.invokestatic 147, 3) := by decide +kernel
theorem dX10_depthOn_19 : decode cX10_depthOn 19 = .ok (.ireturn, 1) := by decide +kernel
theorem dX10_unlike_0 : decode cX10_unlike 0 = .ok (.aload_n 0, 1) := by decide +kernel
theorem dX10_unlike_1 : decode cX10_unlike 1 = .ok (.aload_n 1, 1) := by decide +kernel
theorem dX10_unlike_2 : decode cX10_unlike 2 = .ok (.iload_n 2, 1) := by decide +kernel
theorem dX10_unlike_3 : decode cX10_unlike 3 = .ok (.invokevirtual 155, 3) := by decide +kernel
theorem dX10_unlike_6 : decode cX10_unlike 6 = .ok (.aload_n 0, 1) := by decide +kernel
theorem dX10_unlike_7 : decode cX10_unlike 7 = .ok (.aload_n 1, 1) := by decide +kernel
theorem dX10_unlike_8 : decode cX10_unlike 8 = .ok (.iload_n 2, 1) := by decide +kernel
theorem dX10_unlike_9 : decode cX10_unlike 9 = .ok (.iconst 1, 1) := by decide +kernel
theorem dX10_unlike_10 : decode cX10_unlike 10 = .ok (.iadd, 1) := by decide +kernel
theorem dX10_unlike_11 : decode cX10_unlike 11 = .ok (.invokevirtual 155, 3) := by decide +kernel
theorem dX10_unlike_14 : decode cX10_unlike 14 = .ok (.isub, 1) := by decide +kernel
theorem dX10_unlike_15 : decode cX10_unlike 15 = .ok (.istore_n 3, 1) := by decide +kernel
theorem dX10_unlike_16 : decode cX10_unlike 16 = .ok (.iload_n 3, 1) := by decide +kernel
theorem dX10_unlike_17 : decode cX10_unlike 17 = .ok (.ifCond .ge 8, 3) := by decide +kernel
theorem dX10_unlike_20 : decode cX10_unlike 20 = .ok (.iload_n 3, 1) := by decide +kernel
theorem dX10_unlike_21 : decode cX10_unlike 21 = .ok (.ineg, 1) := by decide +kernel
theorem dX10_unlike_22 : decode cX10_unlike 22 = .ok (.goto 4, 3) := by decide +kernel
theorem dX10_unlike_25 : decode cX10_unlike 25 = .ok (.iload_n 3, 1) := by decide +kernel
theorem dX10_unlike_26 : decode cX10_unlike 26 = .ok (.ireturn, 1) := by decide +kernel
theorem dX10_steepest_0 : decode cX10_steepest 0 = .ok (.iconst (-1), 1) := by decide +kernel
theorem dX10_steepest_1 : decode cX10_steepest 1 = .ok (.istore_n 2, 1) := by decide +kernel
theorem dX10_steepest_2 : decode cX10_steepest 2 = .ok (.iconst 0, 1) := by decide +kernel
theorem dX10_steepest_3 : decode cX10_steepest 3 = .ok (.istore_n 3, 1) := by decide +kernel
theorem dX10_steepest_4 : decode cX10_steepest 4 = .ok (.iload_n 3, 1) := by decide +kernel
theorem dX10_steepest_5 : decode cX10_steepest 5 = .ok (.iconst 1, 1) := by decide +kernel
theorem dX10_steepest_6 : decode cX10_steepest 6 = .ok (.iadd, 1) := by decide +kernel
theorem dX10_steepest_7 : decode cX10_steepest 7 = .ok (.aload_n 0, 1) := by decide +kernel
theorem dX10_steepest_8 : decode cX10_steepest 8 = .ok (.getfield 7, 3) := by decide +kernel
theorem dX10_steepest_11 : decode cX10_steepest 11 = .ok (.iconst 0, 1) := by decide +kernel
theorem dX10_steepest_12 : decode cX10_steepest 12 = .ok (.iaload, 1) := by decide +kernel
theorem dX10_steepest_13 : decode cX10_steepest 13 = .ok (.if_icmp .ge 35, 3) := by decide +kernel
theorem dX10_steepest_16 : decode cX10_steepest 16 = .ok (.iload_n 2, 1) := by decide +kernel
theorem dX10_steepest_17 : decode cX10_steepest 17 = .ok (.iconst (-1), 1) := by decide +kernel
theorem dX10_steepest_18 : decode cX10_steepest 18 = .ok (.if_icmp .eq 18, 3) := by decide +kernel
theorem dX10_steepest_21 : decode cX10_steepest 21 = .ok (.aload_n 0, 1) := by decide +kernel
theorem dX10_steepest_22 : decode cX10_steepest 22 = .ok (.aload_n 1, 1) := by decide +kernel
theorem dX10_steepest_23 : decode cX10_steepest 23 = .ok (.iload_n 3, 1) := by decide +kernel
theorem dX10_steepest_24 : decode cX10_steepest 24 = .ok (.invokevirtual 159, 3) := by decide +kernel
theorem dX10_steepest_27 : decode cX10_steepest 27 = .ok (.aload_n 0, 1) := by decide +kernel
theorem dX10_steepest_28 : decode cX10_steepest 28 = .ok (.aload_n 1, 1) := by decide +kernel
theorem dX10_steepest_29 : decode cX10_steepest 29 = .ok (.iload_n 2, 1) := by decide +kernel
theorem dX10_steepest_30 : decode cX10_steepest 30 = .ok (.invokevirtual 159, 3) := by decide +kernel
theorem dX10_steepest_33 : decode cX10_steepest 33 = .ok (.if_icmp .le 7, 3) := by decide +kernel
theorem dX10_steepest_36 : decode cX10_steepest 36 = .ok (.iload_n 3, 1) := by decide +kernel
theorem dX10_steepest_37 : decode cX10_steepest 37 = .ok (.goto 4, 3) := by decide +kernel
theorem dX10_steepest_40 : decode cX10_steepest 40 = .ok (.iload_n 2, 1) := by decide +kernel
theorem dX10_steepest_41 : decode cX10_steepest 41 = .ok (.istore_n 2, 1) := by decide +kernel
theorem dX10_steepest_42 : decode cX10_steepest 42 = .ok (.iinc 3 1, 3) := by decide +kernel
theorem dX10_steepest_45 : decode cX10_steepest 45 = .ok (.goto (-41), 3) := by decide +kernel
theorem dX10_steepest_48 : decode cX10_steepest 48 = .ok (.iload_n 2, 1) := by decide +kernel
theorem dX10_steepest_49 : decode cX10_steepest 49 = .ok (.ireturn, 1) := by decide +kernel
theorem dX10_slopeOn_0 : decode cX10_slopeOn 0 = .ok (.aload_n 0, 1) := by decide +kernel
theorem dX10_slopeOn_1 : decode cX10_slopeOn 1 = .ok (.aload_n 1, 1) := by decide +kernel
theorem dX10_slopeOn_2 : decode cX10_slopeOn 2 = .ok (.invokevirtual 162, 3) := by decide +kernel
theorem dX10_slopeOn_5 : decode cX10_slopeOn 5 = .ok (.istore_n 2, 1) := by decide +kernel
theorem dX10_slopeOn_6 : decode cX10_slopeOn 6 = .ok (.iload_n 2, 1) := by decide +kernel
theorem dX10_slopeOn_7 : decode cX10_slopeOn 7 = .ok (.iconst (-1), 1) := by decide +kernel
theorem dX10_slopeOn_8 : decode cX10_slopeOn 8 = .ok (.if_icmp .ne 7, 3) := by decide +kernel
theorem dX10_slopeOn_11 : decode cX10_slopeOn 11 = .ok (.iconst 0, 1) := by decide +kernel
theorem dX10_slopeOn_12 : decode cX10_slopeOn 12 = .ok (.goto 9, 3) := by decide +kernel
theorem dX10_slopeOn_15 : decode cX10_slopeOn 15 = .ok (.aload_n 0, 1) := by decide +kernel
theorem dX10_slopeOn_16 : decode cX10_slopeOn 16 = .ok (.aload_n 1, 1) := by decide +kernel
theorem dX10_slopeOn_17 : decode cX10_slopeOn 17 = .ok (.iload_n 2, 1) := by decide +kernel
theorem dX10_slopeOn_18 : decode cX10_slopeOn 18 = .ok (.invokevirtual 159, 3) := by decide +kernel
theorem dX10_slopeOn_21 : decode cX10_slopeOn 21 = .ok (.ireturn, 1) := by decide +kernel
theorem dX10_wet_0 : decode cX10_wet 0 = .ok (.iconst 0, 1) := by decide +kernel
theorem dX10_wet_1 : decode cX10_wet 1 = .ok (.istore_n 1, 1) := by decide +kernel
theorem dX10_wet_2 : decode cX10_wet 2 = .ok (.iconst 0, 1) := by decide +kernel
theorem dX10_wet_3 : decode cX10_wet 3 = .ok (.istore_n 2, 1) := by decide +kernel
theorem dX10_wet_4 : decode cX10_wet 4 = .ok (.iload_n 2, 1) := by decide +kernel
theorem dX10_wet_5 : decode cX10_wet 5 = .ok (.aload_n 0, 1) := by decide +kernel
theorem dX10_wet_6 : decode cX10_wet 6 = .ok (.getfield 7, 3) := by decide +kernel
theorem dX10_wet_9 : decode cX10_wet 9 = .ok (.iconst 0, 1) := by decide +kernel
theorem dX10_wet_10 : decode cX10_wet 10 = .ok (.iaload, 1) := by decide +kernel
theorem dX10_wet_11 : decode cX10_wet 11 = .ok (.if_icmp .ge 31, 3) := by decide +kernel
theorem dX10_wet_14 : decode cX10_wet 14 = .ok (.iload_n 1, 1) := by decide +kernel
theorem dX10_wet_15 : decode cX10_wet 15 = .ok (.aload_n 0, 1) := by decide +kernel
theorem dX10_wet_16 : decode cX10_wet 16 = .ok (.aload_n 0, 1) := by decide +kernel
theorem dX10_wet_17 : decode cX10_wet 17 = .ok (.getfield 16, 3) := by decide +kernel
theorem dX10_wet_20 : decode cX10_wet 20 = .ok (.iload_n 2, 1) := by decide +kernel
theorem dX10_wet_21 : decode cX10_wet 21 = .ok (.invokevirtual 166, 3) := by decide +kernel
theorem dX10_wet_24 : decode cX10_wet 24 = .ok (.ifCond .le 9, 3) := by decide +kernel
theorem dX10_wet_27 : decode cX10_wet 27 = .ok (.iconst 1, 1) := by decide +kernel
theorem dX10_wet_28 : decode cX10_wet 28 = .ok (.iload_n 2, 1) := by decide +kernel
theorem dX10_wet_29 : decode cX10_wet 29 = .ok (.ishl, 1) := by decide +kernel
theorem dX10_wet_30 : decode cX10_wet 30 = .ok (.goto 4, 3) := by decide +kernel
theorem dX10_wet_33 : decode cX10_wet 33 = .ok (.iconst 0, 1) := by decide +kernel
theorem dX10_wet_34 : decode cX10_wet 34 = .ok (.ior, 1) := by decide +kernel
theorem dX10_wet_35 : decode cX10_wet 35 = .ok (.istore_n 1, 1) := by decide +kernel
theorem dX10_wet_36 : decode cX10_wet 36 = .ok (.iinc 2 1, 3) := by decide +kernel
theorem dX10_wet_39 : decode cX10_wet 39 = .ok (.goto (-35), 3) := by decide +kernel
theorem dX10_wet_42 : decode cX10_wet 42 = .ok (.iload_n 1, 1) := by decide +kernel
theorem dX10_wet_43 : decode cX10_wet 43 = .ok (.ireturn, 1) := by decide +kernel
theorem dX10_strongest_0 : decode cX10_strongest 0 = .ok (.iconst (-1), 1) := by decide +kernel
theorem dX10_strongest_1 : decode cX10_strongest 1 = .ok (.istore_n 2, 1) := by decide +kernel
theorem dX10_strongest_2 : decode cX10_strongest 2 = .ok (.iconst 0, 1) := by decide +kernel
theorem dX10_strongest_3 : decode cX10_strongest 3 = .ok (.istore_n 3, 1) := by decide +kernel
theorem dX10_strongest_4 : decode cX10_strongest 4 = .ok (.iload_n 3, 1) := by decide +kernel
theorem dX10_strongest_5 : decode cX10_strongest 5 = .ok (.aload_n 0, 1) := by decide +kernel
theorem dX10_strongest_6 : decode cX10_strongest 6 = .ok (.getfield 7, 3) := by decide +kernel
theorem dX10_strongest_9 : decode cX10_strongest 9 = .ok (.iconst 1, 1) := by decide +kernel
theorem dX10_strongest_10 : decode cX10_strongest 10 = .ok (.iaload, 1) := by decide +kernel
theorem dX10_strongest_11 : decode cX10_strongest 11 = .ok (.if_icmp .ge 47, 3) := by decide +kernel
theorem dX10_strongest_14 : decode cX10_strongest 14 = .ok (.aload_n 0, 1) := by decide +kernel
theorem dX10_strongest_15 : decode cX10_strongest 15 = .ok (.aload_n 0, 1) := by decide +kernel
theorem dX10_strongest_16 : decode cX10_strongest 16 = .ok (.getfield 16, 3) := by decide +kernel
theorem dX10_strongest_19 : decode cX10_strongest 19 = .ok (.iload_n 3, 1) := by decide +kernel
theorem dX10_strongest_20 : decode cX10_strongest 20 = .ok (.iload_n 1, 1) := by decide +kernel
theorem dX10_strongest_21 : decode cX10_strongest 21 = .ok (.invokevirtual 151, 3) := by decide +kernel
theorem dX10_strongest_24 : decode cX10_strongest 24 = .ok (.iload_n 2, 1) := by decide +kernel
theorem dX10_strongest_25 : decode cX10_strongest 25 = .ok (.iconst (-1), 1) := by decide +kernel
theorem dX10_strongest_26 : decode cX10_strongest 26 = .ok (.if_icmp .ne 7, 3) := by decide +kernel
theorem dX10_strongest_29 : decode cX10_strongest 29 = .ok (.iconst 0, 1) := by decide +kernel
theorem dX10_strongest_30 : decode cX10_strongest 30 = .ok (.goto 13, 3) := by decide +kernel
theorem dX10_strongest_33 : decode cX10_strongest 33 = .ok (.aload_n 0, 1) := by decide +kernel
theorem dX10_strongest_34 : decode cX10_strongest 34 = .ok (.aload_n 0, 1) := by decide +kernel
theorem dX10_strongest_35 : decode cX10_strongest 35 = .ok (.getfield 16, 3) := by decide +kernel
theorem dX10_strongest_38 : decode cX10_strongest 38 = .ok (.iload_n 2, 1) := by decide +kernel
theorem dX10_strongest_39 : decode cX10_strongest 39 = .ok (.iload_n 1, 1) := by decide +kernel
theorem dX10_strongest_40 : decode cX10_strongest 40 = .ok (.invokevirtual 151, 3) := by decide +kernel
theorem dX10_strongest_43 : decode cX10_strongest 43 = .ok (.if_icmp .le 7, 3) := by decide +kernel
theorem dX10_strongest_46 : decode cX10_strongest 46 = .ok (.iload_n 3, 1) := by decide +kernel
theorem dX10_strongest_47 : decode cX10_strongest 47 = .ok (.goto 4, 3) := by decide +kernel
theorem dX10_strongest_50 : decode cX10_strongest 50 = .ok (.iload_n 2, 1) := by decide +kernel
theorem dX10_strongest_51 : decode cX10_strongest 51 = .ok (.istore_n 2, 1) := by decide +kernel
theorem dX10_strongest_52 : decode cX10_strongest 52 = .ok (.iinc 3 1, 3) := by decide +kernel
theorem dX10_strongest_55 : decode cX10_strongest 55 = .ok (.goto (-51), 3) := by decide +kernel
theorem dX10_strongest_58 : decode cX10_strongest 58 = .ok (.iload_n 2, 1) := by decide +kernel
theorem dX10_strongest_59 : decode cX10_strongest 59 = .ok (.ireturn, 1) := by decide +kernel
theorem dX10_sitterOn_0 : decode cX10_sitterOn 0 = .ok (.iconst (-1), 1) := by decide +kernel
theorem dX10_sitterOn_1 : decode cX10_sitterOn 1 = .ok (.istore_n 3, 1) := by decide +kernel
theorem dX10_sitterOn_2 : decode cX10_sitterOn 2 = .ok (.iconst 0, 1) := by decide +kernel
theorem dX10_sitterOn_3 : decode cX10_sitterOn 3 = .ok (.istore 4, 2) := by decide +kernel
theorem dX10_sitterOn_5 : decode cX10_sitterOn 5 = .ok (.iload 4, 2) := by decide +kernel
theorem dX10_sitterOn_7 : decode cX10_sitterOn 7 = .ok (.aload_n 0, 1) := by decide +kernel
theorem dX10_sitterOn_8 : decode cX10_sitterOn 8 = .ok (.getfield 7, 3) := by decide +kernel
theorem dX10_sitterOn_11 : decode cX10_sitterOn 11 = .ok (.iconst 2, 1) := by decide +kernel
theorem dX10_sitterOn_12 : decode cX10_sitterOn 12 = .ok (.iaload, 1) := by decide +kernel
theorem dX10_sitterOn_13 : decode cX10_sitterOn 13 = .ok (.if_icmp .ge 27, 3) := by decide +kernel
theorem dX10_sitterOn_16 : decode cX10_sitterOn 16 = .ok (.aload_n 1, 1) := by decide +kernel
theorem dX10_sitterOn_17 : decode cX10_sitterOn 17 = .ok (.bipush 12, 2) := by decide +kernel
theorem dX10_sitterOn_19 : decode cX10_sitterOn 19 = .ok (.iload 4, 2) := by decide +kernel
theorem dX10_sitterOn_21 : decode cX10_sitterOn 21 = .ok (.iadd, 1) := by decide +kernel
theorem dX10_sitterOn_22 : decode cX10_sitterOn 22 = .ok (.iaload, 1) := by decide +kernel
theorem dX10_sitterOn_23 : decode cX10_sitterOn 23 = .ok (.iload_n 2, 1) := by decide +kernel
theorem dX10_sitterOn_24 : decode cX10_sitterOn 24 = .ok (.if_icmp .ne 8, 3) := by decide +kernel
theorem dX10_sitterOn_27 : decode cX10_sitterOn 27 = .ok (.iload 4, 2) := by decide +kernel
theorem dX10_sitterOn_29 : decode cX10_sitterOn 29 = .ok (.goto 4, 3) := by decide +kernel
theorem dX10_sitterOn_32 : decode cX10_sitterOn 32 = .ok (.iload_n 3, 1) := by decide +kernel
theorem dX10_sitterOn_33 : decode cX10_sitterOn 33 = .ok (.istore_n 3, 1) := by decide +kernel
theorem dX10_sitterOn_34 : decode cX10_sitterOn 34 = .ok (.iinc 4 1, 3) := by decide +kernel
theorem dX10_sitterOn_37 : decode cX10_sitterOn 37 = .ok (.goto (-32), 3) := by decide +kernel
theorem dX10_sitterOn_40 : decode cX10_sitterOn 40 = .ok (.iload_n 3, 1) := by decide +kernel
theorem dX10_sitterOn_41 : decode cX10_sitterOn 41 = .ok (.ireturn, 1) := by decide +kernel
theorem dX10_boats_0 : decode cX10_boats 0 = .ok (.iconst 0, 1) := by decide +kernel
theorem dX10_boats_1 : decode cX10_boats 1 = .ok (.istore_n 2, 1) := by decide +kernel
theorem dX10_boats_2 : decode cX10_boats 2 = .ok (.iconst 0, 1) := by decide +kernel
theorem dX10_boats_3 : decode cX10_boats 3 = .ok (.istore_n 3, 1) := by decide +kernel
theorem dX10_boats_4 : decode cX10_boats 4 = .ok (.iload_n 3, 1) := by decide +kernel
theorem dX10_boats_5 : decode cX10_boats 5 = .ok (.aload_n 0, 1) := by decide +kernel
theorem dX10_boats_6 : decode cX10_boats 6 = .ok (.getfield 7, 3) := by decide +kernel
theorem dX10_boats_9 : decode cX10_boats 9 = .ok (.iconst 3, 1) := by decide +kernel
theorem dX10_boats_10 : decode cX10_boats 10 = .ok (.iaload, 1) := by decide +kernel
theorem dX10_boats_11 : decode cX10_boats 11 = .ok (.if_icmp .ge 93, 3) := by decide +kernel
theorem dX10_boats_14 : decode cX10_boats 14 = .ok (.iload_n 1, 1) := by decide +kernel
theorem dX10_boats_15 : decode cX10_boats 15 = .ok (.ifCond .eq 40, 3) := by decide +kernel
theorem dX10_boats_18 : decode cX10_boats 18 = .ok (.aload_n 0, 1) := by decide +kernel
theorem dX10_boats_19 : decode cX10_boats 19 = .ok (.aload_n 0, 1) := by decide +kernel
theorem dX10_boats_20 : decode cX10_boats 20 = .ok (.getfield 16, 3) := by decide +kernel
theorem dX10_boats_23 : decode cX10_boats 23 = .ok (.aload_n 0, 1) := by decide +kernel
theorem dX10_boats_24 : decode cX10_boats 24 = .ok (.getfield 16, 3) := by decide +kernel
theorem dX10_boats_27 : decode cX10_boats 27 = .ok (.bipush 19, 2) := by decide +kernel
theorem dX10_boats_29 : decode cX10_boats 29 = .ok (.iload_n 3, 1) := by decide +kernel
theorem dX10_boats_30 : decode cX10_boats 30 = .ok (.iadd, 1) := by decide +kernel
theorem dX10_boats_31 : decode cX10_boats 31 = .ok (.iaload, 1) := by decide +kernel
theorem dX10_boats_32 : decode cX10_boats 32 = .ok (.invokevirtual 166, 3) := by decide +kernel
theorem dX10_boats_35 : decode cX10_boats 35 = .ok (.aload_n 0, 1) := by decide +kernel
theorem dX10_boats_36 : decode cX10_boats 36 = .ok (.getfield 7, 3) := by decide +kernel
theorem dX10_boats_39 : decode cX10_boats 39 = .ok (.bipush 32, 2) := by decide +kernel
theorem dX10_boats_41 : decode cX10_boats 41 = .ok (.iload_n 3, 1) := by decide +kernel
theorem dX10_boats_42 : decode cX10_boats 42 = .ok (.iadd, 1) := by decide +kernel
theorem dX10_boats_43 : decode cX10_boats 43 = .ok (.iaload, 1) := by decide +kernel
theorem dX10_boats_44 : decode cX10_boats 44 = .ok (.if_icmp .ge 7, 3) := by decide +kernel
theorem dX10_boats_47 : decode cX10_boats 47 = .ok (.iconst 1, 1) := by decide +kernel
theorem dX10_boats_48 : decode cX10_boats 48 = .ok (.goto 33, 3) := by decide +kernel
theorem dX10_boats_51 : decode cX10_boats 51 = .ok (.iconst 0, 1) := by decide +kernel
theorem dX10_boats_52 : decode cX10_boats 52 = .ok (.goto 29, 3) := by decide +kernel
theorem dX10_boats_55 : decode cX10_boats 55 = .ok (.aload_n 0, 1) := by decide +kernel
theorem dX10_boats_56 : decode cX10_boats 56 = .ok (.getfield 16, 3) := by decide +kernel
theorem dX10_boats_59 : decode cX10_boats 59 = .ok (.bipush 19, 2) := by decide +kernel
theorem dX10_boats_61 : decode cX10_boats 61 = .ok (.iload_n 3, 1) := by decide +kernel
theorem dX10_boats_62 : decode cX10_boats 62 = .ok (.iadd, 1) := by decide +kernel
theorem dX10_boats_63 : decode cX10_boats 63 = .ok (.iaload, 1) := by decide +kernel
theorem dX10_boats_64 : decode cX10_boats 64 = .ok (.aload_n 0, 1) := by decide +kernel
theorem dX10_boats_65 : decode cX10_boats 65 = .ok (.getfield 7, 3) := by decide +kernel
theorem dX10_boats_68 : decode cX10_boats 68 = .ok (.bipush 40, 2) := by decide +kernel
theorem dX10_boats_70 : decode cX10_boats 70 = .ok (.iload_n 3, 1) := by decide +kernel
theorem dX10_boats_71 : decode cX10_boats 71 = .ok (.iadd, 1) := by decide +kernel
theorem dX10_boats_72 : decode cX10_boats 72 = .ok (.iaload, 1) := by decide +kernel
theorem dX10_boats_73 : decode cX10_boats 73 = .ok (.if_icmp .ne 7, 3) := by decide +kernel
theorem dX10_boats_76 : decode cX10_boats 76 = .ok (.iconst 1, 1) := by decide +kernel
theorem dX10_boats_77 : decode cX10_boats 77 = .ok (.goto 4, 3) := by decide +kernel
theorem dX10_boats_80 : decode cX10_boats 80 = .ok (.iconst 0, 1) := by decide +kernel
theorem dX10_boats_81 : decode cX10_boats 81 = .ok (.istore 4, 2) := by decide +kernel
theorem dX10_boats_83 : decode cX10_boats 83 = .ok (.iload_n 2, 1) := by decide +kernel
theorem dX10_boats_84 : decode cX10_boats 84 = .ok (.iload 4, 2) := by decide +kernel
theorem dX10_boats_86 : decode cX10_boats 86 = .ok (.ifCond .eq 9, 3) := by decide +kernel
theorem dX10_boats_89 : decode cX10_boats 89 = .ok (.iconst 1, 1) := by decide +kernel
theorem dX10_boats_90 : decode cX10_boats 90 = .ok (.iload_n 3, 1) := by decide +kernel
theorem dX10_boats_91 : decode cX10_boats 91 = .ok (.ishl, 1) := by decide +kernel
theorem dX10_boats_92 : decode cX10_boats 92 = .ok (.goto 4, 3) := by decide +kernel
theorem dX10_boats_95 : decode cX10_boats 95 = .ok (.iconst 0, 1) := by decide +kernel
theorem dX10_boats_96 : decode cX10_boats 96 = .ok (.ior, 1) := by decide +kernel
theorem dX10_boats_97 : decode cX10_boats 97 = .ok (.istore_n 2, 1) := by decide +kernel
theorem dX10_boats_98 : decode cX10_boats 98 = .ok (.iinc 3 1, 3) := by decide +kernel
theorem dX10_boats_101 : decode cX10_boats 101 = .ok (.goto (-97), 3) := by decide +kernel
theorem dX10_boats_104 : decode cX10_boats 104 = .ok (.iload_n 2, 1) := by decide +kernel
theorem dX10_boats_105 : decode cX10_boats 105 = .ok (.ireturn, 1) := by decide +kernel
theorem dX10_whoSits_0 : decode cX10_whoSits 0 = .ok (.iconst 0, 1) := by decide +kernel
theorem dX10_whoSits_1 : decode cX10_whoSits 1 = .ok (.istore_n 1, 1) := by decide +kernel
theorem dX10_whoSits_2 : decode cX10_whoSits 2 = .ok (.iconst 0, 1) := by decide +kernel
theorem dX10_whoSits_3 : decode cX10_whoSits 3 = .ok (.istore_n 2, 1) := by decide +kernel
theorem dX10_whoSits_4 : decode cX10_whoSits 4 = .ok (.iload_n 2, 1) := by decide +kernel
theorem dX10_whoSits_5 : decode cX10_whoSits 5 = .ok (.aload_n 0, 1) := by decide +kernel
theorem dX10_whoSits_6 : decode cX10_whoSits 6 = .ok (.getfield 7, 3) := by decide +kernel
theorem dX10_whoSits_9 : decode cX10_whoSits 9 = .ok (.iconst 2, 1) := by decide +kernel
theorem dX10_whoSits_10 : decode cX10_whoSits 10 = .ok (.iaload, 1) := by decide +kernel
theorem dX10_whoSits_11 : decode cX10_whoSits 11 = .ok (.if_icmp .ge 32, 3) := by decide +kernel
theorem dX10_whoSits_14 : decode cX10_whoSits 14 = .ok (.iload_n 1, 1) := by decide +kernel
theorem dX10_whoSits_15 : decode cX10_whoSits 15 = .ok (.aload_n 0, 1) := by decide +kernel
theorem dX10_whoSits_16 : decode cX10_whoSits 16 = .ok (.getfield 16, 3) := by decide +kernel
theorem dX10_whoSits_19 : decode cX10_whoSits 19 = .ok (.bipush 12, 2) := by decide +kernel
theorem dX10_whoSits_21 : decode cX10_whoSits 21 = .ok (.iload_n 2, 1) := by decide +kernel
theorem dX10_whoSits_22 : decode cX10_whoSits 22 = .ok (.iadd, 1) := by decide +kernel
theorem dX10_whoSits_23 : decode cX10_whoSits 23 = .ok (.iaload, 1) := by decide +kernel
theorem dX10_whoSits_24 : decode cX10_whoSits 24 = .ok (.iconst (-1), 1) := by decide +kernel
theorem dX10_whoSits_25 : decode cX10_whoSits 25 = .ok (.if_icmp .ne 7, 3) := by decide +kernel
theorem dX10_whoSits_28 : decode cX10_whoSits 28 = .ok (.iconst 0, 1) := by decide +kernel
theorem dX10_whoSits_29 : decode cX10_whoSits 29 = .ok (.goto 6, 3) := by decide +kernel
theorem dX10_whoSits_32 : decode cX10_whoSits 32 = .ok (.iconst 1, 1) := by decide +kernel
theorem dX10_whoSits_33 : decode cX10_whoSits 33 = .ok (.iload_n 2, 1) := by decide +kernel
theorem dX10_whoSits_34 : decode cX10_whoSits 34 = .ok (.ishl, 1) := by decide +kernel
theorem dX10_whoSits_35 : decode cX10_whoSits 35 = .ok (.ior, 1) := by decide +kernel
theorem dX10_whoSits_36 : decode cX10_whoSits 36 = .ok (.istore_n 1, 1) := by decide +kernel
theorem dX10_whoSits_37 : decode cX10_whoSits 37 = .ok (.iinc 2 1, 3) := by decide +kernel
theorem dX10_whoSits_40 : decode cX10_whoSits 40 = .ok (.goto (-36), 3) := by decide +kernel
theorem dX10_whoSits_43 : decode cX10_whoSits 43 = .ok (.iload_n 1, 1) := by decide +kernel
theorem dX10_whoSits_44 : decode cX10_whoSits 44 = .ok (.ireturn, 1) := by decide +kernel
theorem dX10_guts_0 : decode cX10_guts 0 = .ok (.iconst 0, 1) := by decide +kernel
theorem dX10_guts_1 : decode cX10_guts 1 = .ok (.istore_n 1, 1) := by decide +kernel
theorem dX10_guts_2 : decode cX10_guts 2 = .ok (.iconst 1, 1) := by decide +kernel
theorem dX10_guts_3 : decode cX10_guts 3 = .ok (.istore_n 2, 1) := by decide +kernel
theorem dX10_guts_4 : decode cX10_guts 4 = .ok (.iload_n 2, 1) := by decide +kernel
theorem dX10_guts_5 : decode cX10_guts 5 = .ok (.bipush 21, 2) := by decide +kernel
theorem dX10_guts_7 : decode cX10_guts 7 = .ok (.if_icmp .ge 90, 3) := by decide +kernel
theorem dX10_guts_10 : decode cX10_guts 10 = .ok (.iconst 1, 1) := by decide +kernel
theorem dX10_guts_11 : decode cX10_guts 11 = .ok (.istore_n 3, 1) := by decide +kernel
theorem dX10_guts_12 : decode cX10_guts 12 = .ok (.iconst 0, 1) := by decide +kernel
theorem dX10_guts_13 : decode cX10_guts 13 = .ok (.istore 4, 2) := by decide +kernel
theorem dX10_guts_15 : decode cX10_guts 15 = .ok (.iload 4, 2) := by decide +kernel
theorem dX10_guts_17 : decode cX10_guts 17 = .ok (.iconst 3, 1) := by decide +kernel
theorem dX10_guts_18 : decode cX10_guts 18 = .ok (.aload_n 0, 1) := by decide +kernel
theorem dX10_guts_19 : decode cX10_guts 19 = .ok (.getfield 78, 3) := by decide +kernel
theorem dX10_guts_22 : decode cX10_guts 22 = .ok (.imul, 1) := by decide +kernel
theorem dX10_guts_23 : decode cX10_guts 23 = .ok (.if_icmp .ge 54, 3) := by decide +kernel
theorem dX10_guts_26 : decode cX10_guts 26 = .ok (.iload_n 3, 1) := by decide +kernel
theorem dX10_guts_27 : decode cX10_guts 27 = .ok (.ifCond .eq 42, 3) := by decide +kernel
theorem dX10_guts_30 : decode cX10_guts 30 = .ok (.iconst 0, 1) := by decide +kernel
theorem dX10_guts_31 : decode cX10_guts 31 = .ok (.aload_n 0, 1) := by decide +kernel
theorem dX10_guts_32 : decode cX10_guts 32 = .ok (.getfield 42, 3) := by decide +kernel
theorem dX10_guts_35 : decode cX10_guts 35 = .ok (.iload 4, 2) := by decide +kernel
theorem dX10_guts_37 : decode cX10_guts 37 = .ok (.iaload, 1) := by decide +kernel
theorem dX10_guts_38 : decode cX10_guts 38 = .ok (.iload_n 2, 1) := by decide +kernel
theorem dX10_guts_39 : decode cX10_guts 39 = .ok (.aload_n 0, 1) := by decide +kernel
theorem dX10_guts_40 : decode cX10_guts 40 = .ok (.getfield 42, 3) := by decide +kernel
theorem dX10_guts_43 : decode cX10_guts 43 = .ok (.iload 4, 2) := by decide +kernel
theorem dX10_guts_45 : decode cX10_guts 45 = .ok (.iconst 1, 1) := by decide +kernel
theorem dX10_guts_46 : decode cX10_guts 46 = .ok (.iadd, 1) := by decide +kernel
theorem dX10_guts_47 : decode cX10_guts 47 = .ok (.iaload, 1) := by decide +kernel
theorem dX10_guts_48 : decode cX10_guts 48 = .ok (.imul, 1) := by decide +kernel
theorem dX10_guts_49 : decode cX10_guts 49 = .ok (.isub, 1) := by decide +kernel
theorem dX10_guts_50 : decode cX10_guts 50 = .ok (.invokestatic 147, 3) := by decide +kernel
theorem dX10_guts_53 : decode cX10_guts 53 = .ok (.aload_n 0, 1) := by decide +kernel
theorem dX10_guts_54 : decode cX10_guts 54 = .ok (.getfield 42, 3) := by decide +kernel
theorem dX10_guts_57 : decode cX10_guts 57 = .ok (.iload 4, 2) := by decide +kernel
theorem dX10_guts_59 : decode cX10_guts 59 = .ok (.iconst 2, 1) := by decide +kernel
theorem dX10_guts_60 : decode cX10_guts 60 = .ok (.iadd, 1) := by decide +kernel
theorem dX10_guts_61 : decode cX10_guts 61 = .ok (.iaload, 1) := by decide +kernel
theorem dX10_guts_62 : decode cX10_guts 62 = .ok (.if_icmp .ne 7, 3) := by decide +kernel
theorem dX10_guts_65 : decode cX10_guts 65 = .ok (.iconst 1, 1) := by decide +kernel
theorem dX10_guts_66 : decode cX10_guts 66 = .ok (.goto 4, 3) := by decide +kernel
theorem dX10_guts_69 : decode cX10_guts 69 = .ok (.iconst 0, 1) := by decide +kernel
theorem dX10_guts_70 : decode cX10_guts 70 = .ok (.istore_n 3, 1) := by decide +kernel
theorem dX10_guts_71 : decode cX10_guts 71 = .ok (.iinc 4 3, 3) := by decide +kernel
theorem dX10_guts_74 : decode cX10_guts 74 = .ok (.goto (-59), 3) := by decide +kernel
theorem dX10_guts_77 : decode cX10_guts 77 = .ok (.iload_n 1, 1) := by decide +kernel
theorem dX10_guts_78 : decode cX10_guts 78 = .ok (.iload_n 3, 1) := by decide +kernel
theorem dX10_guts_79 : decode cX10_guts 79 = .ok (.ifCond .eq 9, 3) := by decide +kernel
theorem dX10_guts_82 : decode cX10_guts 82 = .ok (.iconst 1, 1) := by decide +kernel
theorem dX10_guts_83 : decode cX10_guts 83 = .ok (.iload_n 2, 1) := by decide +kernel
theorem dX10_guts_84 : decode cX10_guts 84 = .ok (.ishl, 1) := by decide +kernel
theorem dX10_guts_85 : decode cX10_guts 85 = .ok (.goto 4, 3) := by decide +kernel
theorem dX10_guts_88 : decode cX10_guts 88 = .ok (.iconst 0, 1) := by decide +kernel
theorem dX10_guts_89 : decode cX10_guts 89 = .ok (.ior, 1) := by decide +kernel
theorem dX10_guts_90 : decode cX10_guts 90 = .ok (.istore_n 1, 1) := by decide +kernel
theorem dX10_guts_91 : decode cX10_guts 91 = .ok (.iinc 2 1, 3) := by decide +kernel
theorem dX10_guts_94 : decode cX10_guts 94 = .ok (.goto (-90), 3) := by decide +kernel
theorem dX10_guts_97 : decode cX10_guts 97 = .ok (.iload_n 1, 1) := by decide +kernel
theorem dX10_guts_98 : decode cX10_guts 98 = .ok (.ireturn, 1) := by decide +kernel
theorem dX10_told_0 : decode cX10_told 0 = .ok (.iload_n 1, 1) := by decide +kernel
theorem dX10_told_1 : decode cX10_told 1 = .ok (.tableswitch 189 0 18 #[91, 91, 91, 91, 98, 103, 111, 120, 129, 134, 140, 146, 151, 159, 164, 169, 174, 179, 184], 91) := by decide +kernel
theorem dX10_told_92 : decode cX10_told 92 = .ok (.aload_n 0, 1) := by decide +kernel
theorem dX10_told_93 : decode cX10_told 93 = .ok (.getfield 7, 3) := by decide +kernel
theorem dX10_told_96 : decode cX10_told 96 = .ok (.iload_n 1, 1) := by decide +kernel
theorem dX10_told_97 : decode cX10_told 97 = .ok (.iaload, 1) := by decide +kernel
theorem dX10_told_98 : decode cX10_told 98 = .ok (.ireturn, 1) := by decide +kernel
theorem dX10_told_99 : decode cX10_told 99 = .ok (.aload_n 0, 1) := by decide +kernel
theorem dX10_told_100 : decode cX10_told 100 = .ok (.getfield 87, 3) := by decide +kernel
theorem dX10_told_103 : decode cX10_told 103 = .ok (.ireturn, 1) := by decide +kernel
theorem dX10_told_104 : decode cX10_told 104 = .ok (.aload_n 0, 1) := by decide +kernel
theorem dX10_told_105 : decode cX10_told 105 = .ok (.getfield 16, 3) := by decide +kernel
theorem dX10_told_108 : decode cX10_told 108 = .ok (.bipush 23, 2) := by decide +kernel
theorem dX10_told_110 : decode cX10_told 110 = .ok (.iaload, 1) := by decide +kernel
theorem dX10_told_111 : decode cX10_told 111 = .ok (.ireturn, 1) := by decide +kernel
theorem dX10_told_112 : decode cX10_told 112 = .ok (.aload_n 0, 1) := by decide +kernel
theorem dX10_told_113 : decode cX10_told 113 = .ok (.aload_n 0, 1) := by decide +kernel
theorem dX10_told_114 : decode cX10_told 114 = .ok (.getfield 16, 3) := by decide +kernel
theorem dX10_told_117 : decode cX10_told 117 = .ok (.invokevirtual 169, 3) := by decide +kernel
theorem dX10_told_120 : decode cX10_told 120 = .ok (.ireturn, 1) := by decide +kernel
theorem dX10_told_121 : decode cX10_told 121 = .ok (.aload_n 0, 1) := by decide +kernel
theorem dX10_told_122 : decode cX10_told 122 = .ok (.aload_n 0, 1) := by decide +kernel
theorem dX10_told_123 : decode cX10_told 123 = .ok (.getfield 16, 3) := by decide +kernel
theorem dX10_told_126 : decode cX10_told 126 = .ok (.invokevirtual 162, 3) := by decide +kernel
theorem dX10_told_129 : decode cX10_told 129 = .ok (.ireturn, 1) := by decide +kernel
theorem dX10_told_130 : decode cX10_told 130 = .ok (.aload_n 0, 1) := by decide +kernel
theorem dX10_told_131 : decode cX10_told 131 = .ok (.invokevirtual 172, 3) := by decide +kernel
theorem dX10_told_134 : decode cX10_told 134 = .ok (.ireturn, 1) := by decide +kernel
theorem dX10_told_135 : decode cX10_told 135 = .ok (.aload_n 0, 1) := by decide +kernel
theorem dX10_told_136 : decode cX10_told 136 = .ok (.iconst 1, 1) := by decide +kernel
theorem dX10_told_137 : decode cX10_told 137 = .ok (.invokevirtual 175, 3) := by decide +kernel
theorem dX10_told_140 : decode cX10_told 140 = .ok (.ireturn, 1) := by decide +kernel
theorem dX10_told_141 : decode cX10_told 141 = .ok (.aload_n 0, 1) := by decide +kernel
theorem dX10_told_142 : decode cX10_told 142 = .ok (.iconst 0, 1) := by decide +kernel
theorem dX10_told_143 : decode cX10_told 143 = .ok (.invokevirtual 175, 3) := by decide +kernel
theorem dX10_told_146 : decode cX10_told 146 = .ok (.ireturn, 1) := by decide +kernel
theorem dX10_told_147 : decode cX10_told 147 = .ok (.aload_n 0, 1) := by decide +kernel
theorem dX10_told_148 : decode cX10_told 148 = .ok (.invokevirtual 179, 3) := by decide +kernel
theorem dX10_told_151 : decode cX10_told 151 = .ok (.ireturn, 1) := by decide +kernel
theorem dX10_told_152 : decode cX10_told 152 = .ok (.aload_n 0, 1) := by decide +kernel
theorem dX10_told_153 : decode cX10_told 153 = .ok (.getfield 16, 3) := by decide +kernel
theorem dX10_told_156 : decode cX10_told 156 = .ok (.bipush 18, 2) := by decide +kernel
theorem dX10_told_158 : decode cX10_told 158 = .ok (.iaload, 1) := by decide +kernel
theorem dX10_told_159 : decode cX10_told 159 = .ok (.ireturn, 1) := by decide +kernel
theorem dX10_told_160 : decode cX10_told 160 = .ok (.aload_n 0, 1) := by decide +kernel
theorem dX10_told_161 : decode cX10_told 161 = .ok (.getfield 75, 3) := by decide +kernel
theorem dX10_told_164 : decode cX10_told 164 = .ok (.ireturn, 1) := by decide +kernel
theorem dX10_told_165 : decode cX10_told 165 = .ok (.aload_n 0, 1) := by decide +kernel
theorem dX10_told_166 : decode cX10_told 166 = .ok (.invokevirtual 182, 3) := by decide +kernel
theorem dX10_told_169 : decode cX10_told 169 = .ok (.ireturn, 1) := by decide +kernel
theorem dX10_told_170 : decode cX10_told 170 = .ok (.aload_n 0, 1) := by decide +kernel
theorem dX10_told_171 : decode cX10_told 171 = .ok (.getfield 78, 3) := by decide +kernel
theorem dX10_told_174 : decode cX10_told 174 = .ok (.ireturn, 1) := by decide +kernel
theorem dX10_told_175 : decode cX10_told 175 = .ok (.aload_n 0, 1) := by decide +kernel
theorem dX10_told_176 : decode cX10_told 176 = .ok (.invokevirtual 185, 3) := by decide +kernel
theorem dX10_told_179 : decode cX10_told 179 = .ok (.ireturn, 1) := by decide +kernel
theorem dX10_told_180 : decode cX10_told 180 = .ok (.aload_n 0, 1) := by decide +kernel
theorem dX10_told_181 : decode cX10_told 181 = .ok (.getfield 81, 3) := by decide +kernel
theorem dX10_told_184 : decode cX10_told 184 = .ok (.ireturn, 1) := by decide +kernel
theorem dX10_told_185 : decode cX10_told 185 = .ok (.aload_n 0, 1) := by decide +kernel
theorem dX10_told_186 : decode cX10_told 186 = .ok (.getfield 72, 3) := by decide +kernel
theorem dX10_told_189 : decode cX10_told 189 = .ok (.ireturn, 1) := by decide +kernel
theorem dX10_told_190 : decode cX10_told 190 = .ok (.ldc 86, 2) := by decide +kernel
theorem dX10_told_192 : decode cX10_told 192 = .ok (.ireturn, 1) := by decide +kernel
theorem dX10_cell_0 : decode cX10_cell 0 = .ok (.aload_n 0, 1) := by decide +kernel
theorem dX10_cell_1 : decode cX10_cell 1 = .ok (.iload_n 1, 1) := by decide +kernel
theorem dX10_cell_2 : decode cX10_cell 2 = .ok (.invokevirtual 188, 3) := by decide +kernel
theorem dX10_cell_5 : decode cX10_cell 5 = .ok (.ifCond .ne 6, 3) := by decide +kernel
theorem dX10_cell_8 : decode cX10_cell 8 = .ok (.ldc 191, 2) := by decide +kernel
theorem dX10_cell_10 : decode cX10_cell 10 = .ok (.ireturn, 1) := by decide +kernel
theorem dX10_cell_11 : decode cX10_cell 11 = .ok (.iload_n 2, 1) := by decide +kernel
theorem dX10_cell_12 : decode cX10_cell 12 = .ok (.tableswitch 67 0 3 #[32, 41, 51, 61], 32) := by decide +kernel
theorem dX10_cell_44 : decode cX10_cell 44 = .ok (.aload_n 0, 1) := by decide +kernel
theorem dX10_cell_45 : decode cX10_cell 45 = .ok (.getfield 7, 3) := by decide +kernel
theorem dX10_cell_48 : decode cX10_cell 48 = .ok (.iconst 4, 1) := by decide +kernel
theorem dX10_cell_49 : decode cX10_cell 49 = .ok (.iload_n 1, 1) := by decide +kernel
theorem dX10_cell_50 : decode cX10_cell 50 = .ok (.iadd, 1) := by decide +kernel
theorem dX10_cell_51 : decode cX10_cell 51 = .ok (.iaload, 1) := by decide +kernel
theorem dX10_cell_52 : decode cX10_cell 52 = .ok (.ireturn, 1) := by decide +kernel
theorem dX10_cell_53 : decode cX10_cell 53 = .ok (.aload_n 0, 1) := by decide +kernel
theorem dX10_cell_54 : decode cX10_cell 54 = .ok (.aload_n 0, 1) := by decide +kernel
theorem dX10_cell_55 : decode cX10_cell 55 = .ok (.getfield 16, 3) := by decide +kernel
theorem dX10_cell_58 : decode cX10_cell 58 = .ok (.iload_n 1, 1) := by decide +kernel
theorem dX10_cell_59 : decode cX10_cell 59 = .ok (.invokevirtual 155, 3) := by decide +kernel
theorem dX10_cell_62 : decode cX10_cell 62 = .ok (.ireturn, 1) := by decide +kernel
theorem dX10_cell_63 : decode cX10_cell 63 = .ok (.aload_n 0, 1) := by decide +kernel
theorem dX10_cell_64 : decode cX10_cell 64 = .ok (.aload_n 0, 1) := by decide +kernel
theorem dX10_cell_65 : decode cX10_cell 65 = .ok (.getfield 16, 3) := by decide +kernel
theorem dX10_cell_68 : decode cX10_cell 68 = .ok (.iload_n 1, 1) := by decide +kernel
theorem dX10_cell_69 : decode cX10_cell 69 = .ok (.invokevirtual 166, 3) := by decide +kernel
theorem dX10_cell_72 : decode cX10_cell 72 = .ok (.ireturn, 1) := by decide +kernel
theorem dX10_cell_73 : decode cX10_cell 73 = .ok (.aload_n 0, 1) := by decide +kernel
theorem dX10_cell_74 : decode cX10_cell 74 = .ok (.iload_n 1, 1) := by decide +kernel
theorem dX10_cell_75 : decode cX10_cell 75 = .ok (.invokevirtual 192, 3) := by decide +kernel
theorem dX10_cell_78 : decode cX10_cell 78 = .ok (.ireturn, 1) := by decide +kernel
theorem dX10_cell_79 : decode cX10_cell 79 = .ok (.ldc 86, 2) := by decide +kernel
theorem dX10_cell_81 : decode cX10_cell 81 = .ok (.ireturn, 1) := by decide +kernel
theorem dX10_tower_0 : decode cX10_tower 0 = .ok (.aload_n 0, 1) := by decide +kernel
theorem dX10_tower_1 : decode cX10_tower 1 = .ok (.iload_n 1, 1) := by decide +kernel
theorem dX10_tower_2 : decode cX10_tower 2 = .ok (.invokevirtual 196, 3) := by decide +kernel
theorem dX10_tower_5 : decode cX10_tower 5 = .ok (.ifCond .ne 6, 3) := by decide +kernel
theorem dX10_tower_8 : decode cX10_tower 8 = .ok (.ldc 191, 2) := by decide +kernel
theorem dX10_tower_10 : decode cX10_tower 10 = .ok (.ireturn, 1) := by decide +kernel
theorem dX10_tower_11 : decode cX10_tower 11 = .ok (.iload_n 2, 1) := by decide +kernel
theorem dX10_tower_12 : decode cX10_tower 12 = .ok (.tableswitch 71 0 3 #[32, 42, 52, 61], 32) := by decide +kernel
theorem dX10_tower_44 : decode cX10_tower 44 = .ok (.aload_n 0, 1) := by decide +kernel
theorem dX10_tower_45 : decode cX10_tower 45 = .ok (.getfield 7, 3) := by decide +kernel
theorem dX10_tower_48 : decode cX10_tower 48 = .ok (.bipush 14, 2) := by decide +kernel
theorem dX10_tower_50 : decode cX10_tower 50 = .ok (.iload_n 1, 1) := by decide +kernel
theorem dX10_tower_51 : decode cX10_tower 51 = .ok (.iadd, 1) := by decide +kernel
theorem dX10_tower_52 : decode cX10_tower 52 = .ok (.iaload, 1) := by decide +kernel
theorem dX10_tower_53 : decode cX10_tower 53 = .ok (.ireturn, 1) := by decide +kernel
theorem dX10_tower_54 : decode cX10_tower 54 = .ok (.aload_n 0, 1) := by decide +kernel
theorem dX10_tower_55 : decode cX10_tower 55 = .ok (.getfield 7, 3) := by decide +kernel
theorem dX10_tower_58 : decode cX10_tower 58 = .ok (.bipush 20, 2) := by decide +kernel
theorem dX10_tower_60 : decode cX10_tower 60 = .ok (.iload_n 1, 1) := by decide +kernel
theorem dX10_tower_61 : decode cX10_tower 61 = .ok (.iadd, 1) := by decide +kernel
theorem dX10_tower_62 : decode cX10_tower 62 = .ok (.iaload, 1) := by decide +kernel
theorem dX10_tower_63 : decode cX10_tower 63 = .ok (.ireturn, 1) := by decide +kernel
theorem dX10_tower_64 : decode cX10_tower 64 = .ok (.aload_n 0, 1) := by decide +kernel
theorem dX10_tower_65 : decode cX10_tower 65 = .ok (.getfield 16, 3) := by decide +kernel
theorem dX10_tower_68 : decode cX10_tower 68 = .ok (.iconst 0, 1) := by decide +kernel
theorem dX10_tower_69 : decode cX10_tower 69 = .ok (.iload_n 1, 1) := by decide +kernel
theorem dX10_tower_70 : decode cX10_tower 70 = .ok (.iadd, 1) := by decide +kernel
theorem dX10_tower_71 : decode cX10_tower 71 = .ok (.iaload, 1) := by decide +kernel
theorem dX10_tower_72 : decode cX10_tower 72 = .ok (.ireturn, 1) := by decide +kernel
theorem dX10_tower_73 : decode cX10_tower 73 = .ok (.aload_n 0, 1) := by decide +kernel
theorem dX10_tower_74 : decode cX10_tower 74 = .ok (.aload_n 0, 1) := by decide +kernel
theorem dX10_tower_75 : decode cX10_tower 75 = .ok (.getfield 16, 3) := by decide +kernel
theorem dX10_tower_78 : decode cX10_tower 78 = .ok (.iload_n 1, 1) := by decide +kernel
theorem dX10_tower_79 : decode cX10_tower 79 = .ok (.invokevirtual 199, 3) := by decide +kernel
theorem dX10_tower_82 : decode cX10_tower 82 = .ok (.ireturn, 1) := by decide +kernel
theorem dX10_tower_83 : decode cX10_tower 83 = .ok (.ldc 86, 2) := by decide +kernel
theorem dX10_tower_85 : decode cX10_tower 85 = .ok (.ireturn, 1) := by decide +kernel
theorem dX10_player_0 : decode cX10_player 0 = .ok (.aload_n 0, 1) := by decide +kernel
theorem dX10_player_1 : decode cX10_player 1 = .ok (.iload_n 1, 1) := by decide +kernel
theorem dX10_player_2 : decode cX10_player 2 = .ok (.invokevirtual 202, 3) := by decide +kernel
theorem dX10_player_5 : decode cX10_player 5 = .ok (.ifCond .ne 6, 3) := by decide +kernel
theorem dX10_player_8 : decode cX10_player 8 = .ok (.ldc 191, 2) := by decide +kernel
theorem dX10_player_10 : decode cX10_player 10 = .ok (.ireturn, 1) := by decide +kernel
theorem dX10_player_11 : decode cX10_player 11 = .ok (.iload_n 2, 1) := by decide +kernel
theorem dX10_player_12 : decode cX10_player 12 = .ok (.tableswitch 74 0 3 #[32, 42, 52, 62], 32) := by decide +kernel
theorem dX10_player_44 : decode cX10_player 44 = .ok (.aload_n 0, 1) := by decide +kernel
theorem dX10_player_45 : decode cX10_player 45 = .ok (.getfield 7, 3) := by decide +kernel
theorem dX10_player_48 : decode cX10_player 48 = .ok (.bipush 26, 2) := by decide +kernel
theorem dX10_player_50 : decode cX10_player 50 = .ok (.iload_n 1, 1) := by decide +kernel
theorem dX10_player_51 : decode cX10_player 51 = .ok (.iadd, 1) := by decide +kernel
theorem dX10_player_52 : decode cX10_player 52 = .ok (.iaload, 1) := by decide +kernel
theorem dX10_player_53 : decode cX10_player 53 = .ok (.ireturn, 1) := by decide +kernel
theorem dX10_player_54 : decode cX10_player 54 = .ok (.aload_n 0, 1) := by decide +kernel
theorem dX10_player_55 : decode cX10_player 55 = .ok (.getfield 16, 3) := by decide +kernel
theorem dX10_player_58 : decode cX10_player 58 = .ok (.bipush 6, 2) := by decide +kernel
theorem dX10_player_60 : decode cX10_player 60 = .ok (.iload_n 1, 1) := by decide +kernel
theorem dX10_player_61 : decode cX10_player 61 = .ok (.iadd, 1) := by decide +kernel
theorem dX10_player_62 : decode cX10_player 62 = .ok (.iaload, 1) := by decide +kernel
theorem dX10_player_63 : decode cX10_player 63 = .ok (.ireturn, 1) := by decide +kernel
theorem dX10_player_64 : decode cX10_player 64 = .ok (.aload_n 0, 1) := by decide +kernel
theorem dX10_player_65 : decode cX10_player 65 = .ok (.getfield 16, 3) := by decide +kernel
theorem dX10_player_68 : decode cX10_player 68 = .ok (.bipush 12, 2) := by decide +kernel
theorem dX10_player_70 : decode cX10_player 70 = .ok (.iload_n 1, 1) := by decide +kernel
theorem dX10_player_71 : decode cX10_player 71 = .ok (.iadd, 1) := by decide +kernel
theorem dX10_player_72 : decode cX10_player 72 = .ok (.iaload, 1) := by decide +kernel
theorem dX10_player_73 : decode cX10_player 73 = .ok (.ireturn, 1) := by decide +kernel
theorem dX10_player_74 : decode cX10_player 74 = .ok (.aload_n 0, 1) := by decide +kernel
theorem dX10_player_75 : decode cX10_player 75 = .ok (.getfield 16, 3) := by decide +kernel
theorem dX10_player_78 : decode cX10_player 78 = .ok (.bipush 18, 2) := by decide +kernel
theorem dX10_player_80 : decode cX10_player 80 = .ok (.iaload, 1) := by decide +kernel
theorem dX10_player_81 : decode cX10_player 81 = .ok (.iload_n 1, 1) := by decide +kernel
theorem dX10_player_82 : decode cX10_player 82 = .ok (.ishr, 1) := by decide +kernel
theorem dX10_player_83 : decode cX10_player 83 = .ok (.iconst 1, 1) := by decide +kernel
theorem dX10_player_84 : decode cX10_player 84 = .ok (.iand, 1) := by decide +kernel
theorem dX10_player_85 : decode cX10_player 85 = .ok (.ireturn, 1) := by decide +kernel
theorem dX10_player_86 : decode cX10_player 86 = .ok (.ldc 86, 2) := by decide +kernel
theorem dX10_player_88 : decode cX10_player 88 = .ok (.ireturn, 1) := by decide +kernel
theorem dX10_boat_0 : decode cX10_boat 0 = .ok (.aload_n 0, 1) := by decide +kernel
theorem dX10_boat_1 : decode cX10_boat 1 = .ok (.iload_n 1, 1) := by decide +kernel
theorem dX10_boat_2 : decode cX10_boat 2 = .ok (.invokevirtual 205, 3) := by decide +kernel
theorem dX10_boat_5 : decode cX10_boat 5 = .ok (.ifCond .ne 6, 3) := by decide +kernel
theorem dX10_boat_8 : decode cX10_boat 8 = .ok (.ldc 191, 2) := by decide +kernel
theorem dX10_boat_10 : decode cX10_boat 10 = .ok (.ireturn, 1) := by decide +kernel
theorem dX10_boat_11 : decode cX10_boat 11 = .ok (.iload_n 2, 1) := by decide +kernel
theorem dX10_boat_12 : decode cX10_boat 12 = .ok (.tableswitch 72 0 3 #[32, 42, 52, 62], 32) := by decide +kernel
theorem dX10_boat_44 : decode cX10_boat 44 = .ok (.aload_n 0, 1) := by decide +kernel
theorem dX10_boat_45 : decode cX10_boat 45 = .ok (.getfield 7, 3) := by decide +kernel
theorem dX10_boat_48 : decode cX10_boat 48 = .ok (.bipush 32, 2) := by decide +kernel
theorem dX10_boat_50 : decode cX10_boat 50 = .ok (.iload_n 1, 1) := by decide +kernel
theorem dX10_boat_51 : decode cX10_boat 51 = .ok (.iadd, 1) := by decide +kernel
theorem dX10_boat_52 : decode cX10_boat 52 = .ok (.iaload, 1) := by decide +kernel
theorem dX10_boat_53 : decode cX10_boat 53 = .ok (.ireturn, 1) := by decide +kernel
theorem dX10_boat_54 : decode cX10_boat 54 = .ok (.aload_n 0, 1) := by decide +kernel
theorem dX10_boat_55 : decode cX10_boat 55 = .ok (.getfield 16, 3) := by decide +kernel
theorem dX10_boat_58 : decode cX10_boat 58 = .ok (.bipush 19, 2) := by decide +kernel
theorem dX10_boat_60 : decode cX10_boat 60 = .ok (.iload_n 1, 1) := by decide +kernel
theorem dX10_boat_61 : decode cX10_boat 61 = .ok (.iadd, 1) := by decide +kernel
theorem dX10_boat_62 : decode cX10_boat 62 = .ok (.iaload, 1) := by decide +kernel
theorem dX10_boat_63 : decode cX10_boat 63 = .ok (.ireturn, 1) := by decide +kernel
theorem dX10_boat_64 : decode cX10_boat 64 = .ok (.aload_n 0, 1) := by decide +kernel
theorem dX10_boat_65 : decode cX10_boat 65 = .ok (.getfield 7, 3) := by decide +kernel
theorem dX10_boat_68 : decode cX10_boat 68 = .ok (.bipush 36, 2) := by decide +kernel
theorem dX10_boat_70 : decode cX10_boat 70 = .ok (.iload_n 1, 1) := by decide +kernel
theorem dX10_boat_71 : decode cX10_boat 71 = .ok (.iadd, 1) := by decide +kernel
theorem dX10_boat_72 : decode cX10_boat 72 = .ok (.iaload, 1) := by decide +kernel
theorem dX10_boat_73 : decode cX10_boat 73 = .ok (.ireturn, 1) := by decide +kernel
theorem dX10_boat_74 : decode cX10_boat 74 = .ok (.aload_n 0, 1) := by decide +kernel
theorem dX10_boat_75 : decode cX10_boat 75 = .ok (.getfield 7, 3) := by decide +kernel
theorem dX10_boat_78 : decode cX10_boat 78 = .ok (.bipush 40, 2) := by decide +kernel
theorem dX10_boat_80 : decode cX10_boat 80 = .ok (.iload_n 1, 1) := by decide +kernel
theorem dX10_boat_81 : decode cX10_boat 81 = .ok (.iadd, 1) := by decide +kernel
theorem dX10_boat_82 : decode cX10_boat 82 = .ok (.iaload, 1) := by decide +kernel
theorem dX10_boat_83 : decode cX10_boat 83 = .ok (.ireturn, 1) := by decide +kernel
theorem dX10_boat_84 : decode cX10_boat 84 = .ok (.ldc 86, 2) := by decide +kernel
theorem dX10_boat_86 : decode cX10_boat 86 = .ok (.ireturn, 1) := by decide +kernel
theorem dX10_winds_0 : decode cX10_winds 0 = .ok (.iconst 0, 1) := by decide +kernel
theorem dX10_winds_1 : decode cX10_winds 1 = .ok (.istore_n 2, 1) := by decide +kernel
theorem dX10_winds_2 : decode cX10_winds 2 = .ok (.iconst 0, 1) := by decide +kernel
theorem dX10_winds_3 : decode cX10_winds 3 = .ok (.istore_n 3, 1) := by decide +kernel
theorem dX10_winds_4 : decode cX10_winds 4 = .ok (.iload_n 3, 1) := by decide +kernel
theorem dX10_winds_5 : decode cX10_winds 5 = .ok (.aload_n 0, 1) := by decide +kernel
theorem dX10_winds_6 : decode cX10_winds 6 = .ok (.getfield 7, 3) := by decide +kernel
theorem dX10_winds_9 : decode cX10_winds 9 = .ok (.iconst 2, 1) := by decide +kernel
theorem dX10_winds_10 : decode cX10_winds 10 = .ok (.iaload, 1) := by decide +kernel
theorem dX10_winds_11 : decode cX10_winds 11 = .ok (.if_icmp .ge 121, 3) := by decide +kernel
theorem dX10_winds_14 : decode cX10_winds 14 = .ok (.aload_n 1, 1) := by decide +kernel
theorem dX10_winds_15 : decode cX10_winds 15 = .ok (.bipush 12, 2) := by decide +kernel
theorem dX10_winds_17 : decode cX10_winds 17 = .ok (.iload_n 3, 1) := by decide +kernel
theorem dX10_winds_18 : decode cX10_winds 18 = .ok (.iadd, 1) := by decide +kernel
theorem dX10_winds_19 : decode cX10_winds 19 = .ok (.iaload, 1) := by decide +kernel
theorem dX10_winds_20 : decode cX10_winds 20 = .ok (.istore 4, 2) := by decide +kernel
theorem dX10_winds_22 : decode cX10_winds 22 = .ok (.iload 4, 2) := by decide +kernel
theorem dX10_winds_24 : decode cX10_winds 24 = .ok (.iconst (-1), 1) := by decide +kernel
theorem dX10_winds_25 : decode cX10_winds 25 = .ok (.if_icmp .eq 83, 3) := by decide +kernel
theorem dX10_winds_28 : decode cX10_winds 28 = .ok (.aload_n 1, 1) := by decide +kernel
theorem dX10_winds_29 : decode cX10_winds 29 = .ok (.bipush 18, 2) := by decide +kernel
theorem dX10_winds_31 : decode cX10_winds 31 = .ok (.iaload, 1) := by decide +kernel
theorem dX10_winds_32 : decode cX10_winds 32 = .ok (.iload_n 3, 1) := by decide +kernel
theorem dX10_winds_33 : decode cX10_winds 33 = .ok (.invokestatic 208, 3) := by decide +kernel
theorem dX10_winds_36 : decode cX10_winds 36 = .ok (.ifCond .ne 72, 3) := by decide +kernel
theorem dX10_winds_39 : decode cX10_winds 39 = .ok (.aload_n 1, 1) := by decide +kernel
theorem dX10_winds_40 : decode cX10_winds 40 = .ok (.iconst 0, 1) := by decide +kernel
theorem dX10_winds_41 : decode cX10_winds 41 = .ok (.iload 4, 2) := by decide +kernel
theorem dX10_winds_43 : decode cX10_winds 43 = .ok (.iadd, 1) := by decide +kernel
theorem dX10_winds_44 : decode cX10_winds 44 = .ok (.bipush 99, 2) := by decide +kernel
theorem dX10_winds_46 : decode cX10_winds 46 = .ok (.aload_n 1, 1) := by decide +kernel
theorem dX10_winds_47 : decode cX10_winds 47 = .ok (.iconst 0, 1) := by decide +kernel
theorem dX10_winds_48 : decode cX10_winds 48 = .ok (.iload 4, 2) := by decide +kernel
theorem dX10_winds_50 : decode cX10_winds 50 = .ok (.iadd, 1) := by decide +kernel
theorem dX10_winds_51 : decode cX10_winds 51 = .ok (.iaload, 1) := by decide +kernel
theorem dX10_winds_52 : decode cX10_winds 52 = .ok (.iconst 0, 1) := by decide +kernel
theorem dX10_winds_53 : decode cX10_winds 53 = .ok (.aload_n 0, 1) := by decide +kernel
theorem dX10_winds_54 : decode cX10_winds 54 = .ok (.getfield 7, 3) := by decide +kernel
theorem dX10_winds_57 : decode cX10_winds 57 = .ok (.bipush 26, 2) := by decide +kernel
theorem dX10_winds_59 : decode cX10_winds 59 = .ok (.iload_n 3, 1) := by decide +kernel
theorem dX10_winds_60 : decode cX10_winds 60 = .ok (.iadd, 1) := by decide +kernel
theorem dX10_winds_61 : decode cX10_winds 61 = .ok (.iaload, 1) := by decide +kernel
theorem dX10_winds_62 : decode cX10_winds 62 = .ok (.aload_n 1, 1) := by decide +kernel
theorem dX10_winds_63 : decode cX10_winds 63 = .ok (.bipush 6, 2) := by decide +kernel
theorem dX10_winds_65 : decode cX10_winds 65 = .ok (.iload_n 3, 1) := by decide +kernel
theorem dX10_winds_66 : decode cX10_winds 66 = .ok (.iadd, 1) := by decide +kernel
theorem dX10_winds_67 : decode cX10_winds 67 = .ok (.iaload, 1) := by decide +kernel
theorem dX10_winds_68 : decode cX10_winds 68 = .ok (.iconst 5, 1) := by decide +kernel
theorem dX10_winds_69 : decode cX10_winds 69 = .ok (.idiv, 1) := by decide +kernel
theorem dX10_winds_70 : decode cX10_winds 70 = .ok (.isub, 1) := by decide +kernel
theorem dX10_winds_71 : decode cX10_winds 71 = .ok (.invokestatic 147, 3) := by decide +kernel
theorem dX10_winds_74 : decode cX10_winds 74 = .ok (.iadd, 1) := by decide +kernel
theorem dX10_winds_75 : decode cX10_winds 75 = .ok (.invokestatic 212, 3) := by decide +kernel
theorem dX10_winds_78 : decode cX10_winds 78 = .ok (.iastore, 1) := by decide +kernel
theorem dX10_winds_79 : decode cX10_winds 79 = .ok (.aload_n 1, 1) := by decide +kernel
theorem dX10_winds_80 : decode cX10_winds 80 = .ok (.bipush 6, 2) := by decide +kernel
theorem dX10_winds_82 : decode cX10_winds 82 = .ok (.iload_n 3, 1) := by decide +kernel
theorem dX10_winds_83 : decode cX10_winds 83 = .ok (.iadd, 1) := by decide +kernel
theorem dX10_winds_84 : decode cX10_winds 84 = .ok (.bipush 99, 2) := by decide +kernel
theorem dX10_winds_86 : decode cX10_winds 86 = .ok (.aload_n 1, 1) := by decide +kernel
theorem dX10_winds_87 : decode cX10_winds 87 = .ok (.bipush 6, 2) := by decide +kernel
theorem dX10_winds_89 : decode cX10_winds 89 = .ok (.iload_n 3, 1) := by decide +kernel
theorem dX10_winds_90 : decode cX10_winds 90 = .ok (.iadd, 1) := by decide +kernel
theorem dX10_winds_91 : decode cX10_winds 91 = .ok (.iaload, 1) := by decide +kernel
theorem dX10_winds_92 : decode cX10_winds 92 = .ok (.iconst 1, 1) := by decide +kernel
theorem dX10_winds_93 : decode cX10_winds 93 = .ok (.iadd, 1) := by decide +kernel
theorem dX10_winds_94 : decode cX10_winds 94 = .ok (.invokestatic 212, 3) := by decide +kernel
theorem dX10_winds_97 : decode cX10_winds 97 = .ok (.iastore, 1) := by decide +kernel
theorem dX10_winds_98 : decode cX10_winds 98 = .ok (.iload_n 2, 1) := by decide +kernel
theorem dX10_winds_99 : decode cX10_winds 99 = .ok (.iconst 1, 1) := by decide +kernel
theorem dX10_winds_100 : decode cX10_winds 100 = .ok (.iload 4, 2) := by decide +kernel
theorem dX10_winds_102 : decode cX10_winds 102 = .ok (.ishl, 1) := by decide +kernel
theorem dX10_winds_103 : decode cX10_winds 103 = .ok (.ior, 1) := by decide +kernel
theorem dX10_winds_104 : decode cX10_winds 104 = .ok (.istore_n 2, 1) := by decide +kernel
theorem dX10_winds_105 : decode cX10_winds 105 = .ok (.goto 21, 3) := by decide +kernel
theorem dX10_winds_108 : decode cX10_winds 108 = .ok (.aload_n 1, 1) := by decide +kernel
theorem dX10_winds_109 : decode cX10_winds 109 = .ok (.bipush 6, 2) := by decide +kernel
theorem dX10_winds_111 : decode cX10_winds 111 = .ok (.iload_n 3, 1) := by decide +kernel
theorem dX10_winds_112 : decode cX10_winds 112 = .ok (.iadd, 1) := by decide +kernel
theorem dX10_winds_113 : decode cX10_winds 113 = .ok (.iconst 0, 1) := by decide +kernel
theorem dX10_winds_114 : decode cX10_winds 114 = .ok (.aload_n 1, 1) := by decide +kernel
theorem dX10_winds_115 : decode cX10_winds 115 = .ok (.bipush 6, 2) := by decide +kernel
theorem dX10_winds_117 : decode cX10_winds 117 = .ok (.iload_n 3, 1) := by decide +kernel
theorem dX10_winds_118 : decode cX10_winds 118 = .ok (.iadd, 1) := by decide +kernel
theorem dX10_winds_119 : decode cX10_winds 119 = .ok (.iaload, 1) := by decide +kernel
theorem dX10_winds_120 : decode cX10_winds 120 = .ok (.iconst 2, 1) := by decide +kernel
theorem dX10_winds_121 : decode cX10_winds 121 = .ok (.isub, 1) := by decide +kernel
theorem dX10_winds_122 : decode cX10_winds 122 = .ok (.invokestatic 147, 3) := by decide +kernel
theorem dX10_winds_125 : decode cX10_winds 125 = .ok (.iastore, 1) := by decide +kernel
theorem dX10_winds_126 : decode cX10_winds 126 = .ok (.iinc 3 1, 3) := by decide +kernel
theorem dX10_winds_129 : decode cX10_winds 129 = .ok (.goto (-125), 3) := by decide +kernel
theorem dX10_winds_132 : decode cX10_winds 132 = .ok (.iconst 0, 1) := by decide +kernel
theorem dX10_winds_133 : decode cX10_winds 133 = .ok (.istore_n 3, 1) := by decide +kernel
theorem dX10_winds_134 : decode cX10_winds 134 = .ok (.iload_n 3, 1) := by decide +kernel
theorem dX10_winds_135 : decode cX10_winds 135 = .ok (.aload_n 0, 1) := by decide +kernel
theorem dX10_winds_136 : decode cX10_winds 136 = .ok (.getfield 7, 3) := by decide +kernel
theorem dX10_winds_139 : decode cX10_winds 139 = .ok (.iconst 1, 1) := by decide +kernel
theorem dX10_winds_140 : decode cX10_winds 140 = .ok (.iaload, 1) := by decide +kernel
theorem dX10_winds_141 : decode cX10_winds 141 = .ok (.if_icmp .ge 41, 3) := by decide +kernel
theorem dX10_winds_144 : decode cX10_winds 144 = .ok (.aload_n 1, 1) := by decide +kernel
theorem dX10_winds_145 : decode cX10_winds 145 = .ok (.iconst 0, 1) := by decide +kernel
theorem dX10_winds_146 : decode cX10_winds 146 = .ok (.iload_n 3, 1) := by decide +kernel
theorem dX10_winds_147 : decode cX10_winds 147 = .ok (.iadd, 1) := by decide +kernel
theorem dX10_winds_148 : decode cX10_winds 148 = .ok (.iload_n 2, 1) := by decide +kernel
theorem dX10_winds_149 : decode cX10_winds 149 = .ok (.iload_n 3, 1) := by decide +kernel
theorem dX10_winds_150 : decode cX10_winds 150 = .ok (.invokestatic 208, 3) := by decide +kernel
theorem dX10_winds_153 : decode cX10_winds 153 = .ok (.ifCond .eq 11, 3) := by decide +kernel
theorem dX10_winds_156 : decode cX10_winds 156 = .ok (.aload_n 1, 1) := by decide +kernel
theorem dX10_winds_157 : decode cX10_winds 157 = .ok (.iconst 0, 1) := by decide +kernel
theorem dX10_winds_158 : decode cX10_winds 158 = .ok (.iload_n 3, 1) := by decide +kernel
theorem dX10_winds_159 : decode cX10_winds 159 = .ok (.iadd, 1) := by decide +kernel
theorem dX10_winds_160 : decode cX10_winds 160 = .ok (.iaload, 1) := by decide +kernel
theorem dX10_winds_161 : decode cX10_winds 161 = .ok (.goto 14, 3) := by decide +kernel
theorem dX10_winds_164 : decode cX10_winds 164 = .ok (.iconst 0, 1) := by decide +kernel
theorem dX10_winds_165 : decode cX10_winds 165 = .ok (.aload_n 1, 1) := by decide +kernel
theorem dX10_winds_166 : decode cX10_winds 166 = .ok (.iconst 0, 1) := by decide +kernel
theorem dX10_winds_167 : decode cX10_winds 167 = .ok (.iload_n 3, 1) := by decide +kernel
theorem dX10_winds_168 : decode cX10_winds 168 = .ok (.iadd, 1) := by decide +kernel
theorem dX10_winds_169 : decode cX10_winds 169 = .ok (.iaload, 1) := by decide +kernel
theorem dX10_winds_170 : decode cX10_winds 170 = .ok (.iconst 3, 1) := by decide +kernel
theorem dX10_winds_171 : decode cX10_winds 171 = .ok (.isub, 1) := by decide +kernel
theorem dX10_winds_172 : decode cX10_winds 172 = .ok (.invokestatic 147, 3) := by decide +kernel
theorem dX10_winds_175 : decode cX10_winds 175 = .ok (.iastore, 1) := by decide +kernel
theorem dX10_winds_176 : decode cX10_winds 176 = .ok (.iinc 3 1, 3) := by decide +kernel
theorem dX10_winds_179 : decode cX10_winds 179 = .ok (.goto (-45), 3) := by decide +kernel
theorem dX10_winds_182 : decode cX10_winds 182 = .ok (.return_, 1) := by decide +kernel
theorem dX10_hourGoes_0 : decode cX10_hourGoes 0 = .ok (.aload_n 0, 1) := by decide +kernel
theorem dX10_hourGoes_1 : decode cX10_hourGoes 1 = .ok (.aload_n 1, 1) := by decide +kernel
theorem dX10_hourGoes_2 : decode cX10_hourGoes 2 = .ok (.invokevirtual 215, 3) := by decide +kernel
theorem dX10_hourGoes_5 : decode cX10_hourGoes 5 = .ok (.iconst 0, 1) := by decide +kernel
theorem dX10_hourGoes_6 : decode cX10_hourGoes 6 = .ok (.istore_n 2, 1) := by decide +kernel
theorem dX10_hourGoes_7 : decode cX10_hourGoes 7 = .ok (.iload_n 2, 1) := by decide +kernel
theorem dX10_hourGoes_8 : decode cX10_hourGoes 8 = .ok (.aload_n 0, 1) := by decide +kernel
theorem dX10_hourGoes_9 : decode cX10_hourGoes 9 = .ok (.getfield 7, 3) := by decide +kernel
theorem dX10_hourGoes_12 : decode cX10_hourGoes 12 = .ok (.iconst 3, 1) := by decide +kernel
theorem dX10_hourGoes_13 : decode cX10_hourGoes 13 = .ok (.iaload, 1) := by decide +kernel
theorem dX10_hourGoes_14 : decode cX10_hourGoes 14 = .ok (.if_icmp .ge 118, 3) := by decide +kernel
theorem dX10_hourGoes_17 : decode cX10_hourGoes 17 = .ok (.aload_n 1, 1) := by decide +kernel
theorem dX10_hourGoes_18 : decode cX10_hourGoes 18 = .ok (.bipush 19, 2) := by decide +kernel
theorem dX10_hourGoes_20 : decode cX10_hourGoes 20 = .ok (.iload_n 2, 1) := by decide +kernel
theorem dX10_hourGoes_21 : decode cX10_hourGoes 21 = .ok (.iadd, 1) := by decide +kernel
theorem dX10_hourGoes_22 : decode cX10_hourGoes 22 = .ok (.iaload, 1) := by decide +kernel
theorem dX10_hourGoes_23 : decode cX10_hourGoes 23 = .ok (.istore_n 3, 1) := by decide +kernel
theorem dX10_hourGoes_24 : decode cX10_hourGoes 24 = .ok (.iload_n 3, 1) := by decide +kernel
theorem dX10_hourGoes_25 : decode cX10_hourGoes 25 = .ok (.aload_n 0, 1) := by decide +kernel
theorem dX10_hourGoes_26 : decode cX10_hourGoes 26 = .ok (.getfield 7, 3) := by decide +kernel
theorem dX10_hourGoes_29 : decode cX10_hourGoes 29 = .ok (.bipush 40, 2) := by decide +kernel
theorem dX10_hourGoes_31 : decode cX10_hourGoes 31 = .ok (.iload_n 2, 1) := by decide +kernel
theorem dX10_hourGoes_32 : decode cX10_hourGoes 32 = .ok (.iadd, 1) := by decide +kernel
theorem dX10_hourGoes_33 : decode cX10_hourGoes 33 = .ok (.iaload, 1) := by decide +kernel
theorem dX10_hourGoes_34 : decode cX10_hourGoes 34 = .ok (.if_icmp .ge 9, 3) := by decide +kernel
theorem dX10_hourGoes_37 : decode cX10_hourGoes 37 = .ok (.iload_n 3, 1) := by decide +kernel
theorem dX10_hourGoes_38 : decode cX10_hourGoes 38 = .ok (.iconst 1, 1) := by decide +kernel
theorem dX10_hourGoes_39 : decode cX10_hourGoes 39 = .ok (.iadd, 1) := by decide +kernel
theorem dX10_hourGoes_40 : decode cX10_hourGoes 40 = .ok (.goto 23, 3) := by decide +kernel
theorem dX10_hourGoes_43 : decode cX10_hourGoes 43 = .ok (.iload_n 3, 1) := by decide +kernel
theorem dX10_hourGoes_44 : decode cX10_hourGoes 44 = .ok (.aload_n 0, 1) := by decide +kernel
theorem dX10_hourGoes_45 : decode cX10_hourGoes 45 = .ok (.getfield 7, 3) := by decide +kernel
theorem dX10_hourGoes_48 : decode cX10_hourGoes 48 = .ok (.bipush 40, 2) := by decide +kernel
theorem dX10_hourGoes_50 : decode cX10_hourGoes 50 = .ok (.iload_n 2, 1) := by decide +kernel
theorem dX10_hourGoes_51 : decode cX10_hourGoes 51 = .ok (.iadd, 1) := by decide +kernel
theorem dX10_hourGoes_52 : decode cX10_hourGoes 52 = .ok (.iaload, 1) := by decide +kernel
theorem dX10_hourGoes_53 : decode cX10_hourGoes 53 = .ok (.if_icmp .le 9, 3) := by decide +kernel
theorem dX10_hourGoes_56 : decode cX10_hourGoes 56 = .ok (.iload_n 3, 1) := by decide +kernel
theorem dX10_hourGoes_57 : decode cX10_hourGoes 57 = .ok (.iconst 1, 1) := by decide +kernel
theorem dX10_hourGoes_58 : decode cX10_hourGoes 58 = .ok (.isub, 1) := by decide +kernel
theorem dX10_hourGoes_59 : decode cX10_hourGoes 59 = .ok (.goto 4, 3) := by decide +kernel
theorem dX10_hourGoes_62 : decode cX10_hourGoes 62 = .ok (.iload_n 3, 1) := by decide +kernel
theorem dX10_hourGoes_63 : decode cX10_hourGoes 63 = .ok (.istore 4, 2) := by decide +kernel
theorem dX10_hourGoes_65 : decode cX10_hourGoes 65 = .ok (.aload_n 0, 1) := by decide +kernel
theorem dX10_hourGoes_66 : decode cX10_hourGoes 66 = .ok (.aload_n 1, 1) := by decide +kernel
theorem dX10_hourGoes_67 : decode cX10_hourGoes 67 = .ok (.iload_n 3, 1) := by decide +kernel
theorem dX10_hourGoes_68 : decode cX10_hourGoes 68 = .ok (.invokevirtual 166, 3) := by decide +kernel
theorem dX10_hourGoes_71 : decode cX10_hourGoes 71 = .ok (.aload_n 0, 1) := by decide +kernel
theorem dX10_hourGoes_72 : decode cX10_hourGoes 72 = .ok (.getfield 7, 3) := by decide +kernel
theorem dX10_hourGoes_75 : decode cX10_hourGoes 75 = .ok (.bipush 32, 2) := by decide +kernel
theorem dX10_hourGoes_77 : decode cX10_hourGoes 77 = .ok (.iload_n 2, 1) := by decide +kernel
theorem dX10_hourGoes_78 : decode cX10_hourGoes 78 = .ok (.iadd, 1) := by decide +kernel
theorem dX10_hourGoes_79 : decode cX10_hourGoes 79 = .ok (.iaload, 1) := by decide +kernel
theorem dX10_hourGoes_80 : decode cX10_hourGoes 80 = .ok (.if_icmp .lt 26, 3) := by decide +kernel
theorem dX10_hourGoes_83 : decode cX10_hourGoes 83 = .ok (.aload_n 0, 1) := by decide +kernel
theorem dX10_hourGoes_84 : decode cX10_hourGoes 84 = .ok (.aload_n 1, 1) := by decide +kernel
theorem dX10_hourGoes_85 : decode cX10_hourGoes 85 = .ok (.iload 4, 2) := by decide +kernel
theorem dX10_hourGoes_87 : decode cX10_hourGoes 87 = .ok (.invokevirtual 166, 3) := by decide +kernel
theorem dX10_hourGoes_90 : decode cX10_hourGoes 90 = .ok (.aload_n 0, 1) := by decide +kernel
theorem dX10_hourGoes_91 : decode cX10_hourGoes 91 = .ok (.getfield 7, 3) := by decide +kernel
theorem dX10_hourGoes_94 : decode cX10_hourGoes 94 = .ok (.bipush 32, 2) := by decide +kernel
theorem dX10_hourGoes_96 : decode cX10_hourGoes 96 = .ok (.iload_n 2, 1) := by decide +kernel
theorem dX10_hourGoes_97 : decode cX10_hourGoes 97 = .ok (.iadd, 1) := by decide +kernel
theorem dX10_hourGoes_98 : decode cX10_hourGoes 98 = .ok (.iaload, 1) := by decide +kernel
theorem dX10_hourGoes_99 : decode cX10_hourGoes 99 = .ok (.if_icmp .lt 7, 3) := by decide +kernel
theorem dX10_hourGoes_102 : decode cX10_hourGoes 102 = .ok (.iconst 1, 1) := by decide +kernel
theorem dX10_hourGoes_103 : decode cX10_hourGoes 103 = .ok (.goto 4, 3) := by decide +kernel
theorem dX10_hourGoes_106 : decode cX10_hourGoes 106 = .ok (.iconst 0, 1) := by decide +kernel
theorem dX10_hourGoes_107 : decode cX10_hourGoes 107 = .ok (.istore 5, 2) := by decide +kernel
theorem dX10_hourGoes_109 : decode cX10_hourGoes 109 = .ok (.aload_n 1, 1) := by decide +kernel
theorem dX10_hourGoes_110 : decode cX10_hourGoes 110 = .ok (.bipush 19, 2) := by decide +kernel
theorem dX10_hourGoes_112 : decode cX10_hourGoes 112 = .ok (.iload_n 2, 1) := by decide +kernel
theorem dX10_hourGoes_113 : decode cX10_hourGoes 113 = .ok (.iadd, 1) := by decide +kernel
theorem dX10_hourGoes_114 : decode cX10_hourGoes 114 = .ok (.iload 5, 2) := by decide +kernel
theorem dX10_hourGoes_116 : decode cX10_hourGoes 116 = .ok (.ifCond .eq 8, 3) := by decide +kernel
theorem dX10_hourGoes_119 : decode cX10_hourGoes 119 = .ok (.iload 4, 2) := by decide +kernel
theorem dX10_hourGoes_121 : decode cX10_hourGoes 121 = .ok (.goto 4, 3) := by decide +kernel
theorem dX10_hourGoes_124 : decode cX10_hourGoes 124 = .ok (.iload_n 3, 1) := by decide +kernel
theorem dX10_hourGoes_125 : decode cX10_hourGoes 125 = .ok (.iastore, 1) := by decide +kernel
theorem dX10_hourGoes_126 : decode cX10_hourGoes 126 = .ok (.iinc 2 1, 3) := by decide +kernel
theorem dX10_hourGoes_129 : decode cX10_hourGoes 129 = .ok (.goto (-122), 3) := by decide +kernel
theorem dX10_hourGoes_132 : decode cX10_hourGoes 132 = .ok (.aload_n 1, 1) := by decide +kernel
theorem dX10_hourGoes_133 : decode cX10_hourGoes 133 = .ok (.bipush 23, 2) := by decide +kernel
theorem dX10_hourGoes_135 : decode cX10_hourGoes 135 = .ok (.dup2, 1) := by decide +kernel
theorem dX10_hourGoes_136 : decode cX10_hourGoes 136 = .ok (.iaload, 1) := by decide +kernel
theorem dX10_hourGoes_137 : decode cX10_hourGoes 137 = .ok (.iconst 1, 1) := by decide +kernel
theorem dX10_hourGoes_138 : decode cX10_hourGoes 138 = .ok (.iadd, 1) := by decide +kernel
theorem dX10_hourGoes_139 : decode cX10_hourGoes 139 = .ok (.iastore, 1) := by decide +kernel
theorem dX10_hourGoes_140 : decode cX10_hourGoes 140 = .ok (.return_, 1) := by decide +kernel
theorem dX10_remember_0 : decode cX10_remember 0 = .ok (.aload_n 0, 1) := by decide +kernel
theorem dX10_remember_1 : decode cX10_remember 1 = .ok (.getfield 72, 3) := by decide +kernel
theorem dX10_remember_4 : decode cX10_remember 4 = .ok (.bipush 16, 2) := by decide +kernel
theorem dX10_remember_6 : decode cX10_remember 6 = .ok (.if_icmp .ne 43, 3) := by decide +kernel
theorem dX10_remember_9 : decode cX10_remember 9 = .ok (.iconst 0, 1) := by decide +kernel
theorem dX10_remember_10 : decode cX10_remember 10 = .ok (.istore_n 1, 1) := by decide +kernel
theorem dX10_remember_11 : decode cX10_remember 11 = .ok (.iload_n 1, 1) := by decide +kernel
theorem dX10_remember_12 : decode cX10_remember 12 = .ok (.sipush 360, 3) := by decide +kernel
theorem dX10_remember_15 : decode cX10_remember 15 = .ok (.if_icmp .ge 24, 3) := by decide +kernel
theorem dX10_remember_18 : decode cX10_remember 18 = .ok (.aload_n 0, 1) := by decide +kernel
theorem dX10_remember_19 : decode cX10_remember 19 = .ok (.getfield 22, 3) := by decide +kernel
theorem dX10_remember_22 : decode cX10_remember 22 = .ok (.iload_n 1, 1) := by decide +kernel
theorem dX10_remember_23 : decode cX10_remember 23 = .ok (.aload_n 0, 1) := by decide +kernel
theorem dX10_remember_24 : decode cX10_remember 24 = .ok (.getfield 22, 3) := by decide +kernel
theorem dX10_remember_27 : decode cX10_remember 27 = .ok (.iload_n 1, 1) := by decide +kernel
theorem dX10_remember_28 : decode cX10_remember 28 = .ok (.bipush 24, 2) := by decide +kernel
theorem dX10_remember_30 : decode cX10_remember 30 = .ok (.iadd, 1) := by decide +kernel
theorem dX10_remember_31 : decode cX10_remember 31 = .ok (.iaload, 1) := by decide +kernel
theorem dX10_remember_32 : decode cX10_remember 32 = .ok (.iastore, 1) := by decide +kernel
theorem dX10_remember_33 : decode cX10_remember 33 = .ok (.iinc 1 1, 3) := by decide +kernel
theorem dX10_remember_36 : decode cX10_remember 36 = .ok (.goto (-25), 3) := by decide +kernel
theorem dX10_remember_39 : decode cX10_remember 39 = .ok (.aload_n 0, 1) := by decide +kernel
theorem dX10_remember_40 : decode cX10_remember 40 = .ok (.dup, 1) := by decide +kernel
theorem dX10_remember_41 : decode cX10_remember 41 = .ok (.getfield 72, 3) := by decide +kernel
theorem dX10_remember_44 : decode cX10_remember 44 = .ok (.iconst 1, 1) := by decide +kernel
theorem dX10_remember_45 : decode cX10_remember 45 = .ok (.isub, 1) := by decide +kernel
theorem dX10_remember_46 : decode cX10_remember 46 = .ok (.putfield 72, 3) := by decide +kernel
theorem dX10_remember_49 : decode cX10_remember 49 = .ok (.aload_n 0, 1) := by decide +kernel
theorem dX10_remember_50 : decode cX10_remember 50 = .ok (.getfield 16, 3) := by decide +kernel
theorem dX10_remember_53 : decode cX10_remember 53 = .ok (.iconst 0, 1) := by decide +kernel
theorem dX10_remember_54 : decode cX10_remember 54 = .ok (.aload_n 0, 1) := by decide +kernel
theorem dX10_remember_55 : decode cX10_remember 55 = .ok (.getfield 22, 3) := by decide +kernel
theorem dX10_remember_58 : decode cX10_remember 58 = .ok (.bipush 24, 2) := by decide +kernel
theorem dX10_remember_60 : decode cX10_remember 60 = .ok (.aload_n 0, 1) := by decide +kernel
theorem dX10_remember_61 : decode cX10_remember 61 = .ok (.getfield 72, 3) := by decide +kernel
theorem dX10_remember_64 : decode cX10_remember 64 = .ok (.imul, 1) := by decide +kernel
theorem dX10_remember_65 : decode cX10_remember 65 = .ok (.bipush 24, 2) := by decide +kernel
theorem dX10_remember_67 : decode cX10_remember 67 = .ok (.invokestatic 68, 3) := by decide +kernel
theorem dX10_remember_70 : decode cX10_remember 70 = .ok (.aload_n 0, 1) := by decide +kernel
theorem dX10_remember_71 : decode cX10_remember 71 = .ok (.dup, 1) := by decide +kernel
theorem dX10_remember_72 : decode cX10_remember 72 = .ok (.getfield 72, 3) := by decide +kernel
theorem dX10_remember_75 : decode cX10_remember 75 = .ok (.iconst 1, 1) := by decide +kernel
theorem dX10_remember_76 : decode cX10_remember 76 = .ok (.iadd, 1) := by decide +kernel
theorem dX10_remember_77 : decode cX10_remember 77 = .ok (.putfield 72, 3) := by decide +kernel
theorem dX10_remember_80 : decode cX10_remember 80 = .ok (.return_, 1) := by decide +kernel
theorem dX10_refuses_0 : decode cX10_refuses 0 = .ok (.iload_n 1, 1) := by decide +kernel
theorem dX10_refuses_1 : decode cX10_refuses 1 = .ok (.i2l, 1) := by decide +kernel
theorem dX10_refuses_2 : decode cX10_refuses 2 = .ok (.lconst 1, 1) := by decide +kernel
theorem dX10_refuses_3 : decode cX10_refuses 3 = .ok (.ldc2_w 219, 3) := by decide +kernel
theorem dX10_refuses_6 : decode cX10_refuses 6 = .ok (.invokestatic 64, 3) := by decide +kernel
theorem dX10_refuses_9 : decode cX10_refuses 9 = .ok (.ifCond .ne 6, 3) := by decide +kernel
theorem dX10_refuses_12 : decode cX10_refuses 12 = .ok (.ldc 86, 2) := by decide +kernel
theorem dX10_refuses_14 : decode cX10_refuses 14 = .ok (.ireturn, 1) := by decide +kernel
theorem dX10_refuses_15 : decode cX10_refuses 15 = .ok (.aload_n 0, 1) := by decide +kernel
theorem dX10_refuses_16 : decode cX10_refuses 16 = .ok (.getfield 7, 3) := by decide +kernel
theorem dX10_refuses_19 : decode cX10_refuses 19 = .ok (.iconst 0, 1) := by decide +kernel
theorem dX10_refuses_20 : decode cX10_refuses 20 = .ok (.iaload, 1) := by decide +kernel
theorem dX10_refuses_21 : decode cX10_refuses 21 = .ok (.ifCond .ne 8, 3) := by decide +kernel
theorem dX10_refuses_24 : decode cX10_refuses 24 = .ok (.ldc 221, 2) := by decide +kernel
theorem dX10_refuses_26 : decode cX10_refuses 26 = .ok (.goto 22, 3) := by decide +kernel
theorem dX10_refuses_29 : decode cX10_refuses 29 = .ok (.aload_n 0, 1) := by decide +kernel
theorem dX10_refuses_30 : decode cX10_refuses 30 = .ok (.getfield 16, 3) := by decide +kernel
theorem dX10_refuses_33 : decode cX10_refuses 33 = .ok (.bipush 23, 2) := by decide +kernel
theorem dX10_refuses_35 : decode cX10_refuses 35 = .ok (.iaload, 1) := by decide +kernel
theorem dX10_refuses_36 : decode cX10_refuses 36 = .ok (.sipush 9000, 3) := by decide +kernel
theorem dX10_refuses_39 : decode cX10_refuses 39 = .ok (.if_icmp .le 8, 3) := by decide +kernel
theorem dX10_refuses_42 : decode cX10_refuses 42 = .ok (.ldc 90, 2) := by decide +kernel
theorem dX10_refuses_44 : decode cX10_refuses 44 = .ok (.goto 4, 3) := by decide +kernel
theorem dX10_refuses_47 : decode cX10_refuses 47 = .ok (.iconst 0, 1) := by decide +kernel
theorem dX10_refuses_48 : decode cX10_refuses 48 = .ok (.ireturn, 1) := by decide +kernel
end
section
theorem dX10_hour_0 : decode cX10_hour 0 = .ok (.aload_n 0, 1) := by decide +kernel
theorem dX10_hour_1 : decode cX10_hour 1 = .ok (.iload_n 1, 1) := by decide +kernel
theorem dX10_hour_2 : decode cX10_hour 2 = .ok (.invokevirtual 222, 3) := by decide +kernel
theorem dX10_hour_5 : decode cX10_hour 5 = .ok (.istore_n 2, 1) := by decide +kernel
theorem dX10_hour_6 : decode cX10_hour 6 = .ok (.iload_n 2, 1) := by decide +kernel
theorem dX10_hour_7 : decode cX10_hour 7 = .ok (.ifCond .eq 5, 3) := by decide +kernel
theorem dX10_hour_10 : decode cX10_hour 10 = .ok (.iload_n 2, 1) := by decide +kernel
theorem dX10_hour_11 : decode cX10_hour 11 = .ok (.ireturn, 1) := by decide +kernel
theorem dX10_hour_12 : decode cX10_hour 12 = .ok (.aload_n 0, 1) := by decide +kernel
theorem dX10_hour_13 : decode cX10_hour 13 = .ok (.invokevirtual 225, 3) := by decide +kernel
theorem dX10_hour_16 : decode cX10_hour 16 = .ok (.iconst 0, 1) := by decide +kernel
theorem dX10_hour_17 : decode cX10_hour 17 = .ok (.istore_n 3, 1) := by decide +kernel
theorem dX10_hour_18 : decode cX10_hour 18 = .ok (.iload_n 3, 1) := by decide +kernel
theorem dX10_hour_19 : decode cX10_hour 19 = .ok (.iload_n 1, 1) := by decide +kernel
theorem dX10_hour_20 : decode cX10_hour 20 = .ok (.if_icmp .ge 17, 3) := by decide +kernel
theorem dX10_hour_23 : decode cX10_hour 23 = .ok (.aload_n 0, 1) := by decide +kernel
theorem dX10_hour_24 : decode cX10_hour 24 = .ok (.aload_n 0, 1) := by decide +kernel
theorem dX10_hour_25 : decode cX10_hour 25 = .ok (.getfield 16, 3) := by decide +kernel
theorem dX10_hour_28 : decode cX10_hour 28 = .ok (.invokevirtual 228, 3) := by decide +kernel
theorem dX10_hour_31 : decode cX10_hour 31 = .ok (.iinc 3 1, 3) := by decide +kernel
theorem dX10_hour_34 : decode cX10_hour 34 = .ok (.goto (-16), 3) := by decide +kernel
theorem dX10_hour_37 : decode cX10_hour 37 = .ok (.aload_n 0, 1) := by decide +kernel
theorem dX10_hour_38 : decode cX10_hour 38 = .ok (.getfield 16, 3) := by decide +kernel
theorem dX10_hour_41 : decode cX10_hour 41 = .ok (.bipush 23, 2) := by decide +kernel
theorem dX10_hour_43 : decode cX10_hour 43 = .ok (.iaload, 1) := by decide +kernel
theorem dX10_hour_44 : decode cX10_hour 44 = .ok (.ireturn, 1) := by decide +kernel
theorem dX10_sit_0 : decode cX10_sit 0 = .ok (.aload_n 0, 1) := by decide +kernel
theorem dX10_sit_1 : decode cX10_sit 1 = .ok (.iload_n 1, 1) := by decide +kernel
theorem dX10_sit_2 : decode cX10_sit 2 = .ok (.invokevirtual 202, 3) := by decide +kernel
theorem dX10_sit_5 : decode cX10_sit 5 = .ok (.ifCond .eq 11, 3) := by decide +kernel
theorem dX10_sit_8 : decode cX10_sit 8 = .ok (.aload_n 0, 1) := by decide +kernel
theorem dX10_sit_9 : decode cX10_sit 9 = .ok (.iload_n 2, 1) := by decide +kernel
theorem dX10_sit_10 : decode cX10_sit 10 = .ok (.invokevirtual 196, 3) := by decide +kernel
theorem dX10_sit_13 : decode cX10_sit 13 = .ok (.ifCond .ne 6, 3) := by decide +kernel
theorem dX10_sit_16 : decode cX10_sit 16 = .ok (.ldc 191, 2) := by decide +kernel
theorem dX10_sit_18 : decode cX10_sit 18 = .ok (.ireturn, 1) := by decide +kernel
theorem dX10_sit_19 : decode cX10_sit 19 = .ok (.aload_n 0, 1) := by decide +kernel
theorem dX10_sit_20 : decode cX10_sit 20 = .ok (.aload_n 0, 1) := by decide +kernel
theorem dX10_sit_21 : decode cX10_sit 21 = .ok (.getfield 16, 3) := by decide +kernel
theorem dX10_sit_24 : decode cX10_sit 24 = .ok (.iload_n 2, 1) := by decide +kernel
theorem dX10_sit_25 : decode cX10_sit 25 = .ok (.invokevirtual 199, 3) := by decide +kernel
theorem dX10_sit_28 : decode cX10_sit 28 = .ok (.iconst (-1), 1) := by decide +kernel
theorem dX10_sit_29 : decode cX10_sit 29 = .ok (.if_icmp .eq 6, 3) := by decide +kernel
theorem dX10_sit_32 : decode cX10_sit 32 = .ok (.ldc 221, 2) := by decide +kernel
theorem dX10_sit_34 : decode cX10_sit 34 = .ok (.ireturn, 1) := by decide +kernel
theorem dX10_sit_35 : decode cX10_sit 35 = .ok (.aload_n 0, 1) := by decide +kernel
theorem dX10_sit_36 : decode cX10_sit 36 = .ok (.invokevirtual 225, 3) := by decide +kernel
theorem dX10_sit_39 : decode cX10_sit 39 = .ok (.aload_n 0, 1) := by decide +kernel
theorem dX10_sit_40 : decode cX10_sit 40 = .ok (.getfield 16, 3) := by decide +kernel
theorem dX10_sit_43 : decode cX10_sit 43 = .ok (.bipush 12, 2) := by decide +kernel
theorem dX10_sit_45 : decode cX10_sit 45 = .ok (.iload_n 1, 1) := by decide +kernel
theorem dX10_sit_46 : decode cX10_sit 46 = .ok (.iadd, 1) := by decide +kernel
theorem dX10_sit_47 : decode cX10_sit 47 = .ok (.iaload, 1) := by decide +kernel
theorem dX10_sit_48 : decode cX10_sit 48 = .ok (.istore_n 3, 1) := by decide +kernel
theorem dX10_sit_49 : decode cX10_sit 49 = .ok (.aload_n 0, 1) := by decide +kernel
theorem dX10_sit_50 : decode cX10_sit 50 = .ok (.getfield 16, 3) := by decide +kernel
theorem dX10_sit_53 : decode cX10_sit 53 = .ok (.bipush 12, 2) := by decide +kernel
theorem dX10_sit_55 : decode cX10_sit 55 = .ok (.iload_n 1, 1) := by decide +kernel
theorem dX10_sit_56 : decode cX10_sit 56 = .ok (.iadd, 1) := by decide +kernel
theorem dX10_sit_57 : decode cX10_sit 57 = .ok (.iload_n 2, 1) := by decide +kernel
theorem dX10_sit_58 : decode cX10_sit 58 = .ok (.iastore, 1) := by decide +kernel
theorem dX10_sit_59 : decode cX10_sit 59 = .ok (.iload_n 3, 1) := by decide +kernel
theorem dX10_sit_60 : decode cX10_sit 60 = .ok (.ireturn, 1) := by decide +kernel
theorem dX10_rest_0 : decode cX10_rest 0 = .ok (.aload_n 0, 1) := by decide +kernel
theorem dX10_rest_1 : decode cX10_rest 1 = .ok (.iload_n 1, 1) := by decide +kernel
theorem dX10_rest_2 : decode cX10_rest 2 = .ok (.invokevirtual 202, 3) := by decide +kernel
theorem dX10_rest_5 : decode cX10_rest 5 = .ok (.ifCond .ne 6, 3) := by decide +kernel
theorem dX10_rest_8 : decode cX10_rest 8 = .ok (.ldc 191, 2) := by decide +kernel
theorem dX10_rest_10 : decode cX10_rest 10 = .ok (.ireturn, 1) := by decide +kernel
theorem dX10_rest_11 : decode cX10_rest 11 = .ok (.aload_n 0, 1) := by decide +kernel
theorem dX10_rest_12 : decode cX10_rest 12 = .ok (.getfield 16, 3) := by decide +kernel
theorem dX10_rest_15 : decode cX10_rest 15 = .ok (.bipush 12, 2) := by decide +kernel
theorem dX10_rest_17 : decode cX10_rest 17 = .ok (.iload_n 1, 1) := by decide +kernel
theorem dX10_rest_18 : decode cX10_rest 18 = .ok (.iadd, 1) := by decide +kernel
theorem dX10_rest_19 : decode cX10_rest 19 = .ok (.iaload, 1) := by decide +kernel
theorem dX10_rest_20 : decode cX10_rest 20 = .ok (.iconst (-1), 1) := by decide +kernel
theorem dX10_rest_21 : decode cX10_rest 21 = .ok (.if_icmp .ne 6, 3) := by decide +kernel
theorem dX10_rest_24 : decode cX10_rest 24 = .ok (.ldc 221, 2) := by decide +kernel
theorem dX10_rest_26 : decode cX10_rest 26 = .ok (.ireturn, 1) := by decide +kernel
theorem dX10_rest_27 : decode cX10_rest 27 = .ok (.aload_n 0, 1) := by decide +kernel
theorem dX10_rest_28 : decode cX10_rest 28 = .ok (.invokevirtual 225, 3) := by decide +kernel
theorem dX10_rest_31 : decode cX10_rest 31 = .ok (.aload_n 0, 1) := by decide +kernel
theorem dX10_rest_32 : decode cX10_rest 32 = .ok (.getfield 16, 3) := by decide +kernel
theorem dX10_rest_35 : decode cX10_rest 35 = .ok (.bipush 12, 2) := by decide +kernel
theorem dX10_rest_37 : decode cX10_rest 37 = .ok (.iload_n 1, 1) := by decide +kernel
theorem dX10_rest_38 : decode cX10_rest 38 = .ok (.iadd, 1) := by decide +kernel
theorem dX10_rest_39 : decode cX10_rest 39 = .ok (.iaload, 1) := by decide +kernel
theorem dX10_rest_40 : decode cX10_rest 40 = .ok (.istore_n 2, 1) := by decide +kernel
theorem dX10_rest_41 : decode cX10_rest 41 = .ok (.aload_n 0, 1) := by decide +kernel
theorem dX10_rest_42 : decode cX10_rest 42 = .ok (.getfield 16, 3) := by decide +kernel
theorem dX10_rest_45 : decode cX10_rest 45 = .ok (.bipush 12, 2) := by decide +kernel
theorem dX10_rest_47 : decode cX10_rest 47 = .ok (.iload_n 1, 1) := by decide +kernel
theorem dX10_rest_48 : decode cX10_rest 48 = .ok (.iadd, 1) := by decide +kernel
theorem dX10_rest_49 : decode cX10_rest 49 = .ok (.iconst (-1), 1) := by decide +kernel
theorem dX10_rest_50 : decode cX10_rest 50 = .ok (.iastore, 1) := by decide +kernel
theorem dX10_rest_51 : decode cX10_rest 51 = .ok (.iload_n 2, 1) := by decide +kernel
theorem dX10_rest_52 : decode cX10_rest 52 = .ok (.ireturn, 1) := by decide +kernel
theorem dX10_sleeps_0 : decode cX10_sleeps 0 = .ok (.aload_n 0, 1) := by decide +kernel
theorem dX10_sleeps_1 : decode cX10_sleeps 1 = .ok (.getfield 16, 3) := by decide +kernel
theorem dX10_sleeps_4 : decode cX10_sleeps 4 = .ok (.bipush 18, 2) := by decide +kernel
theorem dX10_sleeps_6 : decode cX10_sleeps 6 = .ok (.iload_n 2, 1) := by decide +kernel
theorem dX10_sleeps_7 : decode cX10_sleeps 7 = .ok (.ifCond .eq 17, 3) := by decide +kernel
theorem dX10_sleeps_10 : decode cX10_sleeps 10 = .ok (.aload_n 0, 1) := by decide +kernel
theorem dX10_sleeps_11 : decode cX10_sleeps 11 = .ok (.getfield 16, 3) := by decide +kernel
theorem dX10_sleeps_14 : decode cX10_sleeps 14 = .ok (.bipush 18, 2) := by decide +kernel
theorem dX10_sleeps_16 : decode cX10_sleeps 16 = .ok (.iaload, 1) := by decide +kernel
theorem dX10_sleeps_17 : decode cX10_sleeps 17 = .ok (.iconst 1, 1) := by decide +kernel
theorem dX10_sleeps_18 : decode cX10_sleeps 18 = .ok (.iload_n 1, 1) := by decide +kernel
theorem dX10_sleeps_19 : decode cX10_sleeps 19 = .ok (.ishl, 1) := by decide +kernel
theorem dX10_sleeps_20 : decode cX10_sleeps 20 = .ok (.ior, 1) := by decide +kernel
theorem dX10_sleeps_21 : decode cX10_sleeps 21 = .ok (.goto 16, 3) := by decide +kernel
theorem dX10_sleeps_24 : decode cX10_sleeps 24 = .ok (.aload_n 0, 1) := by decide +kernel
theorem dX10_sleeps_25 : decode cX10_sleeps 25 = .ok (.getfield 16, 3) := by decide +kernel
theorem dX10_sleeps_28 : decode cX10_sleeps 28 = .ok (.bipush 18, 2) := by decide +kernel
theorem dX10_sleeps_30 : decode cX10_sleeps 30 = .ok (.iaload, 1) := by decide +kernel
theorem dX10_sleeps_31 : decode cX10_sleeps 31 = .ok (.iconst 1, 1) := by decide +kernel
theorem dX10_sleeps_32 : decode cX10_sleeps 32 = .ok (.iload_n 1, 1) := by decide +kernel
theorem dX10_sleeps_33 : decode cX10_sleeps 33 = .ok (.ishl, 1) := by decide +kernel
theorem dX10_sleeps_34 : decode cX10_sleeps 34 = .ok (.iconst (-1), 1) := by decide +kernel
theorem dX10_sleeps_35 : decode cX10_sleeps 35 = .ok (.ixor, 1) := by decide +kernel
theorem dX10_sleeps_36 : decode cX10_sleeps 36 = .ok (.iand, 1) := by decide +kernel
theorem dX10_sleeps_37 : decode cX10_sleeps 37 = .ok (.iastore, 1) := by decide +kernel
theorem dX10_sleeps_38 : decode cX10_sleeps 38 = .ok (.return_, 1) := by decide +kernel
theorem dX10_sleep_0 : decode cX10_sleep 0 = .ok (.aload_n 0, 1) := by decide +kernel
theorem dX10_sleep_1 : decode cX10_sleep 1 = .ok (.iload_n 1, 1) := by decide +kernel
theorem dX10_sleep_2 : decode cX10_sleep 2 = .ok (.invokevirtual 202, 3) := by decide +kernel
theorem dX10_sleep_5 : decode cX10_sleep 5 = .ok (.ifCond .ne 6, 3) := by decide +kernel
theorem dX10_sleep_8 : decode cX10_sleep 8 = .ok (.ldc 191, 2) := by decide +kernel
theorem dX10_sleep_10 : decode cX10_sleep 10 = .ok (.ireturn, 1) := by decide +kernel
theorem dX10_sleep_11 : decode cX10_sleep 11 = .ok (.aload_n 0, 1) := by decide +kernel
theorem dX10_sleep_12 : decode cX10_sleep 12 = .ok (.invokevirtual 225, 3) := by decide +kernel
theorem dX10_sleep_15 : decode cX10_sleep 15 = .ok (.aload_n 0, 1) := by decide +kernel
theorem dX10_sleep_16 : decode cX10_sleep 16 = .ok (.getfield 16, 3) := by decide +kernel
theorem dX10_sleep_19 : decode cX10_sleep 19 = .ok (.bipush 18, 2) := by decide +kernel
theorem dX10_sleep_21 : decode cX10_sleep 21 = .ok (.iaload, 1) := by decide +kernel
theorem dX10_sleep_22 : decode cX10_sleep 22 = .ok (.iload_n 1, 1) := by decide +kernel
theorem dX10_sleep_23 : decode cX10_sleep 23 = .ok (.ishr, 1) := by decide +kernel
theorem dX10_sleep_24 : decode cX10_sleep 24 = .ok (.iconst 1, 1) := by decide +kernel
theorem dX10_sleep_25 : decode cX10_sleep 25 = .ok (.iand, 1) := by decide +kernel
theorem dX10_sleep_26 : decode cX10_sleep 26 = .ok (.istore_n 3, 1) := by decide +kernel
theorem dX10_sleep_27 : decode cX10_sleep 27 = .ok (.aload_n 0, 1) := by decide +kernel
theorem dX10_sleep_28 : decode cX10_sleep 28 = .ok (.iload_n 1, 1) := by decide +kernel
theorem dX10_sleep_29 : decode cX10_sleep 29 = .ok (.iload_n 2, 1) := by decide +kernel
theorem dX10_sleep_30 : decode cX10_sleep 30 = .ok (.invokevirtual 231, 3) := by decide +kernel
theorem dX10_sleep_33 : decode cX10_sleep 33 = .ok (.iload_n 3, 1) := by decide +kernel
theorem dX10_sleep_34 : decode cX10_sleep 34 = .ok (.ireturn, 1) := by decide +kernel
theorem dX10_turn_0 : decode cX10_turn 0 = .ok (.aload_n 0, 1) := by decide +kernel
theorem dX10_turn_1 : decode cX10_turn 1 = .ok (.iload_n 1, 1) := by decide +kernel
theorem dX10_turn_2 : decode cX10_turn 2 = .ok (.invokevirtual 196, 3) := by decide +kernel
theorem dX10_turn_5 : decode cX10_turn 5 = .ok (.ifCond .ne 6, 3) := by decide +kernel
theorem dX10_turn_8 : decode cX10_turn 8 = .ok (.ldc 191, 2) := by decide +kernel
theorem dX10_turn_10 : decode cX10_turn 10 = .ok (.ireturn, 1) := by decide +kernel
theorem dX10_turn_11 : decode cX10_turn 11 = .ok (.iload_n 2, 1) := by decide +kernel
theorem dX10_turn_12 : decode cX10_turn 12 = .ok (.i2l, 1) := by decide +kernel
theorem dX10_turn_13 : decode cX10_turn 13 = .ok (.lconst 0, 1) := by decide +kernel
theorem dX10_turn_14 : decode cX10_turn 14 = .ok (.ldc2_w 235, 3) := by decide +kernel
theorem dX10_turn_17 : decode cX10_turn 17 = .ok (.invokestatic 64, 3) := by decide +kernel
theorem dX10_turn_20 : decode cX10_turn 20 = .ok (.ifCond .ne 6, 3) := by decide +kernel
theorem dX10_turn_23 : decode cX10_turn 23 = .ok (.ldc 86, 2) := by decide +kernel
theorem dX10_turn_25 : decode cX10_turn 25 = .ok (.ireturn, 1) := by decide +kernel
theorem dX10_turn_26 : decode cX10_turn 26 = .ok (.aload_n 0, 1) := by decide +kernel
theorem dX10_turn_27 : decode cX10_turn 27 = .ok (.invokevirtual 225, 3) := by decide +kernel
theorem dX10_turn_30 : decode cX10_turn 30 = .ok (.aload_n 0, 1) := by decide +kernel
theorem dX10_turn_31 : decode cX10_turn 31 = .ok (.getfield 16, 3) := by decide +kernel
theorem dX10_turn_34 : decode cX10_turn 34 = .ok (.iconst 0, 1) := by decide +kernel
theorem dX10_turn_35 : decode cX10_turn 35 = .ok (.iload_n 1, 1) := by decide +kernel
theorem dX10_turn_36 : decode cX10_turn 36 = .ok (.iadd, 1) := by decide +kernel
theorem dX10_turn_37 : decode cX10_turn 37 = .ok (.iaload, 1) := by decide +kernel
theorem dX10_turn_38 : decode cX10_turn 38 = .ok (.istore_n 3, 1) := by decide +kernel
theorem dX10_turn_39 : decode cX10_turn 39 = .ok (.aload_n 0, 1) := by decide +kernel
theorem dX10_turn_40 : decode cX10_turn 40 = .ok (.getfield 16, 3) := by decide +kernel
theorem dX10_turn_43 : decode cX10_turn 43 = .ok (.iconst 0, 1) := by decide +kernel
theorem dX10_turn_44 : decode cX10_turn 44 = .ok (.iload_n 1, 1) := by decide +kernel
theorem dX10_turn_45 : decode cX10_turn 45 = .ok (.iadd, 1) := by decide +kernel
theorem dX10_turn_46 : decode cX10_turn 46 = .ok (.iload_n 2, 1) := by decide +kernel
theorem dX10_turn_47 : decode cX10_turn 47 = .ok (.iastore, 1) := by decide +kernel
theorem dX10_turn_48 : decode cX10_turn 48 = .ok (.iload_n 3, 1) := by decide +kernel
theorem dX10_turn_49 : decode cX10_turn 49 = .ok (.ireturn, 1) := by decide +kernel
theorem dX10_send_0 : decode cX10_send 0 = .ok (.aload_n 0, 1) := by decide +kernel
theorem dX10_send_1 : decode cX10_send 1 = .ok (.iload_n 1, 1) := by decide +kernel
theorem dX10_send_2 : decode cX10_send 2 = .ok (.invokevirtual 205, 3) := by decide +kernel
theorem dX10_send_5 : decode cX10_send 5 = .ok (.ifCond .ne 6, 3) := by decide +kernel
theorem dX10_send_8 : decode cX10_send 8 = .ok (.ldc 191, 2) := by decide +kernel
theorem dX10_send_10 : decode cX10_send 10 = .ok (.ireturn, 1) := by decide +kernel
theorem dX10_send_11 : decode cX10_send 11 = .ok (.aload_n 0, 1) := by decide +kernel
theorem dX10_send_12 : decode cX10_send 12 = .ok (.invokevirtual 225, 3) := by decide +kernel
theorem dX10_send_15 : decode cX10_send 15 = .ok (.aload_n 0, 1) := by decide +kernel
theorem dX10_send_16 : decode cX10_send 16 = .ok (.getfield 16, 3) := by decide +kernel
theorem dX10_send_19 : decode cX10_send 19 = .ok (.bipush 19, 2) := by decide +kernel
theorem dX10_send_21 : decode cX10_send 21 = .ok (.iload_n 1, 1) := by decide +kernel
theorem dX10_send_22 : decode cX10_send 22 = .ok (.iadd, 1) := by decide +kernel
theorem dX10_send_23 : decode cX10_send 23 = .ok (.iaload, 1) := by decide +kernel
theorem dX10_send_24 : decode cX10_send 24 = .ok (.istore_n 2, 1) := by decide +kernel
theorem dX10_send_25 : decode cX10_send 25 = .ok (.aload_n 0, 1) := by decide +kernel
theorem dX10_send_26 : decode cX10_send 26 = .ok (.getfield 16, 3) := by decide +kernel
theorem dX10_send_29 : decode cX10_send 29 = .ok (.bipush 19, 2) := by decide +kernel
theorem dX10_send_31 : decode cX10_send 31 = .ok (.iload_n 1, 1) := by decide +kernel
theorem dX10_send_32 : decode cX10_send 32 = .ok (.iadd, 1) := by decide +kernel
theorem dX10_send_33 : decode cX10_send 33 = .ok (.aload_n 0, 1) := by decide +kernel
theorem dX10_send_34 : decode cX10_send 34 = .ok (.getfield 7, 3) := by decide +kernel
theorem dX10_send_37 : decode cX10_send 37 = .ok (.bipush 36, 2) := by decide +kernel
theorem dX10_send_39 : decode cX10_send 39 = .ok (.iload_n 1, 1) := by decide +kernel
theorem dX10_send_40 : decode cX10_send 40 = .ok (.iadd, 1) := by decide +kernel
theorem dX10_send_41 : decode cX10_send 41 = .ok (.iaload, 1) := by decide +kernel
theorem dX10_send_42 : decode cX10_send 42 = .ok (.iastore, 1) := by decide +kernel
theorem dX10_send_43 : decode cX10_send 43 = .ok (.iload_n 2, 1) := by decide +kernel
theorem dX10_send_44 : decode cX10_send 44 = .ok (.ireturn, 1) := by decide +kernel
theorem dX10_draw_0 : decode cX10_draw 0 = .ok (.aload_n 0, 1) := by decide +kernel
theorem dX10_draw_1 : decode cX10_draw 1 = .ok (.aload_n 0, 1) := by decide +kernel
theorem dX10_draw_2 : decode cX10_draw 2 = .ok (.getfield 237, 3) := by decide +kernel
theorem dX10_draw_5 : decode cX10_draw 5 = .ok (.ldc2_w 241, 3) := by decide +kernel
theorem dX10_draw_8 : decode cX10_draw 8 = .ok (.lmul, 1) := by decide +kernel
theorem dX10_draw_9 : decode cX10_draw 9 = .ok (.ldc2_w 243, 3) := by decide +kernel
theorem dX10_draw_12 : decode cX10_draw 12 = .ok (.ladd, 1) := by decide +kernel
theorem dX10_draw_13 : decode cX10_draw 13 = .ok (.ldc2_w 245, 3) := by decide +kernel
theorem dX10_draw_16 : decode cX10_draw 16 = .ok (.lrem, 1) := by decide +kernel
theorem dX10_draw_17 : decode cX10_draw 17 = .ok (.putfield 237, 3) := by decide +kernel
theorem dX10_draw_20 : decode cX10_draw 20 = .ok (.aload_n 0, 1) := by decide +kernel
theorem dX10_draw_21 : decode cX10_draw 21 = .ok (.getfield 237, 3) := by decide +kernel
theorem dX10_draw_24 : decode cX10_draw 24 = .ok (.ldc2_w 247, 3) := by decide +kernel
theorem dX10_draw_27 : decode cX10_draw 27 = .ok (.ldiv, 1) := by decide +kernel
theorem dX10_draw_28 : decode cX10_draw 28 = .ok (.iload_n 1, 1) := by decide +kernel
theorem dX10_draw_29 : decode cX10_draw 29 = .ok (.i2l, 1) := by decide +kernel
theorem dX10_draw_30 : decode cX10_draw 30 = .ok (.lrem, 1) := by decide +kernel
theorem dX10_draw_31 : decode cX10_draw 31 = .ok (.l2i, 1) := by decide +kernel
theorem dX10_draw_32 : decode cX10_draw 32 = .ok (.ireturn, 1) := by decide +kernel
theorem dX10_draws_0 : decode cX10_draws 0 = .ok (.aload_n 0, 1) := by decide +kernel
theorem dX10_draws_1 : decode cX10_draws 1 = .ok (.aload_n 0, 1) := by decide +kernel
theorem dX10_draws_2 : decode cX10_draws 2 = .ok (.getfield 7, 3) := by decide +kernel
theorem dX10_draws_5 : decode cX10_draws 5 = .ok (.iconst 2, 1) := by decide +kernel
theorem dX10_draws_6 : decode cX10_draws 6 = .ok (.iaload, 1) := by decide +kernel
theorem dX10_draws_7 : decode cX10_draws 7 = .ok (.invokevirtual 249, 3) := by decide +kernel
theorem dX10_draws_10 : decode cX10_draws 10 = .ok (.istore_n 1, 1) := by decide +kernel
theorem dX10_draws_11 : decode cX10_draws 11 = .ok (.aload_n 0, 1) := by decide +kernel
theorem dX10_draws_12 : decode cX10_draws 12 = .ok (.bipush 6, 2) := by decide +kernel
theorem dX10_draws_14 : decode cX10_draws 14 = .ok (.invokevirtual 249, 3) := by decide +kernel
theorem dX10_draws_17 : decode cX10_draws 17 = .ok (.istore_n 2, 1) := by decide +kernel
theorem dX10_draws_18 : decode cX10_draws 18 = .ok (.iload_n 2, 1) := by decide +kernel
theorem dX10_draws_19 : decode cX10_draws 19 = .ok (.iconst 2, 1) := by decide +kernel
theorem dX10_draws_20 : decode cX10_draws 20 = .ok (.if_icmp .ge 20, 3) := by decide +kernel
theorem dX10_draws_23 : decode cX10_draws 23 = .ok (.aload_n 0, 1) := by decide +kernel
theorem dX10_draws_24 : decode cX10_draws 24 = .ok (.iload_n 1, 1) := by decide +kernel
theorem dX10_draws_25 : decode cX10_draws 25 = .ok (.iload_n 2, 1) := by decide +kernel
theorem dX10_draws_26 : decode cX10_draws 26 = .ok (.ifCond .ne 7, 3) := by decide +kernel
theorem dX10_draws_29 : decode cX10_draws 29 = .ok (.iconst 1, 1) := by decide +kernel
theorem dX10_draws_30 : decode cX10_draws 30 = .ok (.goto 4, 3) := by decide +kernel
theorem dX10_draws_33 : decode cX10_draws 33 = .ok (.iconst 0, 1) := by decide +kernel
theorem dX10_draws_34 : decode cX10_draws 34 = .ok (.invokevirtual 231, 3) := by decide +kernel
theorem dX10_draws_37 : decode cX10_draws 37 = .ok (.goto 81, 3) := by decide +kernel
theorem dX10_draws_40 : decode cX10_draws 40 = .ok (.iload_n 2, 1) := by decide +kernel
theorem dX10_draws_41 : decode cX10_draws 41 = .ok (.iconst 2, 1) := by decide +kernel
theorem dX10_draws_42 : decode cX10_draws 42 = .ok (.if_icmp .ne 16, 3) := by decide +kernel
theorem dX10_draws_45 : decode cX10_draws 45 = .ok (.aload_n 0, 1) := by decide +kernel
theorem dX10_draws_46 : decode cX10_draws 46 = .ok (.getfield 16, 3) := by decide +kernel
theorem dX10_draws_49 : decode cX10_draws 49 = .ok (.bipush 12, 2) := by decide +kernel
theorem dX10_draws_51 : decode cX10_draws 51 = .ok (.iload_n 1, 1) := by decide +kernel
theorem dX10_draws_52 : decode cX10_draws 52 = .ok (.iadd, 1) := by decide +kernel
theorem dX10_draws_53 : decode cX10_draws 53 = .ok (.iconst (-1), 1) := by decide +kernel
theorem dX10_draws_54 : decode cX10_draws 54 = .ok (.iastore, 1) := by decide +kernel
theorem dX10_draws_55 : decode cX10_draws 55 = .ok (.goto 63, 3) := by decide +kernel
theorem dX10_draws_58 : decode cX10_draws 58 = .ok (.iload_n 2, 1) := by decide +kernel
theorem dX10_draws_59 : decode cX10_draws 59 = .ok (.iconst 3, 1) := by decide +kernel
theorem dX10_draws_60 : decode cX10_draws 60 = .ok (.if_icmp .ne 58, 3) := by decide +kernel
theorem dX10_draws_63 : decode cX10_draws 63 = .ok (.aload_n 0, 1) := by decide +kernel
theorem dX10_draws_64 : decode cX10_draws 64 = .ok (.getfield 7, 3) := by decide +kernel
theorem dX10_draws_67 : decode cX10_draws 67 = .ok (.iconst 1, 1) := by decide +kernel
theorem dX10_draws_68 : decode cX10_draws 68 = .ok (.iaload, 1) := by decide +kernel
theorem dX10_draws_69 : decode cX10_draws 69 = .ok (.ifCond .le 49, 3) := by decide +kernel
theorem dX10_draws_72 : decode cX10_draws 72 = .ok (.aload_n 0, 1) := by decide +kernel
theorem dX10_draws_73 : decode cX10_draws 73 = .ok (.aload_n 0, 1) := by decide +kernel
theorem dX10_draws_74 : decode cX10_draws 74 = .ok (.getfield 7, 3) := by decide +kernel
theorem dX10_draws_77 : decode cX10_draws 77 = .ok (.iconst 1, 1) := by decide +kernel
theorem dX10_draws_78 : decode cX10_draws 78 = .ok (.iaload, 1) := by decide +kernel
theorem dX10_draws_79 : decode cX10_draws 79 = .ok (.invokevirtual 249, 3) := by decide +kernel
theorem dX10_draws_82 : decode cX10_draws 82 = .ok (.istore_n 3, 1) := by decide +kernel
theorem dX10_draws_83 : decode cX10_draws 83 = .ok (.aload_n 0, 1) := by decide +kernel
theorem dX10_draws_84 : decode cX10_draws 84 = .ok (.getfield 16, 3) := by decide +kernel
theorem dX10_draws_87 : decode cX10_draws 87 = .ok (.bipush 12, 2) := by decide +kernel
theorem dX10_draws_89 : decode cX10_draws 89 = .ok (.iload_n 1, 1) := by decide +kernel
theorem dX10_draws_90 : decode cX10_draws 90 = .ok (.iadd, 1) := by decide +kernel
theorem dX10_draws_91 : decode cX10_draws 91 = .ok (.aload_n 0, 1) := by decide +kernel
theorem dX10_draws_92 : decode cX10_draws 92 = .ok (.aload_n 0, 1) := by decide +kernel
theorem dX10_draws_93 : decode cX10_draws 93 = .ok (.getfield 16, 3) := by decide +kernel
theorem dX10_draws_96 : decode cX10_draws 96 = .ok (.iload_n 3, 1) := by decide +kernel
theorem dX10_draws_97 : decode cX10_draws 97 = .ok (.invokevirtual 199, 3) := by decide +kernel
theorem dX10_draws_100 : decode cX10_draws 100 = .ok (.iconst (-1), 1) := by decide +kernel
theorem dX10_draws_101 : decode cX10_draws 101 = .ok (.if_icmp .ne 7, 3) := by decide +kernel
theorem dX10_draws_104 : decode cX10_draws 104 = .ok (.iload_n 3, 1) := by decide +kernel
theorem dX10_draws_105 : decode cX10_draws 105 = .ok (.goto 12, 3) := by decide +kernel
theorem dX10_draws_108 : decode cX10_draws 108 = .ok (.aload_n 0, 1) := by decide +kernel
theorem dX10_draws_109 : decode cX10_draws 109 = .ok (.getfield 16, 3) := by decide +kernel
theorem dX10_draws_112 : decode cX10_draws 112 = .ok (.bipush 12, 2) := by decide +kernel
theorem dX10_draws_114 : decode cX10_draws 114 = .ok (.iload_n 1, 1) := by decide +kernel
theorem dX10_draws_115 : decode cX10_draws 115 = .ok (.iadd, 1) := by decide +kernel
theorem dX10_draws_116 : decode cX10_draws 116 = .ok (.iaload, 1) := by decide +kernel
theorem dX10_draws_117 : decode cX10_draws 117 = .ok (.iastore, 1) := by decide +kernel
theorem dX10_draws_118 : decode cX10_draws 118 = .ok (.return_, 1) := by decide +kernel
theorem dX10_drift_0 : decode cX10_drift 0 = .ok (.aload_n 0, 1) := by decide +kernel
theorem dX10_drift_1 : decode cX10_drift 1 = .ok (.iload_n 1, 1) := by decide +kernel
theorem dX10_drift_2 : decode cX10_drift 2 = .ok (.invokevirtual 222, 3) := by decide +kernel
theorem dX10_drift_5 : decode cX10_drift 5 = .ok (.istore_n 2, 1) := by decide +kernel
theorem dX10_drift_6 : decode cX10_drift 6 = .ok (.iload_n 2, 1) := by decide +kernel
theorem dX10_drift_7 : decode cX10_drift 7 = .ok (.ifCond .eq 5, 3) := by decide +kernel
theorem dX10_drift_10 : decode cX10_drift 10 = .ok (.iload_n 2, 1) := by decide +kernel
theorem dX10_drift_11 : decode cX10_drift 11 = .ok (.ireturn, 1) := by decide +kernel
theorem dX10_drift_12 : decode cX10_drift 12 = .ok (.aload_n 0, 1) := by decide +kernel
theorem dX10_drift_13 : decode cX10_drift 13 = .ok (.invokevirtual 225, 3) := by decide +kernel
theorem dX10_drift_16 : decode cX10_drift 16 = .ok (.iconst 0, 1) := by decide +kernel
theorem dX10_drift_17 : decode cX10_drift 17 = .ok (.istore_n 3, 1) := by decide +kernel
theorem dX10_drift_18 : decode cX10_drift 18 = .ok (.iload_n 3, 1) := by decide +kernel
theorem dX10_drift_19 : decode cX10_drift 19 = .ok (.iload_n 1, 1) := by decide +kernel
theorem dX10_drift_20 : decode cX10_drift 20 = .ok (.if_icmp .ge 30, 3) := by decide +kernel
theorem dX10_drift_23 : decode cX10_drift 23 = .ok (.aload_n 0, 1) := by decide +kernel
theorem dX10_drift_24 : decode cX10_drift 24 = .ok (.getfield 7, 3) := by decide +kernel
theorem dX10_drift_27 : decode cX10_drift 27 = .ok (.iconst 2, 1) := by decide +kernel
theorem dX10_drift_28 : decode cX10_drift 28 = .ok (.iaload, 1) := by decide +kernel
theorem dX10_drift_29 : decode cX10_drift 29 = .ok (.ifCond .le 7, 3) := by decide +kernel
theorem dX10_drift_32 : decode cX10_drift 32 = .ok (.aload_n 0, 1) := by decide +kernel
theorem dX10_drift_33 : decode cX10_drift 33 = .ok (.invokevirtual 252, 3) := by decide +kernel
theorem dX10_drift_36 : decode cX10_drift 36 = .ok (.aload_n 0, 1) := by decide +kernel
theorem dX10_drift_37 : decode cX10_drift 37 = .ok (.aload_n 0, 1) := by decide +kernel
theorem dX10_drift_38 : decode cX10_drift 38 = .ok (.getfield 16, 3) := by decide +kernel
theorem dX10_drift_41 : decode cX10_drift 41 = .ok (.invokevirtual 228, 3) := by decide +kernel
theorem dX10_drift_44 : decode cX10_drift 44 = .ok (.iinc 3 1, 3) := by decide +kernel
theorem dX10_drift_47 : decode cX10_drift 47 = .ok (.goto (-29), 3) := by decide +kernel
theorem dX10_drift_50 : decode cX10_drift 50 = .ok (.aload_n 0, 1) := by decide +kernel
theorem dX10_drift_51 : decode cX10_drift 51 = .ok (.getfield 16, 3) := by decide +kernel
theorem dX10_drift_54 : decode cX10_drift 54 = .ok (.bipush 23, 2) := by decide +kernel
theorem dX10_drift_56 : decode cX10_drift 56 = .ok (.iaload, 1) := by decide +kernel
theorem dX10_drift_57 : decode cX10_drift 57 = .ok (.ireturn, 1) := by decide +kernel
theorem dX10_undo_0 : decode cX10_undo 0 = .ok (.aload_n 0, 1) := by decide +kernel
theorem dX10_undo_1 : decode cX10_undo 1 = .ok (.getfield 72, 3) := by decide +kernel
theorem dX10_undo_4 : decode cX10_undo 4 = .ok (.ifCond .ne 6, 3) := by decide +kernel
theorem dX10_undo_7 : decode cX10_undo 7 = .ok (.ldc 221, 2) := by decide +kernel
theorem dX10_undo_9 : decode cX10_undo 9 = .ok (.ireturn, 1) := by decide +kernel
theorem dX10_undo_10 : decode cX10_undo 10 = .ok (.aload_n 0, 1) := by decide +kernel
theorem dX10_undo_11 : decode cX10_undo 11 = .ok (.dup, 1) := by decide +kernel
theorem dX10_undo_12 : decode cX10_undo 12 = .ok (.getfield 72, 3) := by decide +kernel
theorem dX10_undo_15 : decode cX10_undo 15 = .ok (.iconst 1, 1) := by decide +kernel
theorem dX10_undo_16 : decode cX10_undo 16 = .ok (.isub, 1) := by decide +kernel
theorem dX10_undo_17 : decode cX10_undo 17 = .ok (.putfield 72, 3) := by decide +kernel
theorem dX10_undo_20 : decode cX10_undo 20 = .ok (.aload_n 0, 1) := by decide +kernel
theorem dX10_undo_21 : decode cX10_undo 21 = .ok (.getfield 22, 3) := by decide +kernel
theorem dX10_undo_24 : decode cX10_undo 24 = .ok (.bipush 24, 2) := by decide +kernel
theorem dX10_undo_26 : decode cX10_undo 26 = .ok (.aload_n 0, 1) := by decide +kernel
theorem dX10_undo_27 : decode cX10_undo 27 = .ok (.getfield 72, 3) := by decide +kernel
theorem dX10_undo_30 : decode cX10_undo 30 = .ok (.imul, 1) := by decide +kernel
theorem dX10_undo_31 : decode cX10_undo 31 = .ok (.aload_n 0, 1) := by decide +kernel
theorem dX10_undo_32 : decode cX10_undo 32 = .ok (.getfield 16, 3) := by decide +kernel
theorem dX10_undo_35 : decode cX10_undo 35 = .ok (.iconst 0, 1) := by decide +kernel
theorem dX10_undo_36 : decode cX10_undo 36 = .ok (.bipush 24, 2) := by decide +kernel
theorem dX10_undo_38 : decode cX10_undo 38 = .ok (.invokestatic 68, 3) := by decide +kernel
theorem dX10_undo_41 : decode cX10_undo 41 = .ok (.aload_n 0, 1) := by decide +kernel
theorem dX10_undo_42 : decode cX10_undo 42 = .ok (.getfield 72, 3) := by decide +kernel
theorem dX10_undo_45 : decode cX10_undo 45 = .ok (.ireturn, 1) := by decide +kernel
theorem dX10_layAside_0 : decode cX10_layAside 0 = .ok (.aload_n 0, 1) := by decide +kernel
theorem dX10_layAside_1 : decode cX10_layAside 1 = .ok (.getfield 16, 3) := by decide +kernel
theorem dX10_layAside_4 : decode cX10_layAside 4 = .ok (.iconst 0, 1) := by decide +kernel
theorem dX10_layAside_5 : decode cX10_layAside 5 = .ok (.aload_n 0, 1) := by decide +kernel
theorem dX10_layAside_6 : decode cX10_layAside 6 = .ok (.getfield 19, 3) := by decide +kernel
theorem dX10_layAside_9 : decode cX10_layAside 9 = .ok (.iconst 0, 1) := by decide +kernel
theorem dX10_layAside_10 : decode cX10_layAside 10 = .ok (.bipush 24, 2) := by decide +kernel
theorem dX10_layAside_12 : decode cX10_layAside 12 = .ok (.invokestatic 68, 3) := by decide +kernel
theorem dX10_layAside_15 : decode cX10_layAside 15 = .ok (.return_, 1) := by decide +kernel
theorem dX10_sea_0 : decode cX10_sea 0 = .ok (.aload_n 0, 1) := by decide +kernel
theorem dX10_sea_1 : decode cX10_sea 1 = .ok (.iload_n 1, 1) := by decide +kernel
theorem dX10_sea_2 : decode cX10_sea 2 = .ok (.invokevirtual 188, 3) := by decide +kernel
theorem dX10_sea_5 : decode cX10_sea 5 = .ok (.ifCond .ne 6, 3) := by decide +kernel
theorem dX10_sea_8 : decode cX10_sea 8 = .ok (.ldc 191, 2) := by decide +kernel
theorem dX10_sea_10 : decode cX10_sea 10 = .ok (.ireturn, 1) := by decide +kernel
theorem dX10_sea_11 : decode cX10_sea 11 = .ok (.iload_n 2, 1) := by decide +kernel
theorem dX10_sea_12 : decode cX10_sea 12 = .ok (.i2l, 1) := by decide +kernel
theorem dX10_sea_13 : decode cX10_sea 13 = .ok (.lconst 0, 1) := by decide +kernel
theorem dX10_sea_14 : decode cX10_sea 14 = .ok (.ldc2_w 255, 3) := by decide +kernel
theorem dX10_sea_17 : decode cX10_sea 17 = .ok (.invokestatic 64, 3) := by decide +kernel
theorem dX10_sea_20 : decode cX10_sea 20 = .ok (.ifCond .eq 13, 3) := by decide +kernel
theorem dX10_sea_23 : decode cX10_sea 23 = .ok (.iload_n 3, 1) := by decide +kernel
theorem dX10_sea_24 : decode cX10_sea 24 = .ok (.i2l, 1) := by decide +kernel
theorem dX10_sea_25 : decode cX10_sea 25 = .ok (.lconst 0, 1) := by decide +kernel
theorem dX10_sea_26 : decode cX10_sea 26 = .ok (.lconst 1, 1) := by decide +kernel
theorem dX10_sea_27 : decode cX10_sea 27 = .ok (.invokestatic 64, 3) := by decide +kernel
theorem dX10_sea_30 : decode cX10_sea 30 = .ok (.ifCond .ne 6, 3) := by decide +kernel
theorem dX10_sea_33 : decode cX10_sea 33 = .ok (.ldc 86, 2) := by decide +kernel
theorem dX10_sea_35 : decode cX10_sea 35 = .ok (.ireturn, 1) := by decide +kernel
theorem dX10_sea_36 : decode cX10_sea 36 = .ok (.aload_n 0, 1) := by decide +kernel
theorem dX10_sea_37 : decode cX10_sea 37 = .ok (.invokevirtual 257, 3) := by decide +kernel
theorem dX10_sea_40 : decode cX10_sea 40 = .ok (.iconst 0, 1) := by decide +kernel
theorem dX10_sea_41 : decode cX10_sea 41 = .ok (.istore 4, 2) := by decide +kernel
theorem dX10_sea_43 : decode cX10_sea 43 = .ok (.iload 4, 2) := by decide +kernel
theorem dX10_sea_45 : decode cX10_sea 45 = .ok (.iload_n 2, 1) := by decide +kernel
theorem dX10_sea_46 : decode cX10_sea 46 = .ok (.if_icmp .ge 17, 3) := by decide +kernel
theorem dX10_sea_49 : decode cX10_sea 49 = .ok (.aload_n 0, 1) := by decide +kernel
theorem dX10_sea_50 : decode cX10_sea 50 = .ok (.aload_n 0, 1) := by decide +kernel
theorem dX10_sea_51 : decode cX10_sea 51 = .ok (.getfield 19, 3) := by decide +kernel
theorem dX10_sea_54 : decode cX10_sea 54 = .ok (.invokevirtual 215, 3) := by decide +kernel
theorem dX10_sea_57 : decode cX10_sea 57 = .ok (.iinc 4 1, 3) := by decide +kernel
theorem dX10_sea_60 : decode cX10_sea 60 = .ok (.goto (-17), 3) := by decide +kernel
theorem dX10_sea_63 : decode cX10_sea 63 = .ok (.iload_n 3, 1) := by decide +kernel
theorem dX10_sea_64 : decode cX10_sea 64 = .ok (.ifCond .ne 15, 3) := by decide +kernel
theorem dX10_sea_67 : decode cX10_sea 67 = .ok (.aload_n 0, 1) := by decide +kernel
theorem dX10_sea_68 : decode cX10_sea 68 = .ok (.aload_n 0, 1) := by decide +kernel
theorem dX10_sea_69 : decode cX10_sea 69 = .ok (.getfield 19, 3) := by decide +kernel
theorem dX10_sea_72 : decode cX10_sea 72 = .ok (.iload_n 1, 1) := by decide +kernel
theorem dX10_sea_73 : decode cX10_sea 73 = .ok (.invokevirtual 155, 3) := by decide +kernel
theorem dX10_sea_76 : decode cX10_sea 76 = .ok (.goto 12, 3) := by decide +kernel
theorem dX10_sea_79 : decode cX10_sea 79 = .ok (.aload_n 0, 1) := by decide +kernel
theorem dX10_sea_80 : decode cX10_sea 80 = .ok (.aload_n 0, 1) := by decide +kernel
theorem dX10_sea_81 : decode cX10_sea 81 = .ok (.getfield 19, 3) := by decide +kernel
theorem dX10_sea_84 : decode cX10_sea 84 = .ok (.iload_n 1, 1) := by decide +kernel
theorem dX10_sea_85 : decode cX10_sea 85 = .ok (.invokevirtual 166, 3) := by decide +kernel
theorem dX10_sea_88 : decode cX10_sea 88 = .ok (.ireturn, 1) := by decide +kernel
theorem dX10_deepest_0 : decode cX10_deepest 0 = .ok (.aload_n 0, 1) := by decide +kernel
theorem dX10_deepest_1 : decode cX10_deepest 1 = .ok (.iload_n 1, 1) := by decide +kernel
theorem dX10_deepest_2 : decode cX10_deepest 2 = .ok (.invokevirtual 188, 3) := by decide +kernel
theorem dX10_deepest_5 : decode cX10_deepest 5 = .ok (.ifCond .ne 6, 3) := by decide +kernel
theorem dX10_deepest_8 : decode cX10_deepest 8 = .ok (.ldc 191, 2) := by decide +kernel
theorem dX10_deepest_10 : decode cX10_deepest 10 = .ok (.ireturn, 1) := by decide +kernel
theorem dX10_deepest_11 : decode cX10_deepest 11 = .ok (.iload_n 2, 1) := by decide +kernel
theorem dX10_deepest_12 : decode cX10_deepest 12 = .ok (.i2l, 1) := by decide +kernel
theorem dX10_deepest_13 : decode cX10_deepest 13 = .ok (.lconst 0, 1) := by decide +kernel
theorem dX10_deepest_14 : decode cX10_deepest 14 = .ok (.ldc2_w 255, 3) := by decide +kernel
theorem dX10_deepest_17 : decode cX10_deepest 17 = .ok (.invokestatic 64, 3) := by decide +kernel
theorem dX10_deepest_20 : decode cX10_deepest 20 = .ok (.ifCond .eq 13, 3) := by decide +kernel
theorem dX10_deepest_23 : decode cX10_deepest 23 = .ok (.iload_n 3, 1) := by decide +kernel
theorem dX10_deepest_24 : decode cX10_deepest 24 = .ok (.i2l, 1) := by decide +kernel
theorem dX10_deepest_25 : decode cX10_deepest 25 = .ok (.lconst 0, 1) := by decide +kernel
theorem dX10_deepest_26 : decode cX10_deepest 26 = .ok (.lconst 1, 1) := by decide +kernel
theorem dX10_deepest_27 : decode cX10_deepest 27 = .ok (.invokestatic 64, 3) := by decide +kernel
theorem dX10_deepest_30 : decode cX10_deepest 30 = .ok (.ifCond .ne 6, 3) := by decide +kernel
theorem dX10_deepest_33 : decode cX10_deepest 33 = .ok (.ldc 86, 2) := by decide +kernel
theorem dX10_deepest_35 : decode cX10_deepest 35 = .ok (.ireturn, 1) := by decide +kernel
theorem dX10_deepest_36 : decode cX10_deepest 36 = .ok (.aload_n 0, 1) := by decide +kernel
theorem dX10_deepest_37 : decode cX10_deepest 37 = .ok (.invokevirtual 257, 3) := by decide +kernel
theorem dX10_deepest_40 : decode cX10_deepest 40 = .ok (.iconst (-1), 1) := by decide +kernel
theorem dX10_deepest_41 : decode cX10_deepest 41 = .ok (.istore 4, 2) := by decide +kernel
theorem dX10_deepest_43 : decode cX10_deepest 43 = .ok (.iconst 0, 1) := by decide +kernel
theorem dX10_deepest_44 : decode cX10_deepest 44 = .ok (.istore 5, 2) := by decide +kernel
theorem dX10_deepest_46 : decode cX10_deepest 46 = .ok (.iconst 0, 1) := by decide +kernel
theorem dX10_deepest_47 : decode cX10_deepest 47 = .ok (.istore 6, 2) := by decide +kernel
theorem dX10_deepest_49 : decode cX10_deepest 49 = .ok (.iload 6, 2) := by decide +kernel
theorem dX10_deepest_51 : decode cX10_deepest 51 = .ok (.iload_n 2, 1) := by decide +kernel
theorem dX10_deepest_52 : decode cX10_deepest 52 = .ok (.if_icmp .gt 53, 3) := by decide +kernel
theorem dX10_deepest_55 : decode cX10_deepest 55 = .ok (.aload_n 0, 1) := by decide +kernel
theorem dX10_deepest_56 : decode cX10_deepest 56 = .ok (.aload_n 0, 1) := by decide +kernel
theorem dX10_deepest_57 : decode cX10_deepest 57 = .ok (.getfield 19, 3) := by decide +kernel
theorem dX10_deepest_60 : decode cX10_deepest 60 = .ok (.iload_n 1, 1) := by decide +kernel
theorem dX10_deepest_61 : decode cX10_deepest 61 = .ok (.invokevirtual 166, 3) := by decide +kernel
theorem dX10_deepest_64 : decode cX10_deepest 64 = .ok (.istore 7, 2) := by decide +kernel
theorem dX10_deepest_66 : decode cX10_deepest 66 = .ok (.iload 7, 2) := by decide +kernel
theorem dX10_deepest_68 : decode cX10_deepest 68 = .ok (.iload 4, 2) := by decide +kernel
theorem dX10_deepest_70 : decode cX10_deepest 70 = .ok (.if_icmp .le 8, 3) := by decide +kernel
theorem dX10_deepest_73 : decode cX10_deepest 73 = .ok (.iload 6, 2) := by decide +kernel
theorem dX10_deepest_75 : decode cX10_deepest 75 = .ok (.goto 5, 3) := by decide +kernel
theorem dX10_deepest_78 : decode cX10_deepest 78 = .ok (.iload 5, 2) := by decide +kernel
theorem dX10_deepest_80 : decode cX10_deepest 80 = .ok (.istore 5, 2) := by decide +kernel
theorem dX10_deepest_82 : decode cX10_deepest 82 = .ok (.iload 4, 2) := by decide +kernel
theorem dX10_deepest_84 : decode cX10_deepest 84 = .ok (.iload 7, 2) := by decide +kernel
theorem dX10_deepest_86 : decode cX10_deepest 86 = .ok (.invokestatic 147, 3) := by decide +kernel
theorem dX10_deepest_89 : decode cX10_deepest 89 = .ok (.istore 4, 2) := by decide +kernel
theorem dX10_deepest_91 : decode cX10_deepest 91 = .ok (.aload_n 0, 1) := by decide +kernel
theorem dX10_deepest_92 : decode cX10_deepest 92 = .ok (.aload_n 0, 1) := by decide +kernel
theorem dX10_deepest_93 : decode cX10_deepest 93 = .ok (.getfield 19, 3) := by decide +kernel
theorem dX10_deepest_96 : decode cX10_deepest 96 = .ok (.invokevirtual 215, 3) := by decide +kernel
theorem dX10_deepest_99 : decode cX10_deepest 99 = .ok (.iinc 6 1, 3) := by decide +kernel
theorem dX10_deepest_102 : decode cX10_deepest 102 = .ok (.goto (-53), 3) := by decide +kernel
theorem dX10_deepest_105 : decode cX10_deepest 105 = .ok (.iload_n 3, 1) := by decide +kernel
theorem dX10_deepest_106 : decode cX10_deepest 106 = .ok (.ifCond .ne 8, 3) := by decide +kernel
theorem dX10_deepest_109 : decode cX10_deepest 109 = .ok (.iload 5, 2) := by decide +kernel
theorem dX10_deepest_111 : decode cX10_deepest 111 = .ok (.goto 5, 3) := by decide +kernel
theorem dX10_deepest_114 : decode cX10_deepest 114 = .ok (.iload 4, 2) := by decide +kernel
theorem dX10_deepest_116 : decode cX10_deepest 116 = .ok (.ireturn, 1) := by decide +kernel
theorem dX10_comes_0 : decode cX10_comes 0 = .ok (.aload_n 0, 1) := by decide +kernel
theorem dX10_comes_1 : decode cX10_comes 1 = .ok (.iload_n 1, 1) := by decide +kernel
theorem dX10_comes_2 : decode cX10_comes 2 = .ok (.invokevirtual 205, 3) := by decide +kernel
theorem dX10_comes_5 : decode cX10_comes 5 = .ok (.ifCond .ne 6, 3) := by decide +kernel
theorem dX10_comes_8 : decode cX10_comes 8 = .ok (.ldc 191, 2) := by decide +kernel
theorem dX10_comes_10 : decode cX10_comes 10 = .ok (.ireturn, 1) := by decide +kernel
theorem dX10_comes_11 : decode cX10_comes 11 = .ok (.aload_n 0, 1) := by decide +kernel
theorem dX10_comes_12 : decode cX10_comes 12 = .ok (.invokevirtual 257, 3) := by decide +kernel
theorem dX10_comes_15 : decode cX10_comes 15 = .ok (.iconst 0, 1) := by decide +kernel
theorem dX10_comes_16 : decode cX10_comes 16 = .ok (.istore_n 2, 1) := by decide +kernel
theorem dX10_comes_17 : decode cX10_comes 17 = .ok (.iload_n 2, 1) := by decide +kernel
theorem dX10_comes_18 : decode cX10_comes 18 = .ok (.sipush 201, 3) := by decide +kernel
theorem dX10_comes_21 : decode cX10_comes 21 = .ok (.if_icmp .ge 40, 3) := by decide +kernel
theorem dX10_comes_24 : decode cX10_comes 24 = .ok (.aload_n 0, 1) := by decide +kernel
theorem dX10_comes_25 : decode cX10_comes 25 = .ok (.getfield 19, 3) := by decide +kernel
theorem dX10_comes_28 : decode cX10_comes 28 = .ok (.bipush 19, 2) := by decide +kernel
theorem dX10_comes_30 : decode cX10_comes 30 = .ok (.iload_n 1, 1) := by decide +kernel
theorem dX10_comes_31 : decode cX10_comes 31 = .ok (.iadd, 1) := by decide +kernel
theorem dX10_comes_32 : decode cX10_comes 32 = .ok (.iaload, 1) := by decide +kernel
theorem dX10_comes_33 : decode cX10_comes 33 = .ok (.aload_n 0, 1) := by decide +kernel
theorem dX10_comes_34 : decode cX10_comes 34 = .ok (.getfield 7, 3) := by decide +kernel
theorem dX10_comes_37 : decode cX10_comes 37 = .ok (.bipush 40, 2) := by decide +kernel
theorem dX10_comes_39 : decode cX10_comes 39 = .ok (.iload_n 1, 1) := by decide +kernel
theorem dX10_comes_40 : decode cX10_comes 40 = .ok (.iadd, 1) := by decide +kernel
theorem dX10_comes_41 : decode cX10_comes 41 = .ok (.iaload, 1) := by decide +kernel
theorem dX10_comes_42 : decode cX10_comes 42 = .ok (.if_icmp .ne 5, 3) := by decide +kernel
theorem dX10_comes_45 : decode cX10_comes 45 = .ok (.iload_n 2, 1) := by decide +kernel
theorem dX10_comes_46 : decode cX10_comes 46 = .ok (.ireturn, 1) := by decide +kernel
theorem dX10_comes_47 : decode cX10_comes 47 = .ok (.aload_n 0, 1) := by decide +kernel
theorem dX10_comes_48 : decode cX10_comes 48 = .ok (.aload_n 0, 1) := by decide +kernel
theorem dX10_comes_49 : decode cX10_comes 49 = .ok (.getfield 19, 3) := by decide +kernel
theorem dX10_comes_52 : decode cX10_comes 52 = .ok (.invokevirtual 228, 3) := by decide +kernel
theorem dX10_comes_55 : decode cX10_comes 55 = .ok (.iinc 2 1, 3) := by decide +kernel
theorem dX10_comes_58 : decode cX10_comes 58 = .ok (.goto (-41), 3) := by decide +kernel
theorem dX10_comes_61 : decode cX10_comes 61 = .ok (.iconst (-1), 1) := by decide +kernel
theorem dX10_comes_62 : decode cX10_comes 62 = .ok (.ireturn, 1) := by decide +kernel
theorem dX10_weighs_0 : decode cX10_weighs 0 = .ok (.iconst 0, 1) := by decide +kernel
theorem dX10_weighs_1 : decode cX10_weighs 1 = .ok (.istore 4, 2) := by decide +kernel
theorem dX10_weighs_3 : decode cX10_weighs 3 = .ok (.iconst 0, 1) := by decide +kernel
theorem dX10_weighs_4 : decode cX10_weighs 4 = .ok (.istore 5, 2) := by decide +kernel
theorem dX10_weighs_6 : decode cX10_weighs 6 = .ok (.aload_n 0, 1) := by decide +kernel
theorem dX10_weighs_7 : decode cX10_weighs 7 = .ok (.invokevirtual 257, 3) := by decide +kernel
theorem dX10_weighs_10 : decode cX10_weighs 10 = .ok (.iconst 0, 1) := by decide +kernel
theorem dX10_weighs_11 : decode cX10_weighs 11 = .ok (.istore 6, 2) := by decide +kernel
theorem dX10_weighs_13 : decode cX10_weighs 13 = .ok (.iload 6, 2) := by decide +kernel
theorem dX10_weighs_15 : decode cX10_weighs 15 = .ok (.aload_n 0, 1) := by decide +kernel
theorem dX10_weighs_16 : decode cX10_weighs 16 = .ok (.getfield 7, 3) := by decide +kernel
theorem dX10_weighs_19 : decode cX10_weighs 19 = .ok (.iconst 2, 1) := by decide +kernel
theorem dX10_weighs_20 : decode cX10_weighs 20 = .ok (.iaload, 1) := by decide +kernel
theorem dX10_weighs_21 : decode cX10_weighs 21 = .ok (.if_icmp .ge 97, 3) := by decide +kernel
theorem dX10_weighs_24 : decode cX10_weighs 24 = .ok (.aload_n 0, 1) := by decide +kernel
theorem dX10_weighs_25 : decode cX10_weighs 25 = .ok (.getfield 48, 3) := by decide +kernel
theorem dX10_weighs_28 : decode cX10_weighs 28 = .ok (.iload 6, 2) := by decide +kernel
theorem dX10_weighs_30 : decode cX10_weighs 30 = .ok (.iaload, 1) := by decide +kernel
theorem dX10_weighs_31 : decode cX10_weighs 31 = .ok (.aload_n 0, 1) := by decide +kernel
theorem dX10_weighs_32 : decode cX10_weighs 32 = .ok (.getfield 7, 3) := by decide +kernel
theorem dX10_weighs_35 : decode cX10_weighs 35 = .ok (.iconst 1, 1) := by decide +kernel
theorem dX10_weighs_36 : decode cX10_weighs 36 = .ok (.iaload, 1) := by decide +kernel
theorem dX10_weighs_37 : decode cX10_weighs 37 = .ok (.if_icmp .ge 7, 3) := by decide +kernel
theorem dX10_weighs_40 : decode cX10_weighs 40 = .ok (.iconst 1, 1) := by decide +kernel
theorem dX10_weighs_41 : decode cX10_weighs 41 = .ok (.goto 4, 3) := by decide +kernel
theorem dX10_weighs_44 : decode cX10_weighs 44 = .ok (.iconst 0, 1) := by decide +kernel
theorem dX10_weighs_45 : decode cX10_weighs 45 = .ok (.istore 7, 2) := by decide +kernel
theorem dX10_weighs_47 : decode cX10_weighs 47 = .ok (.iload 4, 2) := by decide +kernel
theorem dX10_weighs_49 : decode cX10_weighs 49 = .ok (.iload 7, 2) := by decide +kernel
theorem dX10_weighs_51 : decode cX10_weighs 51 = .ok (.ifCond .eq 7, 3) := by decide +kernel
theorem dX10_weighs_54 : decode cX10_weighs 54 = .ok (.iconst 1, 1) := by decide +kernel
theorem dX10_weighs_55 : decode cX10_weighs 55 = .ok (.goto 4, 3) := by decide +kernel
theorem dX10_weighs_58 : decode cX10_weighs 58 = .ok (.iconst 0, 1) := by decide +kernel
theorem dX10_weighs_59 : decode cX10_weighs 59 = .ok (.iadd, 1) := by decide +kernel
theorem dX10_weighs_60 : decode cX10_weighs 60 = .ok (.istore 4, 2) := by decide +kernel
theorem dX10_weighs_62 : decode cX10_weighs 62 = .ok (.iload 5, 2) := by decide +kernel
theorem dX10_weighs_64 : decode cX10_weighs 64 = .ok (.iload 7, 2) := by decide +kernel
theorem dX10_weighs_66 : decode cX10_weighs 66 = .ok (.ifCond .eq 16, 3) := by decide +kernel
theorem dX10_weighs_69 : decode cX10_weighs 69 = .ok (.aload_n 0, 1) := by decide +kernel
theorem dX10_weighs_70 : decode cX10_weighs 70 = .ok (.getfield 7, 3) := by decide +kernel
theorem dX10_weighs_73 : decode cX10_weighs 73 = .ok (.bipush 26, 2) := by decide +kernel
theorem dX10_weighs_75 : decode cX10_weighs 75 = .ok (.iload 6, 2) := by decide +kernel
theorem dX10_weighs_77 : decode cX10_weighs 77 = .ok (.iadd, 1) := by decide +kernel
theorem dX10_weighs_78 : decode cX10_weighs 78 = .ok (.iaload, 1) := by decide +kernel
theorem dX10_weighs_79 : decode cX10_weighs 79 = .ok (.goto 4, 3) := by decide +kernel
theorem dX10_weighs_82 : decode cX10_weighs 82 = .ok (.iconst 0, 1) := by decide +kernel
theorem dX10_weighs_83 : decode cX10_weighs 83 = .ok (.iadd, 1) := by decide +kernel
theorem dX10_weighs_84 : decode cX10_weighs 84 = .ok (.istore 5, 2) := by decide +kernel
theorem dX10_weighs_86 : decode cX10_weighs 86 = .ok (.aload_n 0, 1) := by decide +kernel
theorem dX10_weighs_87 : decode cX10_weighs 87 = .ok (.getfield 19, 3) := by decide +kernel
theorem dX10_weighs_90 : decode cX10_weighs 90 = .ok (.bipush 12, 2) := by decide +kernel
theorem dX10_weighs_92 : decode cX10_weighs 92 = .ok (.iload 6, 2) := by decide +kernel
theorem dX10_weighs_94 : decode cX10_weighs 94 = .ok (.iadd, 1) := by decide +kernel
theorem dX10_weighs_95 : decode cX10_weighs 95 = .ok (.iload 7, 2) := by decide +kernel
theorem dX10_weighs_97 : decode cX10_weighs 97 = .ok (.ifCond .eq 13, 3) := by decide +kernel
theorem dX10_weighs_100 : decode cX10_weighs 100 = .ok (.aload_n 0, 1) := by decide +kernel
theorem dX10_weighs_101 : decode cX10_weighs 101 = .ok (.getfield 48, 3) := by decide +kernel
theorem dX10_weighs_104 : decode cX10_weighs 104 = .ok (.iload 6, 2) := by decide +kernel
theorem dX10_weighs_106 : decode cX10_weighs 106 = .ok (.iaload, 1) := by decide +kernel
theorem dX10_weighs_107 : decode cX10_weighs 107 = .ok (.goto 4, 3) := by decide +kernel
theorem dX10_weighs_110 : decode cX10_weighs 110 = .ok (.iconst (-1), 1) := by decide +kernel
theorem dX10_weighs_111 : decode cX10_weighs 111 = .ok (.iastore, 1) := by decide +kernel
theorem dX10_weighs_112 : decode cX10_weighs 112 = .ok (.iinc 6 1, 3) := by decide +kernel
theorem dX10_weighs_115 : decode cX10_weighs 115 = .ok (.goto (-102), 3) := by decide +kernel
theorem dX10_weighs_118 : decode cX10_weighs 118 = .ok (.iload 4, 2) := by decide +kernel
theorem dX10_weighs_120 : decode cX10_weighs 120 = .ok (.aload_n 0, 1) := by decide +kernel
theorem dX10_weighs_121 : decode cX10_weighs 121 = .ok (.getfield 260, 3) := by decide +kernel
theorem dX10_weighs_124 : decode cX10_weighs 124 = .ok (.if_icmp .gt 21, 3) := by decide +kernel
theorem dX10_weighs_127 : decode cX10_weighs 127 = .ok (.iload 4, 2) := by decide +kernel
theorem dX10_weighs_129 : decode cX10_weighs 129 = .ok (.aload_n 0, 1) := by decide +kernel
theorem dX10_weighs_130 : decode cX10_weighs 130 = .ok (.getfield 260, 3) := by decide +kernel
theorem dX10_weighs_133 : decode cX10_weighs 133 = .ok (.if_icmp .ne 13, 3) := by decide +kernel
theorem dX10_weighs_136 : decode cX10_weighs 136 = .ok (.iload 5, 2) := by decide +kernel
theorem dX10_weighs_138 : decode cX10_weighs 138 = .ok (.aload_n 0, 1) := by decide +kernel
theorem dX10_weighs_139 : decode cX10_weighs 139 = .ok (.getfield 263, 3) := by decide +kernel
theorem dX10_weighs_142 : decode cX10_weighs 142 = .ok (.if_icmp .lt 4, 3) := by decide +kernel
theorem dX10_weighs_145 : decode cX10_weighs 145 = .ok (.return_, 1) := by decide +kernel
theorem dX10_weighs_146 : decode cX10_weighs 146 = .ok (.iconst 0, 1) := by decide +kernel
theorem dX10_weighs_147 : decode cX10_weighs 147 = .ok (.istore 6, 2) := by decide +kernel
theorem dX10_weighs_149 : decode cX10_weighs 149 = .ok (.iload 6, 2) := by decide +kernel
theorem dX10_weighs_151 : decode cX10_weighs 151 = .ok (.iload_n 3, 1) := by decide +kernel
theorem dX10_weighs_152 : decode cX10_weighs 152 = .ok (.if_icmp .ge 17, 3) := by decide +kernel
theorem dX10_weighs_155 : decode cX10_weighs 155 = .ok (.aload_n 0, 1) := by decide +kernel
theorem dX10_weighs_156 : decode cX10_weighs 156 = .ok (.aload_n 0, 1) := by decide +kernel
theorem dX10_weighs_157 : decode cX10_weighs 157 = .ok (.getfield 19, 3) := by decide +kernel
theorem dX10_weighs_160 : decode cX10_weighs 160 = .ok (.invokevirtual 215, 3) := by decide +kernel
theorem dX10_weighs_163 : decode cX10_weighs 163 = .ok (.iinc 6 1, 3) := by decide +kernel
theorem dX10_weighs_166 : decode cX10_weighs 166 = .ok (.goto (-17), 3) := by decide +kernel
theorem dX10_weighs_169 : decode cX10_weighs 169 = .ok (.aload_n 0, 1) := by decide +kernel
theorem dX10_weighs_170 : decode cX10_weighs 170 = .ok (.aload_n 0, 1) := by decide +kernel
theorem dX10_weighs_171 : decode cX10_weighs 171 = .ok (.getfield 19, 3) := by decide +kernel
theorem dX10_weighs_174 : decode cX10_weighs 174 = .ok (.iload_n 1, 1) := by decide +kernel
theorem dX10_weighs_175 : decode cX10_weighs 175 = .ok (.invokevirtual 166, 3) := by decide +kernel
theorem dX10_weighs_178 : decode cX10_weighs 178 = .ok (.iload_n 2, 1) := by decide +kernel
theorem dX10_weighs_179 : decode cX10_weighs 179 = .ok (.if_icmp .lt 30, 3) := by decide +kernel
theorem dX10_weighs_182 : decode cX10_weighs 182 = .ok (.aload_n 0, 1) := by decide +kernel
theorem dX10_weighs_183 : decode cX10_weighs 183 = .ok (.iload 4, 2) := by decide +kernel
theorem dX10_weighs_185 : decode cX10_weighs 185 = .ok (.putfield 260, 3) := by decide +kernel
theorem dX10_weighs_188 : decode cX10_weighs 188 = .ok (.aload_n 0, 1) := by decide +kernel
theorem dX10_weighs_189 : decode cX10_weighs 189 = .ok (.iload 5, 2) := by decide +kernel
theorem dX10_weighs_191 : decode cX10_weighs 191 = .ok (.putfield 263, 3) := by decide +kernel
theorem dX10_weighs_194 : decode cX10_weighs 194 = .ok (.aload_n 0, 1) := by decide +kernel
theorem dX10_weighs_195 : decode cX10_weighs 195 = .ok (.getfield 48, 3) := by decide +kernel
theorem dX10_weighs_198 : decode cX10_weighs 198 = .ok (.iconst 0, 1) := by decide +kernel
theorem dX10_weighs_199 : decode cX10_weighs 199 = .ok (.aload_n 0, 1) := by decide +kernel
theorem dX10_weighs_200 : decode cX10_weighs 200 = .ok (.getfield 51, 3) := by decide +kernel
theorem dX10_weighs_203 : decode cX10_weighs 203 = .ok (.iconst 0, 1) := by decide +kernel
theorem dX10_weighs_204 : decode cX10_weighs 204 = .ok (.bipush 6, 2) := by decide +kernel
theorem dX10_weighs_206 : decode cX10_weighs 206 = .ok (.invokestatic 68, 3) := by decide +kernel
theorem dX10_weighs_209 : decode cX10_weighs 209 = .ok (.return_, 1) := by decide +kernel
theorem dX10_mayBe_0 : decode cX10_mayBe 0 = .ok (.iconst 1, 1) := by decide +kernel
theorem dX10_mayBe_1 : decode cX10_mayBe 1 = .ok (.istore_n 2, 1) := by decide +kernel
theorem dX10_mayBe_2 : decode cX10_mayBe 2 = .ok (.iconst 0, 1) := by decide +kernel
theorem dX10_mayBe_3 : decode cX10_mayBe 3 = .ok (.istore_n 3, 1) := by decide +kernel
theorem dX10_mayBe_4 : decode cX10_mayBe 4 = .ok (.iload_n 3, 1) := by decide +kernel
theorem dX10_mayBe_5 : decode cX10_mayBe 5 = .ok (.iload_n 1, 1) := by decide +kernel
theorem dX10_mayBe_6 : decode cX10_mayBe 6 = .ok (.if_icmp .ge 49, 3) := by decide +kernel
theorem dX10_mayBe_9 : decode cX10_mayBe 9 = .ok (.iload_n 2, 1) := by decide +kernel
theorem dX10_mayBe_10 : decode cX10_mayBe 10 = .ok (.ifCond .eq 37, 3) := by decide +kernel
theorem dX10_mayBe_13 : decode cX10_mayBe 13 = .ok (.aload_n 0, 1) := by decide +kernel
theorem dX10_mayBe_14 : decode cX10_mayBe 14 = .ok (.getfield 48, 3) := by decide +kernel
theorem dX10_mayBe_17 : decode cX10_mayBe 17 = .ok (.iload_n 1, 1) := by decide +kernel
theorem dX10_mayBe_18 : decode cX10_mayBe 18 = .ok (.iaload, 1) := by decide +kernel
theorem dX10_mayBe_19 : decode cX10_mayBe 19 = .ok (.aload_n 0, 1) := by decide +kernel
theorem dX10_mayBe_20 : decode cX10_mayBe 20 = .ok (.getfield 7, 3) := by decide +kernel
theorem dX10_mayBe_23 : decode cX10_mayBe 23 = .ok (.iconst 1, 1) := by decide +kernel
theorem dX10_mayBe_24 : decode cX10_mayBe 24 = .ok (.iaload, 1) := by decide +kernel
theorem dX10_mayBe_25 : decode cX10_mayBe 25 = .ok (.if_icmp .eq 18, 3) := by decide +kernel
theorem dX10_mayBe_28 : decode cX10_mayBe 28 = .ok (.aload_n 0, 1) := by decide +kernel
theorem dX10_mayBe_29 : decode cX10_mayBe 29 = .ok (.getfield 48, 3) := by decide +kernel
theorem dX10_mayBe_32 : decode cX10_mayBe 32 = .ok (.iload_n 3, 1) := by decide +kernel
theorem dX10_mayBe_33 : decode cX10_mayBe 33 = .ok (.iaload, 1) := by decide +kernel
theorem dX10_mayBe_34 : decode cX10_mayBe 34 = .ok (.aload_n 0, 1) := by decide +kernel
theorem dX10_mayBe_35 : decode cX10_mayBe 35 = .ok (.getfield 48, 3) := by decide +kernel
theorem dX10_mayBe_38 : decode cX10_mayBe 38 = .ok (.iload_n 1, 1) := by decide +kernel
theorem dX10_mayBe_39 : decode cX10_mayBe 39 = .ok (.iaload, 1) := by decide +kernel
theorem dX10_mayBe_40 : decode cX10_mayBe 40 = .ok (.if_icmp .eq 7, 3) := by decide +kernel
theorem dX10_mayBe_43 : decode cX10_mayBe 43 = .ok (.iconst 1, 1) := by decide +kernel
theorem dX10_mayBe_44 : decode cX10_mayBe 44 = .ok (.goto 4, 3) := by decide +kernel
theorem dX10_mayBe_47 : decode cX10_mayBe 47 = .ok (.iconst 0, 1) := by decide +kernel
theorem dX10_mayBe_48 : decode cX10_mayBe 48 = .ok (.istore_n 2, 1) := by decide +kernel
theorem dX10_mayBe_49 : decode cX10_mayBe 49 = .ok (.iinc 3 1, 3) := by decide +kernel
theorem dX10_mayBe_52 : decode cX10_mayBe 52 = .ok (.goto (-48), 3) := by decide +kernel
theorem dX10_mayBe_55 : decode cX10_mayBe 55 = .ok (.iload_n 2, 1) := by decide +kernel
theorem dX10_mayBe_56 : decode cX10_mayBe 56 = .ok (.ireturn, 1) := by decide +kernel
theorem dX10_goesOn_0 : decode cX10_goesOn 0 = .ok (.aload_n 0, 1) := by decide +kernel
theorem dX10_goesOn_1 : decode cX10_goesOn 1 = .ok (.getfield 48, 3) := by decide +kernel
theorem dX10_goesOn_4 : decode cX10_goesOn 4 = .ok (.iload_n 1, 1) := by decide +kernel
theorem dX10_goesOn_5 : decode cX10_goesOn 5 = .ok (.dup2, 1) := by decide +kernel
theorem dX10_goesOn_6 : decode cX10_goesOn 6 = .ok (.iaload, 1) := by decide +kernel
theorem dX10_goesOn_7 : decode cX10_goesOn 7 = .ok (.iconst 1, 1) := by decide +kernel
theorem dX10_goesOn_8 : decode cX10_goesOn 8 = .ok (.iadd, 1) := by decide +kernel
theorem dX10_goesOn_9 : decode cX10_goesOn 9 = .ok (.iastore, 1) := by decide +kernel
theorem dX10_goesOn_10 : decode cX10_goesOn 10 = .ok (.aload_n 0, 1) := by decide +kernel
theorem dX10_goesOn_11 : decode cX10_goesOn 11 = .ok (.getfield 48, 3) := by decide +kernel
theorem dX10_goesOn_14 : decode cX10_goesOn 14 = .ok (.iload_n 1, 1) := by decide +kernel
theorem dX10_goesOn_15 : decode cX10_goesOn 15 = .ok (.iaload, 1) := by decide +kernel
theorem dX10_goesOn_16 : decode cX10_goesOn 16 = .ok (.aload_n 0, 1) := by decide +kernel
theorem dX10_goesOn_17 : decode cX10_goesOn 17 = .ok (.getfield 7, 3) := by decide +kernel
theorem dX10_goesOn_20 : decode cX10_goesOn 20 = .ok (.iconst 1, 1) := by decide +kernel
theorem dX10_goesOn_21 : decode cX10_goesOn 21 = .ok (.iaload, 1) := by decide +kernel
theorem dX10_goesOn_22 : decode cX10_goesOn 22 = .ok (.if_icmp .gt 24, 3) := by decide +kernel
theorem dX10_goesOn_25 : decode cX10_goesOn 25 = .ok (.aload_n 0, 1) := by decide +kernel
theorem dX10_goesOn_26 : decode cX10_goesOn 26 = .ok (.iload_n 1, 1) := by decide +kernel
theorem dX10_goesOn_27 : decode cX10_goesOn 27 = .ok (.invokevirtual 266, 3) := by decide +kernel
theorem dX10_goesOn_30 : decode cX10_goesOn 30 = .ok (.ifCond .ne 16, 3) := by decide +kernel
theorem dX10_goesOn_33 : decode cX10_goesOn 33 = .ok (.aload_n 0, 1) := by decide +kernel
theorem dX10_goesOn_34 : decode cX10_goesOn 34 = .ok (.getfield 48, 3) := by decide +kernel
theorem dX10_goesOn_37 : decode cX10_goesOn 37 = .ok (.iload_n 1, 1) := by decide +kernel
theorem dX10_goesOn_38 : decode cX10_goesOn 38 = .ok (.dup2, 1) := by decide +kernel
theorem dX10_goesOn_39 : decode cX10_goesOn 39 = .ok (.iaload, 1) := by decide +kernel
theorem dX10_goesOn_40 : decode cX10_goesOn 40 = .ok (.iconst 1, 1) := by decide +kernel
theorem dX10_goesOn_41 : decode cX10_goesOn 41 = .ok (.iadd, 1) := by decide +kernel
theorem dX10_goesOn_42 : decode cX10_goesOn 42 = .ok (.iastore, 1) := by decide +kernel
theorem dX10_goesOn_43 : decode cX10_goesOn 43 = .ok (.goto (-33), 3) := by decide +kernel
theorem dX10_goesOn_46 : decode cX10_goesOn 46 = .ok (.aload_n 0, 1) := by decide +kernel
theorem dX10_goesOn_47 : decode cX10_goesOn 47 = .ok (.getfield 48, 3) := by decide +kernel
theorem dX10_goesOn_50 : decode cX10_goesOn 50 = .ok (.iload_n 1, 1) := by decide +kernel
theorem dX10_goesOn_51 : decode cX10_goesOn 51 = .ok (.iaload, 1) := by decide +kernel
theorem dX10_goesOn_52 : decode cX10_goesOn 52 = .ok (.aload_n 0, 1) := by decide +kernel
theorem dX10_goesOn_53 : decode cX10_goesOn 53 = .ok (.getfield 7, 3) := by decide +kernel
theorem dX10_goesOn_56 : decode cX10_goesOn 56 = .ok (.iconst 1, 1) := by decide +kernel
theorem dX10_goesOn_57 : decode cX10_goesOn 57 = .ok (.iaload, 1) := by decide +kernel
theorem dX10_goesOn_58 : decode cX10_goesOn 58 = .ok (.if_icmp .le 7, 3) := by decide +kernel
theorem dX10_goesOn_61 : decode cX10_goesOn 61 = .ok (.iload_n 1, 1) := by decide +kernel
theorem dX10_goesOn_62 : decode cX10_goesOn 62 = .ok (.iconst 1, 1) := by decide +kernel
theorem dX10_goesOn_63 : decode cX10_goesOn 63 = .ok (.isub, 1) := by decide +kernel
theorem dX10_goesOn_64 : decode cX10_goesOn 64 = .ok (.ireturn, 1) := by decide +kernel
theorem dX10_goesOn_65 : decode cX10_goesOn 65 = .ok (.iload_n 1, 1) := by decide +kernel
theorem dX10_goesOn_66 : decode cX10_goesOn 66 = .ok (.iconst 5, 1) := by decide +kernel
theorem dX10_goesOn_67 : decode cX10_goesOn 67 = .ok (.if_icmp .ge 12, 3) := by decide +kernel
theorem dX10_goesOn_70 : decode cX10_goesOn 70 = .ok (.aload_n 0, 1) := by decide +kernel
theorem dX10_goesOn_71 : decode cX10_goesOn 71 = .ok (.getfield 48, 3) := by decide +kernel
theorem dX10_goesOn_74 : decode cX10_goesOn 74 = .ok (.iload_n 1, 1) := by decide +kernel
theorem dX10_goesOn_75 : decode cX10_goesOn 75 = .ok (.iconst 1, 1) := by decide +kernel
theorem dX10_goesOn_76 : decode cX10_goesOn 76 = .ok (.iadd, 1) := by decide +kernel
theorem dX10_goesOn_77 : decode cX10_goesOn 77 = .ok (.iconst (-1), 1) := by decide +kernel
theorem dX10_goesOn_78 : decode cX10_goesOn 78 = .ok (.iastore, 1) := by decide +kernel
theorem dX10_goesOn_79 : decode cX10_goesOn 79 = .ok (.iload_n 1, 1) := by decide +kernel
theorem dX10_goesOn_80 : decode cX10_goesOn 80 = .ok (.iconst 1, 1) := by decide +kernel
theorem dX10_goesOn_81 : decode cX10_goesOn 81 = .ok (.iadd, 1) := by decide +kernel
theorem dX10_goesOn_82 : decode cX10_goesOn 82 = .ok (.ireturn, 1) := by decide +kernel
theorem dX10_plans_0 : decode cX10_plans 0 = .ok (.aload_n 0, 1) := by decide +kernel
theorem dX10_plans_1 : decode cX10_plans 1 = .ok (.ldc_w 269, 3) := by decide +kernel
theorem dX10_plans_4 : decode cX10_plans 4 = .ok (.putfield 260, 3) := by decide +kernel
theorem dX10_plans_7 : decode cX10_plans 7 = .ok (.aload_n 0, 1) := by decide +kernel
theorem dX10_plans_8 : decode cX10_plans 8 = .ok (.ldc_w 269, 3) := by decide +kernel
theorem dX10_plans_11 : decode cX10_plans 11 = .ok (.putfield 263, 3) := by decide +kernel
theorem dX10_plans_14 : decode cX10_plans 14 = .ok (.iconst 0, 1) := by decide +kernel
theorem dX10_plans_15 : decode cX10_plans 15 = .ok (.istore 4, 2) := by decide +kernel
theorem dX10_plans_17 : decode cX10_plans 17 = .ok (.aload_n 0, 1) := by decide +kernel
theorem dX10_plans_18 : decode cX10_plans 18 = .ok (.getfield 48, 3) := by decide +kernel
theorem dX10_plans_21 : decode cX10_plans 21 = .ok (.iconst 0, 1) := by decide +kernel
theorem dX10_plans_22 : decode cX10_plans 22 = .ok (.iconst (-1), 1) := by decide +kernel
theorem dX10_plans_23 : decode cX10_plans 23 = .ok (.iastore, 1) := by decide +kernel
theorem dX10_plans_24 : decode cX10_plans 24 = .ok (.iload 4, 2) := by decide +kernel
theorem dX10_plans_26 : decode cX10_plans 26 = .ok (.ifCond .lt 45, 3) := by decide +kernel
theorem dX10_plans_29 : decode cX10_plans 29 = .ok (.iload 4, 2) := by decide +kernel
theorem dX10_plans_31 : decode cX10_plans 31 = .ok (.aload_n 0, 1) := by decide +kernel
theorem dX10_plans_32 : decode cX10_plans 32 = .ok (.getfield 7, 3) := by decide +kernel
theorem dX10_plans_35 : decode cX10_plans 35 = .ok (.iconst 2, 1) := by decide +kernel
theorem dX10_plans_36 : decode cX10_plans 36 = .ok (.iaload, 1) := by decide +kernel
theorem dX10_plans_37 : decode cX10_plans 37 = .ok (.if_icmp .ne 13, 3) := by decide +kernel
theorem dX10_plans_40 : decode cX10_plans 40 = .ok (.aload_n 0, 1) := by decide +kernel
theorem dX10_plans_41 : decode cX10_plans 41 = .ok (.iload_n 1, 1) := by decide +kernel
theorem dX10_plans_42 : decode cX10_plans 42 = .ok (.iload_n 2, 1) := by decide +kernel
theorem dX10_plans_43 : decode cX10_plans 43 = .ok (.iload_n 3, 1) := by decide +kernel
theorem dX10_plans_44 : decode cX10_plans 44 = .ok (.invokevirtual 270, 3) := by decide +kernel
theorem dX10_plans_47 : decode cX10_plans 47 = .ok (.iinc 4 (-1), 3) := by decide +kernel
theorem dX10_plans_50 : decode cX10_plans 50 = .ok (.iload 4, 2) := by decide +kernel
theorem dX10_plans_52 : decode cX10_plans 52 = .ok (.ifCond .ge 8, 3) := by decide +kernel
theorem dX10_plans_55 : decode cX10_plans 55 = .ok (.iload 4, 2) := by decide +kernel
theorem dX10_plans_57 : decode cX10_plans 57 = .ok (.goto 9, 3) := by decide +kernel
theorem dX10_plans_60 : decode cX10_plans 60 = .ok (.aload_n 0, 1) := by decide +kernel
theorem dX10_plans_61 : decode cX10_plans 61 = .ok (.iload 4, 2) := by decide +kernel
theorem dX10_plans_63 : decode cX10_plans 63 = .ok (.invokevirtual 274, 3) := by decide +kernel
theorem dX10_plans_66 : decode cX10_plans 66 = .ok (.istore 4, 2) := by decide +kernel
theorem dX10_plans_68 : decode cX10_plans 68 = .ok (.goto (-44), 3) := by decide +kernel
theorem dX10_plans_71 : decode cX10_plans 71 = .ok (.return_, 1) := by decide +kernel
theorem dX10_seats_0 : decode cX10_seats 0 = .ok (.aload_n 0, 1) := by decide +kernel
theorem dX10_seats_1 : decode cX10_seats 1 = .ok (.iload_n 1, 1) := by decide +kernel
theorem dX10_seats_2 : decode cX10_seats 2 = .ok (.invokevirtual 188, 3) := by decide +kernel
theorem dX10_seats_5 : decode cX10_seats 5 = .ok (.ifCond .eq 18, 3) := by decide +kernel
theorem dX10_seats_8 : decode cX10_seats 8 = .ok (.iload 4, 2) := by decide +kernel
theorem dX10_seats_10 : decode cX10_seats 10 = .ok (.iconst (-1), 1) := by decide +kernel
theorem dX10_seats_11 : decode cX10_seats 11 = .ok (.if_icmp .eq 15, 3) := by decide +kernel
theorem dX10_seats_14 : decode cX10_seats 14 = .ok (.aload_n 0, 1) := by decide +kernel
theorem dX10_seats_15 : decode cX10_seats 15 = .ok (.iload 4, 2) := by decide +kernel
theorem dX10_seats_17 : decode cX10_seats 17 = .ok (.invokevirtual 202, 3) := by decide +kernel
theorem dX10_seats_20 : decode cX10_seats 20 = .ok (.ifCond .ne 6, 3) := by decide +kernel
theorem dX10_seats_23 : decode cX10_seats 23 = .ok (.ldc 191, 2) := by decide +kernel
theorem dX10_seats_25 : decode cX10_seats 25 = .ok (.ireturn, 1) := by decide +kernel
theorem dX10_seats_26 : decode cX10_seats 26 = .ok (.iload_n 2, 1) := by decide +kernel
theorem dX10_seats_27 : decode cX10_seats 27 = .ok (.i2l, 1) := by decide +kernel
theorem dX10_seats_28 : decode cX10_seats 28 = .ok (.lconst 0, 1) := by decide +kernel
theorem dX10_seats_29 : decode cX10_seats 29 = .ok (.ldc2_w 235, 3) := by decide +kernel
theorem dX10_seats_32 : decode cX10_seats 32 = .ok (.invokestatic 64, 3) := by decide +kernel
theorem dX10_seats_35 : decode cX10_seats 35 = .ok (.ifCond .eq 15, 3) := by decide +kernel
theorem dX10_seats_38 : decode cX10_seats 38 = .ok (.iload_n 3, 1) := by decide +kernel
theorem dX10_seats_39 : decode cX10_seats 39 = .ok (.i2l, 1) := by decide +kernel
theorem dX10_seats_40 : decode cX10_seats 40 = .ok (.lconst 1, 1) := by decide +kernel
theorem dX10_seats_41 : decode cX10_seats 41 = .ok (.ldc2_w 277, 3) := by decide +kernel
theorem dX10_seats_44 : decode cX10_seats 44 = .ok (.invokestatic 64, 3) := by decide +kernel
theorem dX10_seats_47 : decode cX10_seats 47 = .ok (.ifCond .ne 6, 3) := by decide +kernel
theorem dX10_seats_50 : decode cX10_seats 50 = .ok (.ldc 86, 2) := by decide +kernel
theorem dX10_seats_52 : decode cX10_seats 52 = .ok (.ireturn, 1) := by decide +kernel
theorem dX10_seats_53 : decode cX10_seats 53 = .ok (.aload_n 0, 1) := by decide +kernel
theorem dX10_seats_54 : decode cX10_seats 54 = .ok (.iload_n 1, 1) := by decide +kernel
theorem dX10_seats_55 : decode cX10_seats 55 = .ok (.iload_n 2, 1) := by decide +kernel
theorem dX10_seats_56 : decode cX10_seats 56 = .ok (.iload_n 3, 1) := by decide +kernel
theorem dX10_seats_57 : decode cX10_seats 57 = .ok (.invokevirtual 279, 3) := by decide +kernel
theorem dX10_seats_60 : decode cX10_seats 60 = .ok (.aload_n 0, 1) := by decide +kernel
theorem dX10_seats_61 : decode cX10_seats 61 = .ok (.getfield 260, 3) := by decide +kernel
theorem dX10_seats_64 : decode cX10_seats 64 = .ok (.ldc_w 269, 3) := by decide +kernel
theorem dX10_seats_67 : decode cX10_seats 67 = .ok (.if_icmp .eq 9, 3) := by decide +kernel
theorem dX10_seats_70 : decode cX10_seats 70 = .ok (.iload 4, 2) := by decide +kernel
theorem dX10_seats_72 : decode cX10_seats 72 = .ok (.iconst (-1), 1) := by decide +kernel
theorem dX10_seats_73 : decode cX10_seats 73 = .ok (.if_icmp .ne 22, 3) := by decide +kernel
theorem dX10_seats_76 : decode cX10_seats 76 = .ok (.aload_n 0, 1) := by decide +kernel
theorem dX10_seats_77 : decode cX10_seats 77 = .ok (.getfield 260, 3) := by decide +kernel
theorem dX10_seats_80 : decode cX10_seats 80 = .ok (.ldc_w 269, 3) := by decide +kernel
theorem dX10_seats_83 : decode cX10_seats 83 = .ok (.if_icmp .ne 7, 3) := by decide +kernel
theorem dX10_seats_86 : decode cX10_seats 86 = .ok (.iconst (-1), 1) := by decide +kernel
theorem dX10_seats_87 : decode cX10_seats 87 = .ok (.goto 7, 3) := by decide +kernel
theorem dX10_seats_90 : decode cX10_seats 90 = .ok (.aload_n 0, 1) := by decide +kernel
theorem dX10_seats_91 : decode cX10_seats 91 = .ok (.getfield 260, 3) := by decide +kernel
theorem dX10_seats_94 : decode cX10_seats 94 = .ok (.ireturn, 1) := by decide +kernel
theorem dX10_seats_95 : decode cX10_seats 95 = .ok (.aload_n 0, 1) := by decide +kernel
theorem dX10_seats_96 : decode cX10_seats 96 = .ok (.getfield 51, 3) := by decide +kernel
theorem dX10_seats_99 : decode cX10_seats 99 = .ok (.iload 4, 2) := by decide +kernel
theorem dX10_seats_101 : decode cX10_seats 101 = .ok (.iaload, 1) := by decide +kernel
theorem dX10_seats_102 : decode cX10_seats 102 = .ok (.aload_n 0, 1) := by decide +kernel
theorem dX10_seats_103 : decode cX10_seats 103 = .ok (.getfield 7, 3) := by decide +kernel
theorem dX10_seats_106 : decode cX10_seats 106 = .ok (.iconst 1, 1) := by decide +kernel
theorem dX10_seats_107 : decode cX10_seats 107 = .ok (.iaload, 1) := by decide +kernel
theorem dX10_seats_108 : decode cX10_seats 108 = .ok (.if_icmp .ge 13, 3) := by decide +kernel
theorem dX10_seats_111 : decode cX10_seats 111 = .ok (.aload_n 0, 1) := by decide +kernel
theorem dX10_seats_112 : decode cX10_seats 112 = .ok (.getfield 51, 3) := by decide +kernel
theorem dX10_seats_115 : decode cX10_seats 115 = .ok (.iload 4, 2) := by decide +kernel
theorem dX10_seats_117 : decode cX10_seats 117 = .ok (.iaload, 1) := by decide +kernel
theorem dX10_seats_118 : decode cX10_seats 118 = .ok (.goto 4, 3) := by decide +kernel
theorem dX10_seats_121 : decode cX10_seats 121 = .ok (.iconst (-1), 1) := by decide +kernel
theorem dX10_seats_122 : decode cX10_seats 122 = .ok (.ireturn, 1) := by decide +kernel
theorem dX10_leave_0 : decode cX10_leave 0 = .ok (.iload_n 1, 1) := by decide +kernel
theorem dX10_leave_1 : decode cX10_leave 1 = .ok (.i2l, 1) := by decide +kernel
theorem dX10_leave_2 : decode cX10_leave 2 = .ok (.lconst 0, 1) := by decide +kernel
theorem dX10_leave_3 : decode cX10_leave 3 = .ok (.lconst 1, 1) := by decide +kernel
theorem dX10_leave_4 : decode cX10_leave 4 = .ok (.invokestatic 64, 3) := by decide +kernel
theorem dX10_leave_7 : decode cX10_leave 7 = .ok (.ifCond .ne 6, 3) := by decide +kernel
theorem dX10_leave_10 : decode cX10_leave 10 = .ok (.ldc 86, 2) := by decide +kernel
theorem dX10_leave_12 : decode cX10_leave 12 = .ok (.ireturn, 1) := by decide +kernel
theorem dX10_leave_13 : decode cX10_leave 13 = .ok (.iconst (-1), 1) := by decide +kernel
theorem dX10_leave_14 : decode cX10_leave 14 = .ok (.istore_n 2, 1) := by decide +kernel
theorem dX10_leave_15 : decode cX10_leave 15 = .ok (.ldc_w 269, 3) := by decide +kernel
theorem dX10_leave_18 : decode cX10_leave 18 = .ok (.istore_n 3, 1) := by decide +kernel
theorem dX10_leave_19 : decode cX10_leave 19 = .ok (.iconst 0, 1) := by decide +kernel
theorem dX10_leave_20 : decode cX10_leave 20 = .ok (.istore 4, 2) := by decide +kernel
theorem dX10_leave_22 : decode cX10_leave 22 = .ok (.iload 4, 2) := by decide +kernel
theorem dX10_leave_24 : decode cX10_leave 24 = .ok (.aload_n 0, 1) := by decide +kernel
theorem dX10_leave_25 : decode cX10_leave 25 = .ok (.getfield 7, 3) := by decide +kernel
theorem dX10_leave_28 : decode cX10_leave 28 = .ok (.iconst 1, 1) := by decide +kernel
theorem dX10_leave_29 : decode cX10_leave 29 = .ok (.iaload, 1) := by decide +kernel
theorem dX10_leave_30 : decode cX10_leave 30 = .ok (.if_icmp .ge 53, 3) := by decide +kernel
theorem dX10_leave_33 : decode cX10_leave 33 = .ok (.aload_n 0, 1) := by decide +kernel
theorem dX10_leave_34 : decode cX10_leave 34 = .ok (.invokevirtual 257, 3) := by decide +kernel
theorem dX10_leave_37 : decode cX10_leave 37 = .ok (.aload_n 0, 1) := by decide +kernel
theorem dX10_leave_38 : decode cX10_leave 38 = .ok (.getfield 19, 3) := by decide +kernel
theorem dX10_leave_41 : decode cX10_leave 41 = .ok (.iconst 0, 1) := by decide +kernel
theorem dX10_leave_42 : decode cX10_leave 42 = .ok (.iload 4, 2) := by decide +kernel
theorem dX10_leave_44 : decode cX10_leave 44 = .ok (.iadd, 1) := by decide +kernel
theorem dX10_leave_45 : decode cX10_leave 45 = .ok (.iconst 0, 1) := by decide +kernel
theorem dX10_leave_46 : decode cX10_leave 46 = .ok (.iastore, 1) := by decide +kernel
theorem dX10_leave_47 : decode cX10_leave 47 = .ok (.aload_n 0, 1) := by decide +kernel
theorem dX10_leave_48 : decode cX10_leave 48 = .ok (.aload_n 0, 1) := by decide +kernel
theorem dX10_leave_49 : decode cX10_leave 49 = .ok (.getfield 19, 3) := by decide +kernel
theorem dX10_leave_52 : decode cX10_leave 52 = .ok (.invokevirtual 169, 3) := by decide +kernel
theorem dX10_leave_55 : decode cX10_leave 55 = .ok (.istore 5, 2) := by decide +kernel
theorem dX10_leave_57 : decode cX10_leave 57 = .ok (.iload 5, 2) := by decide +kernel
theorem dX10_leave_59 : decode cX10_leave 59 = .ok (.iload_n 3, 1) := by decide +kernel
theorem dX10_leave_60 : decode cX10_leave 60 = .ok (.if_icmp .ge 8, 3) := by decide +kernel
theorem dX10_leave_63 : decode cX10_leave 63 = .ok (.iload 4, 2) := by decide +kernel
theorem dX10_leave_65 : decode cX10_leave 65 = .ok (.goto 4, 3) := by decide +kernel
theorem dX10_leave_68 : decode cX10_leave 68 = .ok (.iload_n 2, 1) := by decide +kernel
theorem dX10_leave_69 : decode cX10_leave 69 = .ok (.istore_n 2, 1) := by decide +kernel
theorem dX10_leave_70 : decode cX10_leave 70 = .ok (.iload 5, 2) := by decide +kernel
theorem dX10_leave_72 : decode cX10_leave 72 = .ok (.iload_n 3, 1) := by decide +kernel
theorem dX10_leave_73 : decode cX10_leave 73 = .ok (.invokestatic 212, 3) := by decide +kernel
theorem dX10_leave_76 : decode cX10_leave 76 = .ok (.istore_n 3, 1) := by decide +kernel
theorem dX10_leave_77 : decode cX10_leave 77 = .ok (.iinc 4 1, 3) := by decide +kernel
theorem dX10_leave_80 : decode cX10_leave 80 = .ok (.goto (-58), 3) := by decide +kernel
theorem dX10_leave_83 : decode cX10_leave 83 = .ok (.iload_n 2, 1) := by decide +kernel
theorem dX10_leave_84 : decode cX10_leave 84 = .ok (.iconst (-1), 1) := by decide +kernel
theorem dX10_leave_85 : decode cX10_leave 85 = .ok (.if_icmp .eq 7, 3) := by decide +kernel
theorem dX10_leave_88 : decode cX10_leave 88 = .ok (.iload_n 1, 1) := by decide +kernel
theorem dX10_leave_89 : decode cX10_leave 89 = .ok (.ifCond .ne 7, 3) := by decide +kernel
theorem dX10_leave_92 : decode cX10_leave 92 = .ok (.iload_n 2, 1) := by decide +kernel
theorem dX10_leave_93 : decode cX10_leave 93 = .ok (.goto 4, 3) := by decide +kernel
theorem dX10_leave_96 : decode cX10_leave 96 = .ok (.iload_n 3, 1) := by decide +kernel
theorem dX10_leave_97 : decode cX10_leave 97 = .ok (.ireturn, 1) := by decide +kernel
theorem dX10_shareOf_0 : decode cX10_shareOf 0 = .ok (.iconst 0, 1) := by decide +kernel
theorem dX10_shareOf_1 : decode cX10_shareOf 1 = .ok (.istore_n 3, 1) := by decide +kernel
theorem dX10_shareOf_2 : decode cX10_shareOf 2 = .ok (.iconst 0, 1) := by decide +kernel
theorem dX10_shareOf_3 : decode cX10_shareOf 3 = .ok (.istore 4, 2) := by decide +kernel
theorem dX10_shareOf_5 : decode cX10_shareOf 5 = .ok (.iload 4, 2) := by decide +kernel
theorem dX10_shareOf_7 : decode cX10_shareOf 7 = .ok (.aload_n 0, 1) := by decide +kernel
theorem dX10_shareOf_8 : decode cX10_shareOf 8 = .ok (.getfield 7, 3) := by decide +kernel
theorem dX10_shareOf_11 : decode cX10_shareOf 11 = .ok (.iconst 0, 1) := by decide +kernel
theorem dX10_shareOf_12 : decode cX10_shareOf 12 = .ok (.iaload, 1) := by decide +kernel
theorem dX10_shareOf_13 : decode cX10_shareOf 13 = .ok (.if_icmp .ge 38, 3) := by decide +kernel
theorem dX10_shareOf_16 : decode cX10_shareOf 16 = .ok (.iload_n 3, 1) := by decide +kernel
theorem dX10_shareOf_17 : decode cX10_shareOf 17 = .ok (.aload_n 0, 1) := by decide +kernel
theorem dX10_shareOf_18 : decode cX10_shareOf 18 = .ok (.aload_n 0, 1) := by decide +kernel
theorem dX10_shareOf_19 : decode cX10_shareOf 19 = .ok (.getfield 16, 3) := by decide +kernel
theorem dX10_shareOf_22 : decode cX10_shareOf 22 = .ok (.iload 4, 2) := by decide +kernel
theorem dX10_shareOf_24 : decode cX10_shareOf 24 = .ok (.invokevirtual 166, 3) := by decide +kernel
theorem dX10_shareOf_27 : decode cX10_shareOf 27 = .ok (.ifCond .le 7, 3) := by decide +kernel
theorem dX10_shareOf_30 : decode cX10_shareOf 30 = .ok (.iconst 0, 1) := by decide +kernel
theorem dX10_shareOf_31 : decode cX10_shareOf 31 = .ok (.goto 12, 3) := by decide +kernel
theorem dX10_shareOf_34 : decode cX10_shareOf 34 = .ok (.aload_n 0, 1) := by decide +kernel
theorem dX10_shareOf_35 : decode cX10_shareOf 35 = .ok (.getfield 7, 3) := by decide +kernel
theorem dX10_shareOf_38 : decode cX10_shareOf 38 = .ok (.iconst 4, 1) := by decide +kernel
theorem dX10_shareOf_39 : decode cX10_shareOf 39 = .ok (.iload 4, 2) := by decide +kernel
theorem dX10_shareOf_41 : decode cX10_shareOf 41 = .ok (.iadd, 1) := by decide +kernel
theorem dX10_shareOf_42 : decode cX10_shareOf 42 = .ok (.iaload, 1) := by decide +kernel
theorem dX10_shareOf_43 : decode cX10_shareOf 43 = .ok (.iadd, 1) := by decide +kernel
theorem dX10_shareOf_44 : decode cX10_shareOf 44 = .ok (.istore_n 3, 1) := by decide +kernel
theorem dX10_shareOf_45 : decode cX10_shareOf 45 = .ok (.iinc 4 1, 3) := by decide +kernel
theorem dX10_shareOf_48 : decode cX10_shareOf 48 = .ok (.goto (-43), 3) := by decide +kernel
theorem dX10_shareOf_51 : decode cX10_shareOf 51 = .ok (.iload_n 3, 1) := by decide +kernel
theorem dX10_shareOf_52 : decode cX10_shareOf 52 = .ok (.ifCond .eq 15, 3) := by decide +kernel
theorem dX10_shareOf_55 : decode cX10_shareOf 55 = .ok (.aload_n 0, 1) := by decide +kernel
theorem dX10_shareOf_56 : decode cX10_shareOf 56 = .ok (.aload_n 0, 1) := by decide +kernel
theorem dX10_shareOf_57 : decode cX10_shareOf 57 = .ok (.getfield 16, 3) := by decide +kernel
theorem dX10_shareOf_60 : decode cX10_shareOf 60 = .ok (.iload_n 2, 1) := by decide +kernel
theorem dX10_shareOf_61 : decode cX10_shareOf 61 = .ok (.invokevirtual 166, 3) := by decide +kernel
theorem dX10_shareOf_64 : decode cX10_shareOf 64 = .ok (.ifCond .le 7, 3) := by decide +kernel
theorem dX10_shareOf_67 : decode cX10_shareOf 67 = .ok (.iconst 0, 1) := by decide +kernel
theorem dX10_shareOf_68 : decode cX10_shareOf 68 = .ok (.goto 15, 3) := by decide +kernel
theorem dX10_shareOf_71 : decode cX10_shareOf 71 = .ok (.iload_n 1, 1) := by decide +kernel
theorem dX10_shareOf_72 : decode cX10_shareOf 72 = .ok (.aload_n 0, 1) := by decide +kernel
theorem dX10_shareOf_73 : decode cX10_shareOf 73 = .ok (.getfield 7, 3) := by decide +kernel
theorem dX10_shareOf_76 : decode cX10_shareOf 76 = .ok (.iconst 4, 1) := by decide +kernel
theorem dX10_shareOf_77 : decode cX10_shareOf 77 = .ok (.iload_n 2, 1) := by decide +kernel
theorem dX10_shareOf_78 : decode cX10_shareOf 78 = .ok (.iadd, 1) := by decide +kernel
theorem dX10_shareOf_79 : decode cX10_shareOf 79 = .ok (.iaload, 1) := by decide +kernel
theorem dX10_shareOf_80 : decode cX10_shareOf 80 = .ok (.imul, 1) := by decide +kernel
theorem dX10_shareOf_81 : decode cX10_shareOf 81 = .ok (.iload_n 3, 1) := by decide +kernel
theorem dX10_shareOf_82 : decode cX10_shareOf 82 = .ok (.idiv, 1) := by decide +kernel
theorem dX10_shareOf_83 : decode cX10_shareOf 83 = .ok (.ireturn, 1) := by decide +kernel
theorem dX10_share_0 : decode cX10_share 0 = .ok (.iload_n 2, 1) := by decide +kernel
theorem dX10_share_1 : decode cX10_share 1 = .ok (.iconst (-1), 1) := by decide +kernel
theorem dX10_share_2 : decode cX10_share 2 = .ok (.if_icmp .eq 14, 3) := by decide +kernel
theorem dX10_share_5 : decode cX10_share 5 = .ok (.aload_n 0, 1) := by decide +kernel
theorem dX10_share_6 : decode cX10_share 6 = .ok (.iload_n 2, 1) := by decide +kernel
theorem dX10_share_7 : decode cX10_share 7 = .ok (.invokevirtual 188, 3) := by decide +kernel
theorem dX10_share_10 : decode cX10_share 10 = .ok (.ifCond .ne 6, 3) := by decide +kernel
theorem dX10_share_13 : decode cX10_share 13 = .ok (.ldc 191, 2) := by decide +kernel
theorem dX10_share_15 : decode cX10_share 15 = .ok (.ireturn, 1) := by decide +kernel
theorem dX10_share_16 : decode cX10_share 16 = .ok (.iload_n 1, 1) := by decide +kernel
theorem dX10_share_17 : decode cX10_share 17 = .ok (.i2l, 1) := by decide +kernel
theorem dX10_share_18 : decode cX10_share 18 = .ok (.lconst 0, 1) := by decide +kernel
theorem dX10_share_19 : decode cX10_share 19 = .ok (.ldc2_w 282, 3) := by decide +kernel
theorem dX10_share_22 : decode cX10_share 22 = .ok (.invokestatic 64, 3) := by decide +kernel
theorem dX10_share_25 : decode cX10_share 25 = .ok (.ifCond .ne 6, 3) := by decide +kernel
theorem dX10_share_28 : decode cX10_share 28 = .ok (.ldc 86, 2) := by decide +kernel
theorem dX10_share_30 : decode cX10_share 30 = .ok (.ireturn, 1) := by decide +kernel
theorem dX10_share_31 : decode cX10_share 31 = .ok (.iload_n 2, 1) := by decide +kernel
theorem dX10_share_32 : decode cX10_share 32 = .ok (.iconst (-1), 1) := by decide +kernel
theorem dX10_share_33 : decode cX10_share 33 = .ok (.if_icmp .eq 10, 3) := by decide +kernel
theorem dX10_share_36 : decode cX10_share 36 = .ok (.aload_n 0, 1) := by decide +kernel
theorem dX10_share_37 : decode cX10_share 37 = .ok (.iload_n 1, 1) := by decide +kernel
theorem dX10_share_38 : decode cX10_share 38 = .ok (.iload_n 2, 1) := by decide +kernel
theorem dX10_share_39 : decode cX10_share 39 = .ok (.invokevirtual 284, 3) := by decide +kernel
theorem dX10_share_42 : decode cX10_share 42 = .ok (.ireturn, 1) := by decide +kernel
theorem dX10_share_43 : decode cX10_share 43 = .ok (.iload_n 1, 1) := by decide +kernel
theorem dX10_share_44 : decode cX10_share 44 = .ok (.istore_n 3, 1) := by decide +kernel
theorem dX10_share_45 : decode cX10_share 45 = .ok (.iconst 0, 1) := by decide +kernel
theorem dX10_share_46 : decode cX10_share 46 = .ok (.istore 4, 2) := by decide +kernel
theorem dX10_share_48 : decode cX10_share 48 = .ok (.iload 4, 2) := by decide +kernel
theorem dX10_share_50 : decode cX10_share 50 = .ok (.aload_n 0, 1) := by decide +kernel
theorem dX10_share_51 : decode cX10_share 51 = .ok (.getfield 7, 3) := by decide +kernel
theorem dX10_share_54 : decode cX10_share 54 = .ok (.iconst 0, 1) := by decide +kernel
theorem dX10_share_55 : decode cX10_share 55 = .ok (.iaload, 1) := by decide +kernel
theorem dX10_share_56 : decode cX10_share 56 = .ok (.if_icmp .ge 19, 3) := by decide +kernel
theorem dX10_share_59 : decode cX10_share 59 = .ok (.iload_n 3, 1) := by decide +kernel
theorem dX10_share_60 : decode cX10_share 60 = .ok (.aload_n 0, 1) := by decide +kernel
theorem dX10_share_61 : decode cX10_share 61 = .ok (.iload_n 1, 1) := by decide +kernel
theorem dX10_share_62 : decode cX10_share 62 = .ok (.iload 4, 2) := by decide +kernel
theorem dX10_share_64 : decode cX10_share 64 = .ok (.invokevirtual 284, 3) := by decide +kernel
theorem dX10_share_67 : decode cX10_share 67 = .ok (.isub, 1) := by decide +kernel
theorem dX10_share_68 : decode cX10_share 68 = .ok (.istore_n 3, 1) := by decide +kernel
theorem dX10_share_69 : decode cX10_share 69 = .ok (.iinc 4 1, 3) := by decide +kernel
theorem dX10_share_72 : decode cX10_share 72 = .ok (.goto (-24), 3) := by decide +kernel
theorem dX10_share_75 : decode cX10_share 75 = .ok (.iload_n 3, 1) := by decide +kernel
theorem dX10_share_76 : decode cX10_share 76 = .ok (.ireturn, 1) := by decide +kernel
theorem dX10_calm_0 : decode cX10_calm 0 = .ok (.iload_n 1, 1) := by decide +kernel
theorem dX10_calm_1 : decode cX10_calm 1 = .ok (.i2l, 1) := by decide +kernel
theorem dX10_calm_2 : decode cX10_calm 2 = .ok (.lconst 0, 1) := by decide +kernel
theorem dX10_calm_3 : decode cX10_calm 3 = .ok (.ldc2_w 219, 3) := by decide +kernel
theorem dX10_calm_6 : decode cX10_calm 6 = .ok (.invokestatic 64, 3) := by decide +kernel
theorem dX10_calm_9 : decode cX10_calm 9 = .ok (.ifCond .eq 15, 3) := by decide +kernel
theorem dX10_calm_12 : decode cX10_calm 12 = .ok (.iload_n 2, 1) := by decide +kernel
theorem dX10_calm_13 : decode cX10_calm 13 = .ok (.i2l, 1) := by decide +kernel
theorem dX10_calm_14 : decode cX10_calm 14 = .ok (.lconst 0, 1) := by decide +kernel
theorem dX10_calm_15 : decode cX10_calm 15 = .ok (.ldc2_w 255, 3) := by decide +kernel
theorem dX10_calm_18 : decode cX10_calm 18 = .ok (.invokestatic 64, 3) := by decide +kernel
theorem dX10_calm_21 : decode cX10_calm 21 = .ok (.ifCond .ne 6, 3) := by decide +kernel
theorem dX10_calm_24 : decode cX10_calm 24 = .ok (.ldc 86, 2) := by decide +kernel
theorem dX10_calm_26 : decode cX10_calm 26 = .ok (.ireturn, 1) := by decide +kernel
theorem dX10_calm_27 : decode cX10_calm 27 = .ok (.ldc2_w 287, 3) := by decide +kernel
theorem dX10_calm_30 : decode cX10_calm 30 = .ok (.lstore_n 3, 1) := by decide +kernel
theorem dX10_calm_31 : decode cX10_calm 31 = .ok (.iconst 0, 1) := by decide +kernel
theorem dX10_calm_32 : decode cX10_calm 32 = .ok (.istore 5, 2) := by decide +kernel
theorem dX10_calm_34 : decode cX10_calm 34 = .ok (.iload 5, 2) := by decide +kernel
theorem dX10_calm_36 : decode cX10_calm 36 = .ok (.iload_n 1, 1) := by decide +kernel
theorem dX10_calm_37 : decode cX10_calm 37 = .ok (.if_icmp .ge 18, 3) := by decide +kernel
theorem dX10_calm_40 : decode cX10_calm 40 = .ok (.lload_n 3, 1) := by decide +kernel
theorem dX10_calm_41 : decode cX10_calm 41 = .ok (.iload_n 2, 1) := by decide +kernel
theorem dX10_calm_42 : decode cX10_calm 42 = .ok (.i2l, 1) := by decide +kernel
theorem dX10_calm_43 : decode cX10_calm 43 = .ok (.lmul, 1) := by decide +kernel
theorem dX10_calm_44 : decode cX10_calm 44 = .ok (.ldc2_w 255, 3) := by decide +kernel
theorem dX10_calm_47 : decode cX10_calm 47 = .ok (.ldiv, 1) := by decide +kernel
theorem dX10_calm_48 : decode cX10_calm 48 = .ok (.lstore_n 3, 1) := by decide +kernel
theorem dX10_calm_49 : decode cX10_calm 49 = .ok (.iinc 5 1, 3) := by decide +kernel
theorem dX10_calm_52 : decode cX10_calm 52 = .ok (.goto (-18), 3) := by decide +kernel
theorem dX10_calm_55 : decode cX10_calm 55 = .ok (.lload_n 3, 1) := by decide +kernel
theorem dX10_calm_56 : decode cX10_calm 56 = .ok (.l2i, 1) := by decide +kernel
theorem dX10_calm_57 : decode cX10_calm 57 = .ok (.ireturn, 1) := by decide +kernel
theorem dX10_mark_0 : decode cX10_mark 0 = .ok (.aload_n 0, 1) := by decide +kernel
theorem dX10_mark_1 : decode cX10_mark 1 = .ok (.iload_n 1, 1) := by decide +kernel
theorem dX10_mark_2 : decode cX10_mark 2 = .ok (.invokevirtual 188, 3) := by decide +kernel
theorem dX10_mark_5 : decode cX10_mark 5 = .ok (.ifCond .ne 6, 3) := by decide +kernel
theorem dX10_mark_8 : decode cX10_mark 8 = .ok (.ldc 191, 2) := by decide +kernel
theorem dX10_mark_10 : decode cX10_mark 10 = .ok (.ireturn, 1) := by decide +kernel
theorem dX10_mark_11 : decode cX10_mark 11 = .ok (.iload_n 2, 1) := by decide +kernel
theorem dX10_mark_12 : decode cX10_mark 12 = .ok (.i2l, 1) := by decide +kernel
theorem dX10_mark_13 : decode cX10_mark 13 = .ok (.lconst 1, 1) := by decide +kernel
theorem dX10_mark_14 : decode cX10_mark 14 = .ok (.ldc2_w 277, 3) := by decide +kernel
theorem dX10_mark_17 : decode cX10_mark 17 = .ok (.invokestatic 64, 3) := by decide +kernel
theorem dX10_mark_20 : decode cX10_mark 20 = .ok (.ifCond .eq 15, 3) := by decide +kernel
theorem dX10_mark_23 : decode cX10_mark 23 = .ok (.iload_n 3, 1) := by decide +kernel
theorem dX10_mark_24 : decode cX10_mark 24 = .ok (.i2l, 1) := by decide +kernel
theorem dX10_mark_25 : decode cX10_mark 25 = .ok (.lconst 0, 1) := by decide +kernel
theorem dX10_mark_26 : decode cX10_mark 26 = .ok (.ldc2_w 282, 3) := by decide +kernel
theorem dX10_mark_29 : decode cX10_mark 29 = .ok (.invokestatic 64, 3) := by decide +kernel
theorem dX10_mark_32 : decode cX10_mark 32 = .ok (.ifCond .ne 6, 3) := by decide +kernel
theorem dX10_mark_35 : decode cX10_mark 35 = .ok (.ldc 86, 2) := by decide +kernel
theorem dX10_mark_37 : decode cX10_mark 37 = .ok (.ireturn, 1) := by decide +kernel
theorem dX10_mark_38 : decode cX10_mark 38 = .ok (.aload_n 0, 1) := by decide +kernel
theorem dX10_mark_39 : decode cX10_mark 39 = .ok (.getfield 75, 3) := by decide +kernel
theorem dX10_mark_42 : decode cX10_mark 42 = .ok (.bipush 6, 2) := by decide +kernel
theorem dX10_mark_44 : decode cX10_mark 44 = .ok (.if_icmp .ne 6, 3) := by decide +kernel
theorem dX10_mark_47 : decode cX10_mark 47 = .ok (.ldc 90, 2) := by decide +kernel
theorem dX10_mark_49 : decode cX10_mark 49 = .ok (.ireturn, 1) := by decide +kernel
theorem dX10_mark_50 : decode cX10_mark 50 = .ok (.aload_n 0, 1) := by decide +kernel
theorem dX10_mark_51 : decode cX10_mark 51 = .ok (.getfield 39, 3) := by decide +kernel
theorem dX10_mark_54 : decode cX10_mark 54 = .ok (.iconst 3, 1) := by decide +kernel
theorem dX10_mark_55 : decode cX10_mark 55 = .ok (.aload_n 0, 1) := by decide +kernel
theorem dX10_mark_56 : decode cX10_mark 56 = .ok (.getfield 75, 3) := by decide +kernel
theorem dX10_mark_59 : decode cX10_mark 59 = .ok (.imul, 1) := by decide +kernel
theorem dX10_mark_60 : decode cX10_mark 60 = .ok (.iload_n 1, 1) := by decide +kernel
theorem dX10_mark_61 : decode cX10_mark 61 = .ok (.iastore, 1) := by decide +kernel
theorem dX10_mark_62 : decode cX10_mark 62 = .ok (.aload_n 0, 1) := by decide +kernel
theorem dX10_mark_63 : decode cX10_mark 63 = .ok (.getfield 39, 3) := by decide +kernel
theorem dX10_mark_66 : decode cX10_mark 66 = .ok (.iconst 3, 1) := by decide +kernel
theorem dX10_mark_67 : decode cX10_mark 67 = .ok (.aload_n 0, 1) := by decide +kernel
theorem dX10_mark_68 : decode cX10_mark 68 = .ok (.getfield 75, 3) := by decide +kernel
theorem dX10_mark_71 : decode cX10_mark 71 = .ok (.imul, 1) := by decide +kernel
theorem dX10_mark_72 : decode cX10_mark 72 = .ok (.iconst 1, 1) := by decide +kernel
theorem dX10_mark_73 : decode cX10_mark 73 = .ok (.iadd, 1) := by decide +kernel
theorem dX10_mark_74 : decode cX10_mark 74 = .ok (.iload_n 2, 1) := by decide +kernel
theorem dX10_mark_75 : decode cX10_mark 75 = .ok (.iastore, 1) := by decide +kernel
theorem dX10_mark_76 : decode cX10_mark 76 = .ok (.aload_n 0, 1) := by decide +kernel
theorem dX10_mark_77 : decode cX10_mark 77 = .ok (.getfield 39, 3) := by decide +kernel
theorem dX10_mark_80 : decode cX10_mark 80 = .ok (.iconst 3, 1) := by decide +kernel
theorem dX10_mark_81 : decode cX10_mark 81 = .ok (.aload_n 0, 1) := by decide +kernel
theorem dX10_mark_82 : decode cX10_mark 82 = .ok (.getfield 75, 3) := by decide +kernel
theorem dX10_mark_85 : decode cX10_mark 85 = .ok (.imul, 1) := by decide +kernel
theorem dX10_mark_86 : decode cX10_mark 86 = .ok (.iconst 2, 1) := by decide +kernel
theorem dX10_mark_87 : decode cX10_mark 87 = .ok (.iadd, 1) := by decide +kernel
theorem dX10_mark_88 : decode cX10_mark 88 = .ok (.iload_n 3, 1) := by decide +kernel
theorem dX10_mark_89 : decode cX10_mark 89 = .ok (.iastore, 1) := by decide +kernel
theorem dX10_mark_90 : decode cX10_mark 90 = .ok (.aload_n 0, 1) := by decide +kernel
theorem dX10_mark_91 : decode cX10_mark 91 = .ok (.dup, 1) := by decide +kernel
theorem dX10_mark_92 : decode cX10_mark 92 = .ok (.getfield 75, 3) := by decide +kernel
theorem dX10_mark_95 : decode cX10_mark 95 = .ok (.iconst 1, 1) := by decide +kernel
theorem dX10_mark_96 : decode cX10_mark 96 = .ok (.iadd, 1) := by decide +kernel
theorem dX10_mark_97 : decode cX10_mark 97 = .ok (.putfield 75, 3) := by decide +kernel
theorem dX10_mark_100 : decode cX10_mark 100 = .ok (.aload_n 0, 1) := by decide +kernel
theorem dX10_mark_101 : decode cX10_mark 101 = .ok (.getfield 75, 3) := by decide +kernel
theorem dX10_mark_104 : decode cX10_mark 104 = .ok (.ireturn, 1) := by decide +kernel
theorem dX10_layThen_0 : decode cX10_layThen 0 = .ok (.aload_n 0, 1) := by decide +kernel
theorem dX10_layThen_1 : decode cX10_layThen 1 = .ok (.invokevirtual 257, 3) := by decide +kernel
theorem dX10_layThen_4 : decode cX10_layThen 4 = .ok (.aload_n 0, 1) := by decide +kernel
theorem dX10_layThen_5 : decode cX10_layThen 5 = .ok (.getfield 19, 3) := by decide +kernel
theorem dX10_layThen_8 : decode cX10_layThen 8 = .ok (.bipush 18, 2) := by decide +kernel
theorem dX10_layThen_10 : decode cX10_layThen 10 = .ok (.iconst 1, 1) := by decide +kernel
theorem dX10_layThen_11 : decode cX10_layThen 11 = .ok (.iload_n 1, 1) := by decide +kernel
theorem dX10_layThen_12 : decode cX10_layThen 12 = .ok (.ishl, 1) := by decide +kernel
theorem dX10_layThen_13 : decode cX10_layThen 13 = .ok (.iastore, 1) := by decide +kernel
theorem dX10_layThen_14 : decode cX10_layThen 14 = .ok (.iconst 0, 1) := by decide +kernel
theorem dX10_layThen_15 : decode cX10_layThen 15 = .ok (.istore_n 2, 1) := by decide +kernel
theorem dX10_layThen_16 : decode cX10_layThen 16 = .ok (.iload_n 2, 1) := by decide +kernel
theorem dX10_layThen_17 : decode cX10_layThen 17 = .ok (.bipush 20, 2) := by decide +kernel
theorem dX10_layThen_19 : decode cX10_layThen 19 = .ok (.if_icmp .ge 61, 3) := by decide +kernel
theorem dX10_layThen_22 : decode cX10_layThen 22 = .ok (.aload_n 0, 1) := by decide +kernel
theorem dX10_layThen_23 : decode cX10_layThen 23 = .ok (.aload_n 0, 1) := by decide +kernel
theorem dX10_layThen_24 : decode cX10_layThen 24 = .ok (.getfield 19, 3) := by decide +kernel
theorem dX10_layThen_27 : decode cX10_layThen 27 = .ok (.invokevirtual 215, 3) := by decide +kernel
theorem dX10_layThen_30 : decode cX10_layThen 30 = .ok (.iconst 0, 1) := by decide +kernel
theorem dX10_layThen_31 : decode cX10_layThen 31 = .ok (.istore_n 3, 1) := by decide +kernel
theorem dX10_layThen_32 : decode cX10_layThen 32 = .ok (.iload_n 3, 1) := by decide +kernel
theorem dX10_layThen_33 : decode cX10_layThen 33 = .ok (.aload_n 0, 1) := by decide +kernel
theorem dX10_layThen_34 : decode cX10_layThen 34 = .ok (.getfield 7, 3) := by decide +kernel
theorem dX10_layThen_37 : decode cX10_layThen 37 = .ok (.iconst 0, 1) := by decide +kernel
theorem dX10_layThen_38 : decode cX10_layThen 38 = .ok (.iaload, 1) := by decide +kernel
theorem dX10_layThen_39 : decode cX10_layThen 39 = .ok (.if_icmp .ge 35, 3) := by decide +kernel
theorem dX10_layThen_42 : decode cX10_layThen 42 = .ok (.aload_n 0, 1) := by decide +kernel
theorem dX10_layThen_43 : decode cX10_layThen 43 = .ok (.getfield 54, 3) := by decide +kernel
theorem dX10_layThen_46 : decode cX10_layThen 46 = .ok (.sipush 200, 3) := by decide +kernel
theorem dX10_layThen_49 : decode cX10_layThen 49 = .ok (.iload_n 1, 1) := by decide +kernel
theorem dX10_layThen_50 : decode cX10_layThen 50 = .ok (.imul, 1) := by decide +kernel
theorem dX10_layThen_51 : decode cX10_layThen 51 = .ok (.bipush 10, 2) := by decide +kernel
theorem dX10_layThen_53 : decode cX10_layThen 53 = .ok (.iload_n 2, 1) := by decide +kernel
theorem dX10_layThen_54 : decode cX10_layThen 54 = .ok (.imul, 1) := by decide +kernel
theorem dX10_layThen_55 : decode cX10_layThen 55 = .ok (.iadd, 1) := by decide +kernel
theorem dX10_layThen_56 : decode cX10_layThen 56 = .ok (.iload_n 3, 1) := by decide +kernel
theorem dX10_layThen_57 : decode cX10_layThen 57 = .ok (.iadd, 1) := by decide +kernel
theorem dX10_layThen_58 : decode cX10_layThen 58 = .ok (.aload_n 0, 1) := by decide +kernel
theorem dX10_layThen_59 : decode cX10_layThen 59 = .ok (.aload_n 0, 1) := by decide +kernel
theorem dX10_layThen_60 : decode cX10_layThen 60 = .ok (.getfield 19, 3) := by decide +kernel
theorem dX10_layThen_63 : decode cX10_layThen 63 = .ok (.iload_n 3, 1) := by decide +kernel
theorem dX10_layThen_64 : decode cX10_layThen 64 = .ok (.invokevirtual 155, 3) := by decide +kernel
theorem dX10_layThen_67 : decode cX10_layThen 67 = .ok (.iastore, 1) := by decide +kernel
theorem dX10_layThen_68 : decode cX10_layThen 68 = .ok (.iinc 3 1, 3) := by decide +kernel
theorem dX10_layThen_71 : decode cX10_layThen 71 = .ok (.goto (-39), 3) := by decide +kernel
theorem dX10_layThen_74 : decode cX10_layThen 74 = .ok (.iinc 2 1, 3) := by decide +kernel
theorem dX10_layThen_77 : decode cX10_layThen 77 = .ok (.goto (-61), 3) := by decide +kernel
theorem dX10_layThen_80 : decode cX10_layThen 80 = .ok (.return_, 1) := by decide +kernel
theorem dX10_slept_0 : decode cX10_slept 0 = .ok (.iconst 0, 1) := by decide +kernel
theorem dX10_slept_1 : decode cX10_slept 1 = .ok (.istore_n 1, 1) := by decide +kernel
theorem dX10_slept_2 : decode cX10_slept 2 = .ok (.iconst 0, 1) := by decide +kernel
theorem dX10_slept_3 : decode cX10_slept 3 = .ok (.istore_n 2, 1) := by decide +kernel
theorem dX10_slept_4 : decode cX10_slept 4 = .ok (.iload_n 2, 1) := by decide +kernel
theorem dX10_slept_5 : decode cX10_slept 5 = .ok (.aload_n 0, 1) := by decide +kernel
theorem dX10_slept_6 : decode cX10_slept 6 = .ok (.getfield 7, 3) := by decide +kernel
theorem dX10_slept_9 : decode cX10_slept 9 = .ok (.iconst 2, 1) := by decide +kernel
theorem dX10_slept_10 : decode cX10_slept 10 = .ok (.iaload, 1) := by decide +kernel
theorem dX10_slept_11 : decode cX10_slept 11 = .ok (.if_icmp .ge 118, 3) := by decide +kernel
theorem dX10_slept_14 : decode cX10_slept 14 = .ok (.aload_n 0, 1) := by decide +kernel
theorem dX10_slept_15 : decode cX10_slept 15 = .ok (.getfield 16, 3) := by decide +kernel
theorem dX10_slept_18 : decode cX10_slept 18 = .ok (.bipush 12, 2) := by decide +kernel
theorem dX10_slept_20 : decode cX10_slept 20 = .ok (.iload_n 2, 1) := by decide +kernel
theorem dX10_slept_21 : decode cX10_slept 21 = .ok (.iadd, 1) := by decide +kernel
theorem dX10_slept_22 : decode cX10_slept 22 = .ok (.iaload, 1) := by decide +kernel
theorem dX10_slept_23 : decode cX10_slept 23 = .ok (.iconst (-1), 1) := by decide +kernel
theorem dX10_slept_24 : decode cX10_slept 24 = .ok (.if_icmp .eq 99, 3) := by decide +kernel
theorem dX10_slept_27 : decode cX10_slept 27 = .ok (.aload_n 0, 1) := by decide +kernel
theorem dX10_slept_28 : decode cX10_slept 28 = .ok (.iload_n 2, 1) := by decide +kernel
theorem dX10_slept_29 : decode cX10_slept 29 = .ok (.invokevirtual 289, 3) := by decide +kernel
theorem dX10_slept_32 : decode cX10_slept 32 = .ok (.iconst 1, 1) := by decide +kernel
theorem dX10_slept_33 : decode cX10_slept 33 = .ok (.istore_n 3, 1) := by decide +kernel
theorem dX10_slept_34 : decode cX10_slept 34 = .ok (.iconst 0, 1) := by decide +kernel
theorem dX10_slept_35 : decode cX10_slept 35 = .ok (.istore 4, 2) := by decide +kernel
theorem dX10_slept_37 : decode cX10_slept 37 = .ok (.iload 4, 2) := by decide +kernel
theorem dX10_slept_39 : decode cX10_slept 39 = .ok (.iconst 3, 1) := by decide +kernel
theorem dX10_slept_40 : decode cX10_slept 40 = .ok (.aload_n 0, 1) := by decide +kernel
theorem dX10_slept_41 : decode cX10_slept 41 = .ok (.getfield 75, 3) := by decide +kernel
theorem dX10_slept_44 : decode cX10_slept 44 = .ok (.imul, 1) := by decide +kernel
theorem dX10_slept_45 : decode cX10_slept 45 = .ok (.if_icmp .ge 64, 3) := by decide +kernel
theorem dX10_slept_48 : decode cX10_slept 48 = .ok (.iload_n 3, 1) := by decide +kernel
theorem dX10_slept_49 : decode cX10_slept 49 = .ok (.ifCond .eq 52, 3) := by decide +kernel
theorem dX10_slept_52 : decode cX10_slept 52 = .ok (.aload_n 0, 1) := by decide +kernel
theorem dX10_slept_53 : decode cX10_slept 53 = .ok (.getfield 54, 3) := by decide +kernel
theorem dX10_slept_56 : decode cX10_slept 56 = .ok (.sipush 200, 3) := by decide +kernel
theorem dX10_slept_59 : decode cX10_slept 59 = .ok (.iload_n 2, 1) := by decide +kernel
theorem dX10_slept_60 : decode cX10_slept 60 = .ok (.imul, 1) := by decide +kernel
theorem dX10_slept_61 : decode cX10_slept 61 = .ok (.bipush 10, 2) := by decide +kernel
theorem dX10_slept_63 : decode cX10_slept 63 = .ok (.aload_n 0, 1) := by decide +kernel
theorem dX10_slept_64 : decode cX10_slept 64 = .ok (.getfield 39, 3) := by decide +kernel
theorem dX10_slept_67 : decode cX10_slept 67 = .ok (.iload 4, 2) := by decide +kernel
theorem dX10_slept_69 : decode cX10_slept 69 = .ok (.iconst 1, 1) := by decide +kernel
theorem dX10_slept_70 : decode cX10_slept 70 = .ok (.iadd, 1) := by decide +kernel
theorem dX10_slept_71 : decode cX10_slept 71 = .ok (.iaload, 1) := by decide +kernel
theorem dX10_slept_72 : decode cX10_slept 72 = .ok (.iconst 1, 1) := by decide +kernel
theorem dX10_slept_73 : decode cX10_slept 73 = .ok (.isub, 1) := by decide +kernel
theorem dX10_slept_74 : decode cX10_slept 74 = .ok (.imul, 1) := by decide +kernel
theorem dX10_slept_75 : decode cX10_slept 75 = .ok (.iadd, 1) := by decide +kernel
theorem dX10_slept_76 : decode cX10_slept 76 = .ok (.aload_n 0, 1) := by decide +kernel
theorem dX10_slept_77 : decode cX10_slept 77 = .ok (.getfield 39, 3) := by decide +kernel
theorem dX10_slept_80 : decode cX10_slept 80 = .ok (.iload 4, 2) := by decide +kernel
theorem dX10_slept_82 : decode cX10_slept 82 = .ok (.iaload, 1) := by decide +kernel
theorem dX10_slept_83 : decode cX10_slept 83 = .ok (.iadd, 1) := by decide +kernel
theorem dX10_slept_84 : decode cX10_slept 84 = .ok (.iaload, 1) := by decide +kernel
theorem dX10_slept_85 : decode cX10_slept 85 = .ok (.aload_n 0, 1) := by decide +kernel
theorem dX10_slept_86 : decode cX10_slept 86 = .ok (.getfield 39, 3) := by decide +kernel
theorem dX10_slept_89 : decode cX10_slept 89 = .ok (.iload 4, 2) := by decide +kernel
theorem dX10_slept_91 : decode cX10_slept 91 = .ok (.iconst 2, 1) := by decide +kernel
theorem dX10_slept_92 : decode cX10_slept 92 = .ok (.iadd, 1) := by decide +kernel
theorem dX10_slept_93 : decode cX10_slept 93 = .ok (.iaload, 1) := by decide +kernel
theorem dX10_slept_94 : decode cX10_slept 94 = .ok (.if_icmp .ne 7, 3) := by decide +kernel
theorem dX10_slept_97 : decode cX10_slept 97 = .ok (.iconst 1, 1) := by decide +kernel
theorem dX10_slept_98 : decode cX10_slept 98 = .ok (.goto 4, 3) := by decide +kernel
theorem dX10_slept_101 : decode cX10_slept 101 = .ok (.iconst 0, 1) := by decide +kernel
theorem dX10_slept_102 : decode cX10_slept 102 = .ok (.istore_n 3, 1) := by decide +kernel
theorem dX10_slept_103 : decode cX10_slept 103 = .ok (.iinc 4 3, 3) := by decide +kernel
theorem dX10_slept_106 : decode cX10_slept 106 = .ok (.goto (-69), 3) := by decide +kernel
theorem dX10_slept_109 : decode cX10_slept 109 = .ok (.iload_n 1, 1) := by decide +kernel
theorem dX10_slept_110 : decode cX10_slept 110 = .ok (.iload_n 3, 1) := by decide +kernel
theorem dX10_slept_111 : decode cX10_slept 111 = .ok (.ifCond .eq 9, 3) := by decide +kernel
theorem dX10_slept_114 : decode cX10_slept 114 = .ok (.iconst 1, 1) := by decide +kernel
theorem dX10_slept_115 : decode cX10_slept 115 = .ok (.iload_n 2, 1) := by decide +kernel
theorem dX10_slept_116 : decode cX10_slept 116 = .ok (.ishl, 1) := by decide +kernel
theorem dX10_slept_117 : decode cX10_slept 117 = .ok (.goto 4, 3) := by decide +kernel
theorem dX10_slept_120 : decode cX10_slept 120 = .ok (.iconst 0, 1) := by decide +kernel
theorem dX10_slept_121 : decode cX10_slept 121 = .ok (.ior, 1) := by decide +kernel
theorem dX10_slept_122 : decode cX10_slept 122 = .ok (.istore_n 1, 1) := by decide +kernel
theorem dX10_slept_123 : decode cX10_slept 123 = .ok (.iinc 2 1, 3) := by decide +kernel
theorem dX10_slept_126 : decode cX10_slept 126 = .ok (.goto (-122), 3) := by decide +kernel
theorem dX10_slept_129 : decode cX10_slept 129 = .ok (.iload_n 1, 1) := by decide +kernel
theorem dX10_slept_130 : decode cX10_slept 130 = .ok (.ireturn, 1) := by decide +kernel
theorem dX10_greatestPart_0 : decode cX10_greatestPart 0 = .ok (.iconst 0, 1) := by decide +kernel
theorem dX10_greatestPart_1 : decode cX10_greatestPart 1 = .ok (.istore_n 3, 1) := by decide +kernel
theorem dX10_greatestPart_2 : decode cX10_greatestPart 2 = .ok (.iconst 0, 1) := by decide +kernel
theorem dX10_greatestPart_3 : decode cX10_greatestPart 3 = .ok (.istore 4, 2) := by decide +kernel
theorem dX10_greatestPart_5 : decode cX10_greatestPart 5 = .ok (.iload 4, 2) := by decide +kernel
theorem dX10_greatestPart_7 : decode cX10_greatestPart 7 = .ok (.aload_n 0, 1) := by decide +kernel
theorem dX10_greatestPart_8 : decode cX10_greatestPart 8 = .ok (.getfield 7, 3) := by decide +kernel
theorem dX10_greatestPart_11 : decode cX10_greatestPart 11 = .ok (.iconst 2, 1) := by decide +kernel
theorem dX10_greatestPart_12 : decode cX10_greatestPart 12 = .ok (.iaload, 1) := by decide +kernel
theorem dX10_greatestPart_13 : decode cX10_greatestPart 13 = .ok (.if_icmp .ge 96, 3) := by decide +kernel
theorem dX10_greatestPart_16 : decode cX10_greatestPart 16 = .ok (.iconst 0, 1) := by decide +kernel
theorem dX10_greatestPart_17 : decode cX10_greatestPart 17 = .ok (.istore 5, 2) := by decide +kernel
theorem dX10_greatestPart_19 : decode cX10_greatestPart 19 = .ok (.iconst 0, 1) := by decide +kernel
theorem dX10_greatestPart_20 : decode cX10_greatestPart 20 = .ok (.istore 6, 2) := by decide +kernel
theorem dX10_greatestPart_22 : decode cX10_greatestPart 22 = .ok (.iload 6, 2) := by decide +kernel
theorem dX10_greatestPart_24 : decode cX10_greatestPart 24 = .ok (.aload_n 0, 1) := by decide +kernel
theorem dX10_greatestPart_25 : decode cX10_greatestPart 25 = .ok (.getfield 7, 3) := by decide +kernel
theorem dX10_greatestPart_28 : decode cX10_greatestPart 28 = .ok (.iconst 2, 1) := by decide +kernel
theorem dX10_greatestPart_29 : decode cX10_greatestPart 29 = .ok (.iaload, 1) := by decide +kernel
theorem dX10_greatestPart_30 : decode cX10_greatestPart 30 = .ok (.if_icmp .ge 66, 3) := by decide +kernel
theorem dX10_greatestPart_33 : decode cX10_greatestPart 33 = .ok (.iload 5, 2) := by decide +kernel
theorem dX10_greatestPart_35 : decode cX10_greatestPart 35 = .ok (.iload_n 1, 1) := by decide +kernel
theorem dX10_greatestPart_36 : decode cX10_greatestPart 36 = .ok (.iload 4, 2) := by decide +kernel
theorem dX10_greatestPart_38 : decode cX10_greatestPart 38 = .ok (.invokestatic 208, 3) := by decide +kernel
theorem dX10_greatestPart_41 : decode cX10_greatestPart 41 = .ok (.ifCond .eq 45, 3) := by decide +kernel
theorem dX10_greatestPart_44 : decode cX10_greatestPart 44 = .ok (.iload_n 1, 1) := by decide +kernel
theorem dX10_greatestPart_45 : decode cX10_greatestPart 45 = .ok (.iload 6, 2) := by decide +kernel
theorem dX10_greatestPart_47 : decode cX10_greatestPart 47 = .ok (.invokestatic 208, 3) := by decide +kernel
theorem dX10_greatestPart_50 : decode cX10_greatestPart 50 = .ok (.ifCond .eq 36, 3) := by decide +kernel
theorem dX10_greatestPart_53 : decode cX10_greatestPart 53 = .ok (.aload_n 0, 1) := by decide +kernel
theorem dX10_greatestPart_54 : decode cX10_greatestPart 54 = .ok (.getfield 54, 3) := by decide +kernel
theorem dX10_greatestPart_57 : decode cX10_greatestPart 57 = .ok (.sipush 200, 3) := by decide +kernel
theorem dX10_greatestPart_60 : decode cX10_greatestPart 60 = .ok (.iload 4, 2) := by decide +kernel
theorem dX10_greatestPart_62 : decode cX10_greatestPart 62 = .ok (.imul, 1) := by decide +kernel
theorem dX10_greatestPart_63 : decode cX10_greatestPart 63 = .ok (.iload_n 2, 1) := by decide +kernel
theorem dX10_greatestPart_64 : decode cX10_greatestPart 64 = .ok (.iadd, 1) := by decide +kernel
theorem dX10_greatestPart_65 : decode cX10_greatestPart 65 = .ok (.iaload, 1) := by decide +kernel
theorem dX10_greatestPart_66 : decode cX10_greatestPart 66 = .ok (.aload_n 0, 1) := by decide +kernel
theorem dX10_greatestPart_67 : decode cX10_greatestPart 67 = .ok (.getfield 54, 3) := by decide +kernel
theorem dX10_greatestPart_70 : decode cX10_greatestPart 70 = .ok (.sipush 200, 3) := by decide +kernel
theorem dX10_greatestPart_73 : decode cX10_greatestPart 73 = .ok (.iload 6, 2) := by decide +kernel
theorem dX10_greatestPart_75 : decode cX10_greatestPart 75 = .ok (.imul, 1) := by decide +kernel
theorem dX10_greatestPart_76 : decode cX10_greatestPart 76 = .ok (.iload_n 2, 1) := by decide +kernel
theorem dX10_greatestPart_77 : decode cX10_greatestPart 77 = .ok (.iadd, 1) := by decide +kernel
theorem dX10_greatestPart_78 : decode cX10_greatestPart 78 = .ok (.iaload, 1) := by decide +kernel
theorem dX10_greatestPart_79 : decode cX10_greatestPart 79 = .ok (.if_icmp .ne 7, 3) := by decide +kernel
theorem dX10_greatestPart_82 : decode cX10_greatestPart 82 = .ok (.iconst 1, 1) := by decide +kernel
theorem dX10_greatestPart_83 : decode cX10_greatestPart 83 = .ok (.goto 4, 3) := by decide +kernel
theorem dX10_greatestPart_86 : decode cX10_greatestPart 86 = .ok (.iconst 0, 1) := by decide +kernel
theorem dX10_greatestPart_87 : decode cX10_greatestPart 87 = .ok (.iadd, 1) := by decide +kernel
theorem dX10_greatestPart_88 : decode cX10_greatestPart 88 = .ok (.istore 5, 2) := by decide +kernel
theorem dX10_greatestPart_90 : decode cX10_greatestPart 90 = .ok (.iinc 6 1, 3) := by decide +kernel
theorem dX10_greatestPart_93 : decode cX10_greatestPart 93 = .ok (.goto (-71), 3) := by decide +kernel
theorem dX10_greatestPart_96 : decode cX10_greatestPart 96 = .ok (.iload_n 3, 1) := by decide +kernel
theorem dX10_greatestPart_97 : decode cX10_greatestPart 97 = .ok (.iload 5, 2) := by decide +kernel
theorem dX10_greatestPart_99 : decode cX10_greatestPart 99 = .ok (.invokestatic 147, 3) := by decide +kernel
theorem dX10_greatestPart_102 : decode cX10_greatestPart 102 = .ok (.istore_n 3, 1) := by decide +kernel
theorem dX10_greatestPart_103 : decode cX10_greatestPart 103 = .ok (.iinc 4 1, 3) := by decide +kernel
theorem dX10_greatestPart_106 : decode cX10_greatestPart 106 = .ok (.goto (-101), 3) := by decide +kernel
theorem dX10_greatestPart_109 : decode cX10_greatestPart 109 = .ok (.iload_n 3, 1) := by decide +kernel
theorem dX10_greatestPart_110 : decode cX10_greatestPart 110 = .ok (.ireturn, 1) := by decide +kernel
theorem dX10_look_0 : decode cX10_look 0 = .ok (.aload_n 0, 1) := by decide +kernel
theorem dX10_look_1 : decode cX10_look 1 = .ok (.invokevirtual 182, 3) := by decide +kernel
theorem dX10_look_4 : decode cX10_look 4 = .ok (.istore_n 1, 1) := by decide +kernel
theorem dX10_look_5 : decode cX10_look 5 = .ok (.iload_n 1, 1) := by decide +kernel
theorem dX10_look_6 : decode cX10_look 6 = .ok (.invokestatic 293, 3) := by decide +kernel
theorem dX10_look_9 : decode cX10_look 9 = .ok (.istore_n 2, 1) := by decide +kernel
theorem dX10_look_10 : decode cX10_look 10 = .ok (.iconst (-1), 1) := by decide +kernel
theorem dX10_look_11 : decode cX10_look 11 = .ok (.istore_n 3, 1) := by decide +kernel
theorem dX10_look_12 : decode cX10_look 12 = .ok (.iconst 0, 1) := by decide +kernel
theorem dX10_look_13 : decode cX10_look 13 = .ok (.istore 4, 2) := by decide +kernel
theorem dX10_look_15 : decode cX10_look 15 = .ok (.iload 4, 2) := by decide +kernel
theorem dX10_look_17 : decode cX10_look 17 = .ok (.aload_n 0, 1) := by decide +kernel
theorem dX10_look_18 : decode cX10_look 18 = .ok (.getfield 7, 3) := by decide +kernel
theorem dX10_look_21 : decode cX10_look 21 = .ok (.iconst 0, 1) := by decide +kernel
theorem dX10_look_22 : decode cX10_look 22 = .ok (.iaload, 1) := by decide +kernel
theorem dX10_look_23 : decode cX10_look 23 = .ok (.if_icmp .ge 68, 3) := by decide +kernel
theorem dX10_look_26 : decode cX10_look 26 = .ok (.iconst 1, 1) := by decide +kernel
theorem dX10_look_27 : decode cX10_look 27 = .ok (.istore 5, 2) := by decide +kernel
theorem dX10_look_29 : decode cX10_look 29 = .ok (.iload 5, 2) := by decide +kernel
theorem dX10_look_31 : decode cX10_look 31 = .ok (.bipush 21, 2) := by decide +kernel
theorem dX10_look_33 : decode cX10_look 33 = .ok (.if_icmp .ge 52, 3) := by decide +kernel
theorem dX10_look_36 : decode cX10_look 36 = .ok (.aload_n 0, 1) := by decide +kernel
theorem dX10_look_37 : decode cX10_look 37 = .ok (.iload_n 1, 1) := by decide +kernel
theorem dX10_look_38 : decode cX10_look 38 = .ok (.bipush 10, 2) := by decide +kernel
theorem dX10_look_40 : decode cX10_look 40 = .ok (.iload 5, 2) := by decide +kernel
theorem dX10_look_42 : decode cX10_look 42 = .ok (.iconst 1, 1) := by decide +kernel
theorem dX10_look_43 : decode cX10_look 43 = .ok (.isub, 1) := by decide +kernel
theorem dX10_look_44 : decode cX10_look 44 = .ok (.imul, 1) := by decide +kernel
theorem dX10_look_45 : decode cX10_look 45 = .ok (.iload 4, 2) := by decide +kernel
theorem dX10_look_47 : decode cX10_look 47 = .ok (.iadd, 1) := by decide +kernel
theorem dX10_look_48 : decode cX10_look 48 = .ok (.invokevirtual 296, 3) := by decide +kernel
theorem dX10_look_51 : decode cX10_look 51 = .ok (.istore 6, 2) := by decide +kernel
theorem dX10_look_53 : decode cX10_look 53 = .ok (.iload 6, 2) := by decide +kernel
theorem dX10_look_55 : decode cX10_look 55 = .ok (.iload_n 2, 1) := by decide +kernel
theorem dX10_look_56 : decode cX10_look 56 = .ok (.if_icmp .ge 14, 3) := by decide +kernel
theorem dX10_look_59 : decode cX10_look 59 = .ok (.bipush 100, 2) := by decide +kernel
theorem dX10_look_61 : decode cX10_look 61 = .ok (.iload 4, 2) := by decide +kernel
theorem dX10_look_63 : decode cX10_look 63 = .ok (.imul, 1) := by decide +kernel
theorem dX10_look_64 : decode cX10_look 64 = .ok (.iload 5, 2) := by decide +kernel
theorem dX10_look_66 : decode cX10_look 66 = .ok (.iadd, 1) := by decide +kernel
theorem dX10_look_67 : decode cX10_look 67 = .ok (.goto 4, 3) := by decide +kernel
theorem dX10_look_70 : decode cX10_look 70 = .ok (.iload_n 3, 1) := by decide +kernel
theorem dX10_look_71 : decode cX10_look 71 = .ok (.istore_n 3, 1) := by decide +kernel
theorem dX10_look_72 : decode cX10_look 72 = .ok (.iload 6, 2) := by decide +kernel
theorem dX10_look_74 : decode cX10_look 74 = .ok (.iload_n 2, 1) := by decide +kernel
theorem dX10_look_75 : decode cX10_look 75 = .ok (.invokestatic 212, 3) := by decide +kernel
theorem dX10_look_78 : decode cX10_look 78 = .ok (.istore_n 2, 1) := by decide +kernel
theorem dX10_look_79 : decode cX10_look 79 = .ok (.iinc 5 1, 3) := by decide +kernel
theorem dX10_look_82 : decode cX10_look 82 = .ok (.goto (-53), 3) := by decide +kernel
theorem dX10_look_85 : decode cX10_look 85 = .ok (.iinc 4 1, 3) := by decide +kernel
theorem dX10_look_88 : decode cX10_look 88 = .ok (.goto (-73), 3) := by decide +kernel
theorem dX10_look_91 : decode cX10_look 91 = .ok (.iload_n 3, 1) := by decide +kernel
theorem dX10_look_92 : decode cX10_look 92 = .ok (.ireturn, 1) := by decide +kernel
theorem dX10_see_0 : decode cX10_see 0 = .ok (.iload_n 1, 1) := by decide +kernel
theorem dX10_see_1 : decode cX10_see 1 = .ok (.i2l, 1) := by decide +kernel
theorem dX10_see_2 : decode cX10_see 2 = .ok (.lconst 0, 1) := by decide +kernel
theorem dX10_see_3 : decode cX10_see 3 = .ok (.ldc2_w 235, 3) := by decide +kernel
theorem dX10_see_6 : decode cX10_see 6 = .ok (.invokestatic 64, 3) := by decide +kernel
theorem dX10_see_9 : decode cX10_see 9 = .ok (.ifCond .eq 27, 3) := by decide +kernel
theorem dX10_see_12 : decode cX10_see 12 = .ok (.iload_n 2, 1) := by decide +kernel
theorem dX10_see_13 : decode cX10_see 13 = .ok (.i2l, 1) := by decide +kernel
theorem dX10_see_14 : decode cX10_see 14 = .ok (.lconst 0, 1) := by decide +kernel
theorem dX10_see_15 : decode cX10_see 15 = .ok (.ldc2_w 299, 3) := by decide +kernel
theorem dX10_see_18 : decode cX10_see 18 = .ok (.invokestatic 64, 3) := by decide +kernel
theorem dX10_see_21 : decode cX10_see 21 = .ok (.ifCond .eq 15, 3) := by decide +kernel
theorem dX10_see_24 : decode cX10_see 24 = .ok (.iload_n 3, 1) := by decide +kernel
theorem dX10_see_25 : decode cX10_see 25 = .ok (.i2l, 1) := by decide +kernel
theorem dX10_see_26 : decode cX10_see 26 = .ok (.lconst 0, 1) := by decide +kernel
theorem dX10_see_27 : decode cX10_see 27 = .ok (.ldc2_w 235, 3) := by decide +kernel
theorem dX10_see_30 : decode cX10_see 30 = .ok (.invokestatic 64, 3) := by decide +kernel
theorem dX10_see_33 : decode cX10_see 33 = .ok (.ifCond .ne 6, 3) := by decide +kernel
theorem dX10_see_36 : decode cX10_see 36 = .ok (.ldc 86, 2) := by decide +kernel
theorem dX10_see_38 : decode cX10_see 38 = .ok (.ireturn, 1) := by decide +kernel
theorem dX10_see_39 : decode cX10_see 39 = .ok (.aload_n 0, 1) := by decide +kernel
theorem dX10_see_40 : decode cX10_see 40 = .ok (.getfield 78, 3) := by decide +kernel
theorem dX10_see_43 : decode cX10_see 43 = .ok (.bipush 6, 2) := by decide +kernel
theorem dX10_see_45 : decode cX10_see 45 = .ok (.if_icmp .ne 6, 3) := by decide +kernel
theorem dX10_see_48 : decode cX10_see 48 = .ok (.ldc 90, 2) := by decide +kernel
theorem dX10_see_50 : decode cX10_see 50 = .ok (.ireturn, 1) := by decide +kernel
theorem dX10_see_51 : decode cX10_see 51 = .ok (.aload_n 0, 1) := by decide +kernel
theorem dX10_see_52 : decode cX10_see 52 = .ok (.getfield 42, 3) := by decide +kernel
theorem dX10_see_55 : decode cX10_see 55 = .ok (.iconst 3, 1) := by decide +kernel
theorem dX10_see_56 : decode cX10_see 56 = .ok (.aload_n 0, 1) := by decide +kernel
theorem dX10_see_57 : decode cX10_see 57 = .ok (.getfield 78, 3) := by decide +kernel
theorem dX10_see_60 : decode cX10_see 60 = .ok (.imul, 1) := by decide +kernel
theorem dX10_see_61 : decode cX10_see 61 = .ok (.iload_n 1, 1) := by decide +kernel
theorem dX10_see_62 : decode cX10_see 62 = .ok (.iastore, 1) := by decide +kernel
theorem dX10_see_63 : decode cX10_see 63 = .ok (.aload_n 0, 1) := by decide +kernel
theorem dX10_see_64 : decode cX10_see 64 = .ok (.getfield 42, 3) := by decide +kernel
theorem dX10_see_67 : decode cX10_see 67 = .ok (.iconst 3, 1) := by decide +kernel
theorem dX10_see_68 : decode cX10_see 68 = .ok (.aload_n 0, 1) := by decide +kernel
theorem dX10_see_69 : decode cX10_see 69 = .ok (.getfield 78, 3) := by decide +kernel
theorem dX10_see_72 : decode cX10_see 72 = .ok (.imul, 1) := by decide +kernel
theorem dX10_see_73 : decode cX10_see 73 = .ok (.iconst 1, 1) := by decide +kernel
theorem dX10_see_74 : decode cX10_see 74 = .ok (.iadd, 1) := by decide +kernel
theorem dX10_see_75 : decode cX10_see 75 = .ok (.iload_n 2, 1) := by decide +kernel
theorem dX10_see_76 : decode cX10_see 76 = .ok (.iastore, 1) := by decide +kernel
theorem dX10_see_77 : decode cX10_see 77 = .ok (.aload_n 0, 1) := by decide +kernel
theorem dX10_see_78 : decode cX10_see 78 = .ok (.getfield 42, 3) := by decide +kernel
theorem dX10_see_81 : decode cX10_see 81 = .ok (.iconst 3, 1) := by decide +kernel
theorem dX10_see_82 : decode cX10_see 82 = .ok (.aload_n 0, 1) := by decide +kernel
theorem dX10_see_83 : decode cX10_see 83 = .ok (.getfield 78, 3) := by decide +kernel
theorem dX10_see_86 : decode cX10_see 86 = .ok (.imul, 1) := by decide +kernel
theorem dX10_see_87 : decode cX10_see 87 = .ok (.iconst 2, 1) := by decide +kernel
theorem dX10_see_88 : decode cX10_see 88 = .ok (.iadd, 1) := by decide +kernel
theorem dX10_see_89 : decode cX10_see 89 = .ok (.iload_n 3, 1) := by decide +kernel
theorem dX10_see_90 : decode cX10_see 90 = .ok (.iastore, 1) := by decide +kernel
theorem dX10_see_91 : decode cX10_see 91 = .ok (.aload_n 0, 1) := by decide +kernel
theorem dX10_see_92 : decode cX10_see 92 = .ok (.dup, 1) := by decide +kernel
theorem dX10_see_93 : decode cX10_see 93 = .ok (.getfield 78, 3) := by decide +kernel
theorem dX10_see_96 : decode cX10_see 96 = .ok (.iconst 1, 1) := by decide +kernel
theorem dX10_see_97 : decode cX10_see 97 = .ok (.iadd, 1) := by decide +kernel
theorem dX10_see_98 : decode cX10_see 98 = .ok (.putfield 78, 3) := by decide +kernel
theorem dX10_see_101 : decode cX10_see 101 = .ok (.aload_n 0, 1) := by decide +kernel
theorem dX10_see_102 : decode cX10_see 102 = .ok (.getfield 78, 3) := by decide +kernel
theorem dX10_see_105 : decode cX10_see 105 = .ok (.ireturn, 1) := by decide +kernel
theorem dX10_write_0 : decode cX10_write 0 = .ok (.aload_n 0, 1) := by decide +kernel
theorem dX10_write_1 : decode cX10_write 1 = .ok (.iload_n 1, 1) := by decide +kernel
theorem dX10_write_2 : decode cX10_write 2 = .ok (.invokevirtual 188, 3) := by decide +kernel
theorem dX10_write_5 : decode cX10_write 5 = .ok (.ifCond .ne 6, 3) := by decide +kernel
theorem dX10_write_8 : decode cX10_write 8 = .ok (.ldc 191, 2) := by decide +kernel
theorem dX10_write_10 : decode cX10_write 10 = .ok (.ireturn, 1) := by decide +kernel
theorem dX10_write_11 : decode cX10_write 11 = .ok (.iload_n 2, 1) := by decide +kernel
theorem dX10_write_12 : decode cX10_write 12 = .ok (.i2l, 1) := by decide +kernel
theorem dX10_write_13 : decode cX10_write 13 = .ok (.lconst 0, 1) := by decide +kernel
theorem dX10_write_14 : decode cX10_write 14 = .ok (.ldc2_w 282, 3) := by decide +kernel
theorem dX10_write_17 : decode cX10_write 17 = .ok (.invokestatic 64, 3) := by decide +kernel
theorem dX10_write_20 : decode cX10_write 20 = .ok (.ifCond .ne 6, 3) := by decide +kernel
theorem dX10_write_23 : decode cX10_write 23 = .ok (.ldc 86, 2) := by decide +kernel
theorem dX10_write_25 : decode cX10_write 25 = .ok (.ireturn, 1) := by decide +kernel
theorem dX10_write_26 : decode cX10_write 26 = .ok (.aload_n 0, 1) := by decide +kernel
theorem dX10_write_27 : decode cX10_write 27 = .ok (.getfield 81, 3) := by decide +kernel
theorem dX10_write_30 : decode cX10_write 30 = .ok (.bipush 15, 2) := by decide +kernel
theorem dX10_write_32 : decode cX10_write 32 = .ok (.if_icmp .ne 6, 3) := by decide +kernel
theorem dX10_write_35 : decode cX10_write 35 = .ok (.ldc 90, 2) := by decide +kernel
theorem dX10_write_37 : decode cX10_write 37 = .ok (.ireturn, 1) := by decide +kernel
theorem dX10_write_38 : decode cX10_write 38 = .ok (.aload_n 0, 1) := by decide +kernel
theorem dX10_write_39 : decode cX10_write 39 = .ok (.getfield 45, 3) := by decide +kernel
theorem dX10_write_42 : decode cX10_write 42 = .ok (.iconst 2, 1) := by decide +kernel
theorem dX10_write_43 : decode cX10_write 43 = .ok (.aload_n 0, 1) := by decide +kernel
theorem dX10_write_44 : decode cX10_write 44 = .ok (.getfield 81, 3) := by decide +kernel
theorem dX10_write_47 : decode cX10_write 47 = .ok (.imul, 1) := by decide +kernel
theorem dX10_write_48 : decode cX10_write 48 = .ok (.iload_n 1, 1) := by decide +kernel
theorem dX10_write_49 : decode cX10_write 49 = .ok (.iastore, 1) := by decide +kernel
theorem dX10_write_50 : decode cX10_write 50 = .ok (.aload_n 0, 1) := by decide +kernel
theorem dX10_write_51 : decode cX10_write 51 = .ok (.getfield 45, 3) := by decide +kernel
theorem dX10_write_54 : decode cX10_write 54 = .ok (.iconst 2, 1) := by decide +kernel
theorem dX10_write_55 : decode cX10_write 55 = .ok (.aload_n 0, 1) := by decide +kernel
theorem dX10_write_56 : decode cX10_write 56 = .ok (.getfield 81, 3) := by decide +kernel
theorem dX10_write_59 : decode cX10_write 59 = .ok (.imul, 1) := by decide +kernel
theorem dX10_write_60 : decode cX10_write 60 = .ok (.iconst 1, 1) := by decide +kernel
theorem dX10_write_61 : decode cX10_write 61 = .ok (.iadd, 1) := by decide +kernel
theorem dX10_write_62 : decode cX10_write 62 = .ok (.iload_n 2, 1) := by decide +kernel
theorem dX10_write_63 : decode cX10_write 63 = .ok (.iastore, 1) := by decide +kernel
theorem dX10_write_64 : decode cX10_write 64 = .ok (.aload_n 0, 1) := by decide +kernel
theorem dX10_write_65 : decode cX10_write 65 = .ok (.dup, 1) := by decide +kernel
theorem dX10_write_66 : decode cX10_write 66 = .ok (.getfield 81, 3) := by decide +kernel
theorem dX10_write_69 : decode cX10_write 69 = .ok (.iconst 1, 1) := by decide +kernel
theorem dX10_write_70 : decode cX10_write 70 = .ok (.iadd, 1) := by decide +kernel
theorem dX10_write_71 : decode cX10_write 71 = .ok (.putfield 81, 3) := by decide +kernel
theorem dX10_write_74 : decode cX10_write 74 = .ok (.aload_n 0, 1) := by decide +kernel
theorem dX10_write_75 : decode cX10_write 75 = .ok (.getfield 81, 3) := by decide +kernel
theorem dX10_write_78 : decode cX10_write 78 = .ok (.ireturn, 1) := by decide +kernel
theorem dX10_tear_0 : decode cX10_tear 0 = .ok (.aload_n 0, 1) := by decide +kernel
theorem dX10_tear_1 : decode cX10_tear 1 = .ok (.getfield 75, 3) := by decide +kernel
theorem dX10_tear_4 : decode cX10_tear 4 = .ok (.aload_n 0, 1) := by decide +kernel
theorem dX10_tear_5 : decode cX10_tear 5 = .ok (.getfield 78, 3) := by decide +kernel
theorem dX10_tear_8 : decode cX10_tear 8 = .ok (.iadd, 1) := by decide +kernel
theorem dX10_tear_9 : decode cX10_tear 9 = .ok (.aload_n 0, 1) := by decide +kernel
theorem dX10_tear_10 : decode cX10_tear 10 = .ok (.getfield 81, 3) := by decide +kernel
theorem dX10_tear_13 : decode cX10_tear 13 = .ok (.iadd, 1) := by decide +kernel
theorem dX10_tear_14 : decode cX10_tear 14 = .ok (.istore_n 1, 1) := by decide +kernel
theorem dX10_tear_15 : decode cX10_tear 15 = .ok (.aload_n 0, 1) := by decide +kernel
theorem dX10_tear_16 : decode cX10_tear 16 = .ok (.iconst 0, 1) := by decide +kernel
theorem dX10_tear_17 : decode cX10_tear 17 = .ok (.putfield 75, 3) := by decide +kernel
theorem dX10_tear_20 : decode cX10_tear 20 = .ok (.aload_n 0, 1) := by decide +kernel
theorem dX10_tear_21 : decode cX10_tear 21 = .ok (.iconst 0, 1) := by decide +kernel
theorem dX10_tear_22 : decode cX10_tear 22 = .ok (.putfield 78, 3) := by decide +kernel
theorem dX10_tear_25 : decode cX10_tear 25 = .ok (.aload_n 0, 1) := by decide +kernel
theorem dX10_tear_26 : decode cX10_tear 26 = .ok (.iconst 0, 1) := by decide +kernel
theorem dX10_tear_27 : decode cX10_tear 27 = .ok (.putfield 81, 3) := by decide +kernel
theorem dX10_tear_30 : decode cX10_tear 30 = .ok (.iload_n 1, 1) := by decide +kernel
theorem dX10_tear_31 : decode cX10_tear 31 = .ok (.ireturn, 1) := by decide +kernel
theorem dX10_judge_0 : decode cX10_judge 0 = .ok (.iconst 0, 1) := by decide +kernel
theorem dX10_judge_1 : decode cX10_judge 1 = .ok (.istore_n 1, 1) := by decide +kernel
theorem dX10_judge_2 : decode cX10_judge 2 = .ok (.iload_n 1, 1) := by decide +kernel
theorem dX10_judge_3 : decode cX10_judge 3 = .ok (.aload_n 0, 1) := by decide +kernel
theorem dX10_judge_4 : decode cX10_judge 4 = .ok (.getfield 81, 3) := by decide +kernel
theorem dX10_judge_7 : decode cX10_judge 7 = .ok (.if_icmp .ge 40, 3) := by decide +kernel
theorem dX10_judge_10 : decode cX10_judge 10 = .ok (.aload_n 0, 1) := by decide +kernel
theorem dX10_judge_11 : decode cX10_judge 11 = .ok (.aload_n 0, 1) := by decide +kernel
theorem dX10_judge_12 : decode cX10_judge 12 = .ok (.getfield 16, 3) := by decide +kernel
theorem dX10_judge_15 : decode cX10_judge 15 = .ok (.aload_n 0, 1) := by decide +kernel
theorem dX10_judge_16 : decode cX10_judge 16 = .ok (.getfield 45, 3) := by decide +kernel
theorem dX10_judge_19 : decode cX10_judge 19 = .ok (.iconst 2, 1) := by decide +kernel
theorem dX10_judge_20 : decode cX10_judge 20 = .ok (.iload_n 1, 1) := by decide +kernel
theorem dX10_judge_21 : decode cX10_judge 21 = .ok (.imul, 1) := by decide +kernel
theorem dX10_judge_22 : decode cX10_judge 22 = .ok (.iaload, 1) := by decide +kernel
theorem dX10_judge_23 : decode cX10_judge 23 = .ok (.invokevirtual 155, 3) := by decide +kernel
theorem dX10_judge_26 : decode cX10_judge 26 = .ok (.aload_n 0, 1) := by decide +kernel
theorem dX10_judge_27 : decode cX10_judge 27 = .ok (.getfield 45, 3) := by decide +kernel
theorem dX10_judge_30 : decode cX10_judge 30 = .ok (.iconst 2, 1) := by decide +kernel
theorem dX10_judge_31 : decode cX10_judge 31 = .ok (.iload_n 1, 1) := by decide +kernel
theorem dX10_judge_32 : decode cX10_judge 32 = .ok (.imul, 1) := by decide +kernel
theorem dX10_judge_33 : decode cX10_judge 33 = .ok (.iconst 1, 1) := by decide +kernel
theorem dX10_judge_34 : decode cX10_judge 34 = .ok (.iadd, 1) := by decide +kernel
theorem dX10_judge_35 : decode cX10_judge 35 = .ok (.iaload, 1) := by decide +kernel
theorem dX10_judge_36 : decode cX10_judge 36 = .ok (.if_icmp .eq 5, 3) := by decide +kernel
theorem dX10_judge_39 : decode cX10_judge 39 = .ok (.iload_n 1, 1) := by decide +kernel
theorem dX10_judge_40 : decode cX10_judge 40 = .ok (.ireturn, 1) := by decide +kernel
theorem dX10_judge_41 : decode cX10_judge 41 = .ok (.iinc 1 1, 3) := by decide +kernel
theorem dX10_judge_44 : decode cX10_judge 44 = .ok (.goto (-42), 3) := by decide +kernel
theorem dX10_judge_47 : decode cX10_judge 47 = .ok (.iconst (-1), 1) := by decide +kernel
theorem dX10_judge_48 : decode cX10_judge 48 = .ok (.ireturn, 1) := by decide +kernel
theorem dX10_seed_0 : decode cX10_seed 0 = .ok (.iload_n 1, 1) := by decide +kernel
theorem dX10_seed_1 : decode cX10_seed 1 = .ok (.ifCond .ge 6, 3) := by decide +kernel
theorem dX10_seed_4 : decode cX10_seed 4 = .ok (.ldc 86, 2) := by decide +kernel
theorem dX10_seed_6 : decode cX10_seed 6 = .ok (.ireturn, 1) := by decide +kernel
theorem dX10_seed_7 : decode cX10_seed 7 = .ok (.aload_n 0, 1) := by decide +kernel
theorem dX10_seed_8 : decode cX10_seed 8 = .ok (.getfield 237, 3) := by decide +kernel
theorem dX10_seed_11 : decode cX10_seed 11 = .ok (.l2i, 1) := by decide +kernel
theorem dX10_seed_12 : decode cX10_seed 12 = .ok (.istore_n 2, 1) := by decide +kernel
theorem dX10_seed_13 : decode cX10_seed 13 = .ok (.aload_n 0, 1) := by decide +kernel
theorem dX10_seed_14 : decode cX10_seed 14 = .ok (.iload_n 1, 1) := by decide +kernel
theorem dX10_seed_15 : decode cX10_seed 15 = .ok (.i2l, 1) := by decide +kernel
theorem dX10_seed_16 : decode cX10_seed 16 = .ok (.putfield 237, 3) := by decide +kernel
theorem dX10_seed_19 : decode cX10_seed 19 = .ok (.iload_n 2, 1) := by decide +kernel
theorem dX10_seed_20 : decode cX10_seed 20 = .ok (.ireturn, 1) := by decide +kernel
theorem dX10_keep_0 : decode cX10_keep 0 = .ok (.iload_n 1, 1) := by decide +kernel
theorem dX10_keep_1 : decode cX10_keep 1 = .ok (.i2l, 1) := by decide +kernel
theorem dX10_keep_2 : decode cX10_keep 2 = .ok (.lconst 0, 1) := by decide +kernel
theorem dX10_keep_3 : decode cX10_keep 3 = .ok (.lconst 1, 1) := by decide +kernel
theorem dX10_keep_4 : decode cX10_keep 4 = .ok (.invokestatic 64, 3) := by decide +kernel
theorem dX10_keep_7 : decode cX10_keep 7 = .ok (.ifCond .ne 6, 3) := by decide +kernel
theorem dX10_keep_10 : decode cX10_keep 10 = .ok (.ldc 191, 2) := by decide +kernel
theorem dX10_keep_12 : decode cX10_keep 12 = .ok (.ireturn, 1) := by decide +kernel
theorem dX10_keep_13 : decode cX10_keep 13 = .ok (.aload_n 0, 1) := by decide +kernel
theorem dX10_keep_14 : decode cX10_keep 14 = .ok (.getfield 16, 3) := by decide +kernel
theorem dX10_keep_17 : decode cX10_keep 17 = .ok (.iconst 0, 1) := by decide +kernel
theorem dX10_keep_18 : decode cX10_keep 18 = .ok (.aload_n 0, 1) := by decide +kernel
theorem dX10_keep_19 : decode cX10_keep 19 = .ok (.getfield 25, 3) := by decide +kernel
theorem dX10_keep_22 : decode cX10_keep 22 = .ok (.bipush 25, 2) := by decide +kernel
theorem dX10_keep_24 : decode cX10_keep 24 = .ok (.iload_n 1, 1) := by decide +kernel
theorem dX10_keep_25 : decode cX10_keep 25 = .ok (.imul, 1) := by decide +kernel
theorem dX10_keep_26 : decode cX10_keep 26 = .ok (.bipush 24, 2) := by decide +kernel
theorem dX10_keep_28 : decode cX10_keep 28 = .ok (.invokestatic 68, 3) := by decide +kernel
theorem dX10_keep_31 : decode cX10_keep 31 = .ok (.aload_n 0, 1) := by decide +kernel
theorem dX10_keep_32 : decode cX10_keep 32 = .ok (.getfield 25, 3) := by decide +kernel
theorem dX10_keep_35 : decode cX10_keep 35 = .ok (.bipush 25, 2) := by decide +kernel
theorem dX10_keep_37 : decode cX10_keep 37 = .ok (.iload_n 1, 1) := by decide +kernel
theorem dX10_keep_38 : decode cX10_keep 38 = .ok (.imul, 1) := by decide +kernel
theorem dX10_keep_39 : decode cX10_keep 39 = .ok (.bipush 24, 2) := by decide +kernel
theorem dX10_keep_41 : decode cX10_keep 41 = .ok (.iadd, 1) := by decide +kernel
theorem dX10_keep_42 : decode cX10_keep 42 = .ok (.aload_n 0, 1) := by decide +kernel
theorem dX10_keep_43 : decode cX10_keep 43 = .ok (.getfield 237, 3) := by decide +kernel
theorem dX10_keep_46 : decode cX10_keep 46 = .ok (.l2i, 1) := by decide +kernel
theorem dX10_keep_47 : decode cX10_keep 47 = .ok (.iastore, 1) := by decide +kernel
theorem dX10_keep_48 : decode cX10_keep 48 = .ok (.aload_n 0, 1) := by decide +kernel
theorem dX10_keep_49 : decode cX10_keep 49 = .ok (.getfield 28, 3) := by decide +kernel
theorem dX10_keep_52 : decode cX10_keep 52 = .ok (.iload_n 1, 1) := by decide +kernel
theorem dX10_keep_53 : decode cX10_keep 53 = .ok (.iconst 1, 1) := by decide +kernel
theorem dX10_keep_54 : decode cX10_keep 54 = .ok (.bastore, 1) := by decide +kernel
theorem dX10_keep_55 : decode cX10_keep 55 = .ok (.aload_n 0, 1) := by decide +kernel
theorem dX10_keep_56 : decode cX10_keep 56 = .ok (.iconst 0, 1) := by decide +kernel
theorem dX10_keep_57 : decode cX10_keep 57 = .ok (.putfield 72, 3) := by decide +kernel
theorem dX10_keep_60 : decode cX10_keep 60 = .ok (.iconst 1, 1) := by decide +kernel
theorem dX10_keep_61 : decode cX10_keep 61 = .ok (.ireturn, 1) := by decide +kernel
theorem dX10_goBack_0 : decode cX10_goBack 0 = .ok (.iload_n 1, 1) := by decide +kernel
theorem dX10_goBack_1 : decode cX10_goBack 1 = .ok (.i2l, 1) := by decide +kernel
theorem dX10_goBack_2 : decode cX10_goBack 2 = .ok (.lconst 0, 1) := by decide +kernel
theorem dX10_goBack_3 : decode cX10_goBack 3 = .ok (.lconst 1, 1) := by decide +kernel
theorem dX10_goBack_4 : decode cX10_goBack 4 = .ok (.invokestatic 64, 3) := by decide +kernel
theorem dX10_goBack_7 : decode cX10_goBack 7 = .ok (.ifCond .ne 6, 3) := by decide +kernel
theorem dX10_goBack_10 : decode cX10_goBack 10 = .ok (.ldc 191, 2) := by decide +kernel
theorem dX10_goBack_12 : decode cX10_goBack 12 = .ok (.ireturn, 1) := by decide +kernel
theorem dX10_goBack_13 : decode cX10_goBack 13 = .ok (.aload_n 0, 1) := by decide +kernel
theorem dX10_goBack_14 : decode cX10_goBack 14 = .ok (.getfield 28, 3) := by decide +kernel
theorem dX10_goBack_17 : decode cX10_goBack 17 = .ok (.iload_n 1, 1) := by decide +kernel
theorem dX10_goBack_18 : decode cX10_goBack 18 = .ok (.baload, 1) := by decide +kernel
theorem dX10_goBack_19 : decode cX10_goBack 19 = .ok (.ifCond .ne 6, 3) := by decide +kernel
theorem dX10_goBack_22 : decode cX10_goBack 22 = .ok (.ldc 221, 2) := by decide +kernel
theorem dX10_goBack_24 : decode cX10_goBack 24 = .ok (.ireturn, 1) := by decide +kernel
theorem dX10_goBack_25 : decode cX10_goBack 25 = .ok (.aload_n 0, 1) := by decide +kernel
theorem dX10_goBack_26 : decode cX10_goBack 26 = .ok (.getfield 25, 3) := by decide +kernel
theorem dX10_goBack_29 : decode cX10_goBack 29 = .ok (.bipush 25, 2) := by decide +kernel
theorem dX10_goBack_31 : decode cX10_goBack 31 = .ok (.iload_n 1, 1) := by decide +kernel
theorem dX10_goBack_32 : decode cX10_goBack 32 = .ok (.imul, 1) := by decide +kernel
theorem dX10_goBack_33 : decode cX10_goBack 33 = .ok (.aload_n 0, 1) := by decide +kernel
theorem dX10_goBack_34 : decode cX10_goBack 34 = .ok (.getfield 16, 3) := by decide +kernel
theorem dX10_goBack_37 : decode cX10_goBack 37 = .ok (.iconst 0, 1) := by decide +kernel
theorem dX10_goBack_38 : decode cX10_goBack 38 = .ok (.bipush 24, 2) := by decide +kernel
theorem dX10_goBack_40 : decode cX10_goBack 40 = .ok (.invokestatic 68, 3) := by decide +kernel
theorem dX10_goBack_43 : decode cX10_goBack 43 = .ok (.aload_n 0, 1) := by decide +kernel
theorem dX10_goBack_44 : decode cX10_goBack 44 = .ok (.aload_n 0, 1) := by decide +kernel
theorem dX10_goBack_45 : decode cX10_goBack 45 = .ok (.getfield 25, 3) := by decide +kernel
theorem dX10_goBack_48 : decode cX10_goBack 48 = .ok (.bipush 25, 2) := by decide +kernel
theorem dX10_goBack_50 : decode cX10_goBack 50 = .ok (.iload_n 1, 1) := by decide +kernel
theorem dX10_goBack_51 : decode cX10_goBack 51 = .ok (.imul, 1) := by decide +kernel
theorem dX10_goBack_52 : decode cX10_goBack 52 = .ok (.bipush 24, 2) := by decide +kernel
theorem dX10_goBack_54 : decode cX10_goBack 54 = .ok (.iadd, 1) := by decide +kernel
theorem dX10_goBack_55 : decode cX10_goBack 55 = .ok (.iaload, 1) := by decide +kernel
theorem dX10_goBack_56 : decode cX10_goBack 56 = .ok (.i2l, 1) := by decide +kernel
theorem dX10_goBack_57 : decode cX10_goBack 57 = .ok (.putfield 237, 3) := by decide +kernel
theorem dX10_goBack_60 : decode cX10_goBack 60 = .ok (.aload_n 0, 1) := by decide +kernel
theorem dX10_goBack_61 : decode cX10_goBack 61 = .ok (.iconst 0, 1) := by decide +kernel
theorem dX10_goBack_62 : decode cX10_goBack 62 = .ok (.putfield 72, 3) := by decide +kernel
theorem dX10_goBack_65 : decode cX10_goBack 65 = .ok (.iconst 1, 1) := by decide +kernel
theorem dX10_goBack_66 : decode cX10_goBack 66 = .ok (.ireturn, 1) := by decide +kernel
end
section
theorem dL_law_0 : decode cL_law 0 = .ok (.new 7, 3) := by decide +kernel
theorem dL_law_3 : decode cL_law 3 = .ok (.dup, 1) := by decide +kernel
theorem dL_law_4 : decode cL_law 4 = .ok (.invokespecial 9, 3) := by decide +kernel
theorem dL_law_7 : decode cL_law 7 = .ok (.astore_n 1, 1) := by decide +kernel
theorem dL_law_8 : decode cL_law 8 = .ok (.new 10, 3) := by decide +kernel
theorem dL_law_11 : decode cL_law 11 = .ok (.dup, 1) := by decide +kernel
theorem dL_law_12 : decode cL_law 12 = .ok (.invokespecial 12, 3) := by decide +kernel
theorem dL_law_15 : decode cL_law 15 = .ok (.astore_n 2, 1) := by decide +kernel
theorem dL_law_16 : decode cL_law 16 = .ok (.iconst 0, 1) := by decide +kernel
theorem dL_law_17 : decode cL_law 17 = .ok (.istore_n 3, 1) := by decide +kernel
theorem dL_law_18 : decode cL_law 18 = .ok (.iload_n 3, 1) := by decide +kernel
theorem dL_law_19 : decode cL_law 19 = .ok (.aload_n 0, 1) := by decide +kernel
theorem dL_law_20 : decode cL_law 20 = .ok (.arraylength, 1) := by decide +kernel
theorem dL_law_21 : decode cL_law 21 = .ok (.iconst 5, 1) := by decide +kernel
theorem dL_law_22 : decode cL_law 22 = .ok (.isub, 1) := by decide +kernel
theorem dL_law_23 : decode cL_law 23 = .ok (.if_icmp .gt 1061, 3) := by decide +kernel
theorem dL_law_26 : decode cL_law 26 = .ok (.aload_n 0, 1) := by decide +kernel
theorem dL_law_27 : decode cL_law 27 = .ok (.iload_n 3, 1) := by decide +kernel
theorem dL_law_28 : decode cL_law 28 = .ok (.iaload, 1) := by decide +kernel
theorem dL_law_29 : decode cL_law 29 = .ok (.bipush 31, 2) := by decide +kernel
theorem dL_law_31 : decode cL_law 31 = .ok (.iand, 1) := by decide +kernel
theorem dL_law_32 : decode cL_law 32 = .ok (.tableswitch 1046 0 31 #[144, 167, 180, 193, 216, 249, 282, 315, 348, 371, 404, 427, 476, 509, 532, 555, 568, 611, 654, 677, 730, 753, 786, 819, 862, 875, 918, 951, 964, 977, 1000, 1023], 144) := by decide +kernel
theorem dL_law_176 : decode cL_law 176 = .ok (.aload_n 1, 1) := by decide +kernel
theorem dL_law_177 : decode cL_law 177 = .ok (.aload_n 0, 1) := by decide +kernel
theorem dL_law_178 : decode cL_law 178 = .ok (.iload_n 3, 1) := by decide +kernel
theorem dL_law_179 : decode cL_law 179 = .ok (.iconst 1, 1) := by decide +kernel
theorem dL_law_180 : decode cL_law 180 = .ok (.iadd, 1) := by decide +kernel
theorem dL_law_181 : decode cL_law 181 = .ok (.iaload, 1) := by decide +kernel
theorem dL_law_182 : decode cL_law 182 = .ok (.invokevirtual 13, 3) := by decide +kernel
theorem dL_law_185 : decode cL_law 185 = .ok (.aload_n 2, 1) := by decide +kernel
theorem dL_law_186 : decode cL_law 186 = .ok (.aload_n 0, 1) := by decide +kernel
theorem dL_law_187 : decode cL_law 187 = .ok (.iload_n 3, 1) := by decide +kernel
theorem dL_law_188 : decode cL_law 188 = .ok (.iconst 1, 1) := by decide +kernel
theorem dL_law_189 : decode cL_law 189 = .ok (.iadd, 1) := by decide +kernel
theorem dL_law_190 : decode cL_law 190 = .ok (.iaload, 1) := by decide +kernel
theorem dL_law_191 : decode cL_law 191 = .ok (.invokevirtual 17, 3) := by decide +kernel
theorem dL_law_194 : decode cL_law 194 = .ok (.if_icmp .eq 884, 3) := by decide +kernel
theorem dL_law_197 : decode cL_law 197 = .ok (.iconst 0, 1) := by decide +kernel
theorem dL_law_198 : decode cL_law 198 = .ok (.ireturn, 1) := by decide +kernel
theorem dL_law_199 : decode cL_law 199 = .ok (.aload_n 1, 1) := by decide +kernel
theorem dL_law_200 : decode cL_law 200 = .ok (.invokevirtual 18, 3) := by decide +kernel
theorem dL_law_203 : decode cL_law 203 = .ok (.aload_n 2, 1) := by decide +kernel
theorem dL_law_204 : decode cL_law 204 = .ok (.invokevirtual 22, 3) := by decide +kernel
theorem dL_law_207 : decode cL_law 207 = .ok (.if_icmp .eq 871, 3) := by decide +kernel
theorem dL_law_210 : decode cL_law 210 = .ok (.iconst 0, 1) := by decide +kernel
theorem dL_law_211 : decode cL_law 211 = .ok (.ireturn, 1) := by decide +kernel
theorem dL_law_212 : decode cL_law 212 = .ok (.aload_n 1, 1) := by decide +kernel
theorem dL_law_213 : decode cL_law 213 = .ok (.invokevirtual 23, 3) := by decide +kernel
theorem dL_law_216 : decode cL_law 216 = .ok (.aload_n 2, 1) := by decide +kernel
theorem dL_law_217 : decode cL_law 217 = .ok (.invokevirtual 26, 3) := by decide +kernel
theorem dL_law_220 : decode cL_law 220 = .ok (.if_icmp .eq 858, 3) := by decide +kernel
theorem dL_law_223 : decode cL_law 223 = .ok (.iconst 0, 1) := by decide +kernel
theorem dL_law_224 : decode cL_law 224 = .ok (.ireturn, 1) := by decide +kernel
theorem dL_law_225 : decode cL_law 225 = .ok (.aload_n 1, 1) := by decide +kernel
theorem dL_law_226 : decode cL_law 226 = .ok (.aload_n 0, 1) := by decide +kernel
theorem dL_law_227 : decode cL_law 227 = .ok (.iload_n 3, 1) := by decide +kernel
theorem dL_law_228 : decode cL_law 228 = .ok (.iconst 1, 1) := by decide +kernel
theorem dL_law_229 : decode cL_law 229 = .ok (.iadd, 1) := by decide +kernel
theorem dL_law_230 : decode cL_law 230 = .ok (.iaload, 1) := by decide +kernel
theorem dL_law_231 : decode cL_law 231 = .ok (.invokevirtual 27, 3) := by decide +kernel
theorem dL_law_234 : decode cL_law 234 = .ok (.aload_n 2, 1) := by decide +kernel
theorem dL_law_235 : decode cL_law 235 = .ok (.aload_n 0, 1) := by decide +kernel
theorem dL_law_236 : decode cL_law 236 = .ok (.iload_n 3, 1) := by decide +kernel
theorem dL_law_237 : decode cL_law 237 = .ok (.iconst 1, 1) := by decide +kernel
theorem dL_law_238 : decode cL_law 238 = .ok (.iadd, 1) := by decide +kernel
theorem dL_law_239 : decode cL_law 239 = .ok (.iaload, 1) := by decide +kernel
theorem dL_law_240 : decode cL_law 240 = .ok (.invokevirtual 30, 3) := by decide +kernel
theorem dL_law_243 : decode cL_law 243 = .ok (.if_icmp .eq 835, 3) := by decide +kernel
theorem dL_law_246 : decode cL_law 246 = .ok (.iconst 0, 1) := by decide +kernel
theorem dL_law_247 : decode cL_law 247 = .ok (.ireturn, 1) := by decide +kernel
theorem dL_law_248 : decode cL_law 248 = .ok (.aload_n 1, 1) := by decide +kernel
theorem dL_law_249 : decode cL_law 249 = .ok (.aload_n 0, 1) := by decide +kernel
theorem dL_law_250 : decode cL_law 250 = .ok (.iload_n 3, 1) := by decide +kernel
theorem dL_law_251 : decode cL_law 251 = .ok (.iconst 1, 1) := by decide +kernel
theorem dL_law_252 : decode cL_law 252 = .ok (.iadd, 1) := by decide +kernel
theorem dL_law_253 : decode cL_law 253 = .ok (.iaload, 1) := by decide +kernel
theorem dL_law_254 : decode cL_law 254 = .ok (.aload_n 0, 1) := by decide +kernel
theorem dL_law_255 : decode cL_law 255 = .ok (.iload_n 3, 1) := by decide +kernel
theorem dL_law_256 : decode cL_law 256 = .ok (.iconst 2, 1) := by decide +kernel
theorem dL_law_257 : decode cL_law 257 = .ok (.iadd, 1) := by decide +kernel
theorem dL_law_258 : decode cL_law 258 = .ok (.iaload, 1) := by decide +kernel
theorem dL_law_259 : decode cL_law 259 = .ok (.invokevirtual 31, 3) := by decide +kernel
theorem dL_law_262 : decode cL_law 262 = .ok (.aload_n 2, 1) := by decide +kernel
theorem dL_law_263 : decode cL_law 263 = .ok (.aload_n 0, 1) := by decide +kernel
theorem dL_law_264 : decode cL_law 264 = .ok (.iload_n 3, 1) := by decide +kernel
theorem dL_law_265 : decode cL_law 265 = .ok (.iconst 1, 1) := by decide +kernel
theorem dL_law_266 : decode cL_law 266 = .ok (.iadd, 1) := by decide +kernel
theorem dL_law_267 : decode cL_law 267 = .ok (.iaload, 1) := by decide +kernel
theorem dL_law_268 : decode cL_law 268 = .ok (.aload_n 0, 1) := by decide +kernel
theorem dL_law_269 : decode cL_law 269 = .ok (.iload_n 3, 1) := by decide +kernel
theorem dL_law_270 : decode cL_law 270 = .ok (.iconst 2, 1) := by decide +kernel
theorem dL_law_271 : decode cL_law 271 = .ok (.iadd, 1) := by decide +kernel
theorem dL_law_272 : decode cL_law 272 = .ok (.iaload, 1) := by decide +kernel
theorem dL_law_273 : decode cL_law 273 = .ok (.invokevirtual 35, 3) := by decide +kernel
theorem dL_law_276 : decode cL_law 276 = .ok (.if_icmp .eq 802, 3) := by decide +kernel
theorem dL_law_279 : decode cL_law 279 = .ok (.iconst 0, 1) := by decide +kernel
theorem dL_law_280 : decode cL_law 280 = .ok (.ireturn, 1) := by decide +kernel
theorem dL_law_281 : decode cL_law 281 = .ok (.aload_n 1, 1) := by decide +kernel
theorem dL_law_282 : decode cL_law 282 = .ok (.aload_n 0, 1) := by decide +kernel
theorem dL_law_283 : decode cL_law 283 = .ok (.iload_n 3, 1) := by decide +kernel
theorem dL_law_284 : decode cL_law 284 = .ok (.iconst 1, 1) := by decide +kernel
theorem dL_law_285 : decode cL_law 285 = .ok (.iadd, 1) := by decide +kernel
theorem dL_law_286 : decode cL_law 286 = .ok (.iaload, 1) := by decide +kernel
theorem dL_law_287 : decode cL_law 287 = .ok (.aload_n 0, 1) := by decide +kernel
theorem dL_law_288 : decode cL_law 288 = .ok (.iload_n 3, 1) := by decide +kernel
theorem dL_law_289 : decode cL_law 289 = .ok (.iconst 2, 1) := by decide +kernel
theorem dL_law_290 : decode cL_law 290 = .ok (.iadd, 1) := by decide +kernel
theorem dL_law_291 : decode cL_law 291 = .ok (.iaload, 1) := by decide +kernel
theorem dL_law_292 : decode cL_law 292 = .ok (.invokevirtual 36, 3) := by decide +kernel
theorem dL_law_295 : decode cL_law 295 = .ok (.aload_n 2, 1) := by decide +kernel
theorem dL_law_296 : decode cL_law 296 = .ok (.aload_n 0, 1) := by decide +kernel
theorem dL_law_297 : decode cL_law 297 = .ok (.iload_n 3, 1) := by decide +kernel
theorem dL_law_298 : decode cL_law 298 = .ok (.iconst 1, 1) := by decide +kernel
theorem dL_law_299 : decode cL_law 299 = .ok (.iadd, 1) := by decide +kernel
theorem dL_law_300 : decode cL_law 300 = .ok (.iaload, 1) := by decide +kernel
theorem dL_law_301 : decode cL_law 301 = .ok (.aload_n 0, 1) := by decide +kernel
theorem dL_law_302 : decode cL_law 302 = .ok (.iload_n 3, 1) := by decide +kernel
theorem dL_law_303 : decode cL_law 303 = .ok (.iconst 2, 1) := by decide +kernel
theorem dL_law_304 : decode cL_law 304 = .ok (.iadd, 1) := by decide +kernel
theorem dL_law_305 : decode cL_law 305 = .ok (.iaload, 1) := by decide +kernel
theorem dL_law_306 : decode cL_law 306 = .ok (.invokevirtual 39, 3) := by decide +kernel
theorem dL_law_309 : decode cL_law 309 = .ok (.if_icmp .eq 769, 3) := by decide +kernel
theorem dL_law_312 : decode cL_law 312 = .ok (.iconst 0, 1) := by decide +kernel
theorem dL_law_313 : decode cL_law 313 = .ok (.ireturn, 1) := by decide +kernel
theorem dL_law_314 : decode cL_law 314 = .ok (.aload_n 1, 1) := by decide +kernel
theorem dL_law_315 : decode cL_law 315 = .ok (.aload_n 0, 1) := by decide +kernel
theorem dL_law_316 : decode cL_law 316 = .ok (.iload_n 3, 1) := by decide +kernel
theorem dL_law_317 : decode cL_law 317 = .ok (.iconst 1, 1) := by decide +kernel
theorem dL_law_318 : decode cL_law 318 = .ok (.iadd, 1) := by decide +kernel
theorem dL_law_319 : decode cL_law 319 = .ok (.iaload, 1) := by decide +kernel
theorem dL_law_320 : decode cL_law 320 = .ok (.aload_n 0, 1) := by decide +kernel
theorem dL_law_321 : decode cL_law 321 = .ok (.iload_n 3, 1) := by decide +kernel
theorem dL_law_322 : decode cL_law 322 = .ok (.iconst 2, 1) := by decide +kernel
theorem dL_law_323 : decode cL_law 323 = .ok (.iadd, 1) := by decide +kernel
theorem dL_law_324 : decode cL_law 324 = .ok (.iaload, 1) := by decide +kernel
theorem dL_law_325 : decode cL_law 325 = .ok (.invokevirtual 40, 3) := by decide +kernel
theorem dL_law_328 : decode cL_law 328 = .ok (.aload_n 2, 1) := by decide +kernel
theorem dL_law_329 : decode cL_law 329 = .ok (.aload_n 0, 1) := by decide +kernel
theorem dL_law_330 : decode cL_law 330 = .ok (.iload_n 3, 1) := by decide +kernel
theorem dL_law_331 : decode cL_law 331 = .ok (.iconst 1, 1) := by decide +kernel
theorem dL_law_332 : decode cL_law 332 = .ok (.iadd, 1) := by decide +kernel
theorem dL_law_333 : decode cL_law 333 = .ok (.iaload, 1) := by decide +kernel
theorem dL_law_334 : decode cL_law 334 = .ok (.aload_n 0, 1) := by decide +kernel
theorem dL_law_335 : decode cL_law 335 = .ok (.iload_n 3, 1) := by decide +kernel
theorem dL_law_336 : decode cL_law 336 = .ok (.iconst 2, 1) := by decide +kernel
theorem dL_law_337 : decode cL_law 337 = .ok (.iadd, 1) := by decide +kernel
theorem dL_law_338 : decode cL_law 338 = .ok (.iaload, 1) := by decide +kernel
theorem dL_law_339 : decode cL_law 339 = .ok (.invokevirtual 43, 3) := by decide +kernel
theorem dL_law_342 : decode cL_law 342 = .ok (.if_icmp .eq 736, 3) := by decide +kernel
theorem dL_law_345 : decode cL_law 345 = .ok (.iconst 0, 1) := by decide +kernel
theorem dL_law_346 : decode cL_law 346 = .ok (.ireturn, 1) := by decide +kernel
theorem dL_law_347 : decode cL_law 347 = .ok (.aload_n 1, 1) := by decide +kernel
theorem dL_law_348 : decode cL_law 348 = .ok (.aload_n 0, 1) := by decide +kernel
theorem dL_law_349 : decode cL_law 349 = .ok (.iload_n 3, 1) := by decide +kernel
theorem dL_law_350 : decode cL_law 350 = .ok (.iconst 1, 1) := by decide +kernel
theorem dL_law_351 : decode cL_law 351 = .ok (.iadd, 1) := by decide +kernel
theorem dL_law_352 : decode cL_law 352 = .ok (.iaload, 1) := by decide +kernel
theorem dL_law_353 : decode cL_law 353 = .ok (.aload_n 0, 1) := by decide +kernel
theorem dL_law_354 : decode cL_law 354 = .ok (.iload_n 3, 1) := by decide +kernel
theorem dL_law_355 : decode cL_law 355 = .ok (.iconst 2, 1) := by decide +kernel
theorem dL_law_356 : decode cL_law 356 = .ok (.iadd, 1) := by decide +kernel
theorem dL_law_357 : decode cL_law 357 = .ok (.iaload, 1) := by decide +kernel
theorem dL_law_358 : decode cL_law 358 = .ok (.invokevirtual 44, 3) := by decide +kernel
theorem dL_law_361 : decode cL_law 361 = .ok (.aload_n 2, 1) := by decide +kernel
theorem dL_law_362 : decode cL_law 362 = .ok (.aload_n 0, 1) := by decide +kernel
theorem dL_law_363 : decode cL_law 363 = .ok (.iload_n 3, 1) := by decide +kernel
theorem dL_law_364 : decode cL_law 364 = .ok (.iconst 1, 1) := by decide +kernel
theorem dL_law_365 : decode cL_law 365 = .ok (.iadd, 1) := by decide +kernel
theorem dL_law_366 : decode cL_law 366 = .ok (.iaload, 1) := by decide +kernel
theorem dL_law_367 : decode cL_law 367 = .ok (.aload_n 0, 1) := by decide +kernel
theorem dL_law_368 : decode cL_law 368 = .ok (.iload_n 3, 1) := by decide +kernel
theorem dL_law_369 : decode cL_law 369 = .ok (.iconst 2, 1) := by decide +kernel
theorem dL_law_370 : decode cL_law 370 = .ok (.iadd, 1) := by decide +kernel
theorem dL_law_371 : decode cL_law 371 = .ok (.iaload, 1) := by decide +kernel
theorem dL_law_372 : decode cL_law 372 = .ok (.invokevirtual 47, 3) := by decide +kernel
theorem dL_law_375 : decode cL_law 375 = .ok (.if_icmp .eq 703, 3) := by decide +kernel
theorem dL_law_378 : decode cL_law 378 = .ok (.iconst 0, 1) := by decide +kernel
theorem dL_law_379 : decode cL_law 379 = .ok (.ireturn, 1) := by decide +kernel
theorem dL_law_380 : decode cL_law 380 = .ok (.aload_n 1, 1) := by decide +kernel
theorem dL_law_381 : decode cL_law 381 = .ok (.aload_n 0, 1) := by decide +kernel
theorem dL_law_382 : decode cL_law 382 = .ok (.iload_n 3, 1) := by decide +kernel
theorem dL_law_383 : decode cL_law 383 = .ok (.iconst 1, 1) := by decide +kernel
theorem dL_law_384 : decode cL_law 384 = .ok (.iadd, 1) := by decide +kernel
theorem dL_law_385 : decode cL_law 385 = .ok (.iaload, 1) := by decide +kernel
theorem dL_law_386 : decode cL_law 386 = .ok (.invokevirtual 48, 3) := by decide +kernel
theorem dL_law_389 : decode cL_law 389 = .ok (.aload_n 2, 1) := by decide +kernel
theorem dL_law_390 : decode cL_law 390 = .ok (.aload_n 0, 1) := by decide +kernel
theorem dL_law_391 : decode cL_law 391 = .ok (.iload_n 3, 1) := by decide +kernel
theorem dL_law_392 : decode cL_law 392 = .ok (.iconst 1, 1) := by decide +kernel
theorem dL_law_393 : decode cL_law 393 = .ok (.iadd, 1) := by decide +kernel
theorem dL_law_394 : decode cL_law 394 = .ok (.iaload, 1) := by decide +kernel
theorem dL_law_395 : decode cL_law 395 = .ok (.invokevirtual 51, 3) := by decide +kernel
theorem dL_law_398 : decode cL_law 398 = .ok (.if_icmp .eq 680, 3) := by decide +kernel
theorem dL_law_401 : decode cL_law 401 = .ok (.iconst 0, 1) := by decide +kernel
theorem dL_law_402 : decode cL_law 402 = .ok (.ireturn, 1) := by decide +kernel
theorem dL_law_403 : decode cL_law 403 = .ok (.aload_n 1, 1) := by decide +kernel
theorem dL_law_404 : decode cL_law 404 = .ok (.aload_n 0, 1) := by decide +kernel
theorem dL_law_405 : decode cL_law 405 = .ok (.iload_n 3, 1) := by decide +kernel
theorem dL_law_406 : decode cL_law 406 = .ok (.iconst 1, 1) := by decide +kernel
theorem dL_law_407 : decode cL_law 407 = .ok (.iadd, 1) := by decide +kernel
theorem dL_law_408 : decode cL_law 408 = .ok (.iaload, 1) := by decide +kernel
theorem dL_law_409 : decode cL_law 409 = .ok (.aload_n 0, 1) := by decide +kernel
theorem dL_law_410 : decode cL_law 410 = .ok (.iload_n 3, 1) := by decide +kernel
theorem dL_law_411 : decode cL_law 411 = .ok (.iconst 2, 1) := by decide +kernel
theorem dL_law_412 : decode cL_law 412 = .ok (.iadd, 1) := by decide +kernel
theorem dL_law_413 : decode cL_law 413 = .ok (.iaload, 1) := by decide +kernel
theorem dL_law_414 : decode cL_law 414 = .ok (.invokevirtual 52, 3) := by decide +kernel
theorem dL_law_417 : decode cL_law 417 = .ok (.aload_n 2, 1) := by decide +kernel
theorem dL_law_418 : decode cL_law 418 = .ok (.aload_n 0, 1) := by decide +kernel
theorem dL_law_419 : decode cL_law 419 = .ok (.iload_n 3, 1) := by decide +kernel
theorem dL_law_420 : decode cL_law 420 = .ok (.iconst 1, 1) := by decide +kernel
theorem dL_law_421 : decode cL_law 421 = .ok (.iadd, 1) := by decide +kernel
theorem dL_law_422 : decode cL_law 422 = .ok (.iaload, 1) := by decide +kernel
theorem dL_law_423 : decode cL_law 423 = .ok (.aload_n 0, 1) := by decide +kernel
theorem dL_law_424 : decode cL_law 424 = .ok (.iload_n 3, 1) := by decide +kernel
theorem dL_law_425 : decode cL_law 425 = .ok (.iconst 2, 1) := by decide +kernel
theorem dL_law_426 : decode cL_law 426 = .ok (.iadd, 1) := by decide +kernel
theorem dL_law_427 : decode cL_law 427 = .ok (.iaload, 1) := by decide +kernel
theorem dL_law_428 : decode cL_law 428 = .ok (.invokevirtual 55, 3) := by decide +kernel
theorem dL_law_431 : decode cL_law 431 = .ok (.if_icmp .eq 647, 3) := by decide +kernel
theorem dL_law_434 : decode cL_law 434 = .ok (.iconst 0, 1) := by decide +kernel
theorem dL_law_435 : decode cL_law 435 = .ok (.ireturn, 1) := by decide +kernel
theorem dL_law_436 : decode cL_law 436 = .ok (.aload_n 1, 1) := by decide +kernel
theorem dL_law_437 : decode cL_law 437 = .ok (.aload_n 0, 1) := by decide +kernel
theorem dL_law_438 : decode cL_law 438 = .ok (.iload_n 3, 1) := by decide +kernel
theorem dL_law_439 : decode cL_law 439 = .ok (.iconst 1, 1) := by decide +kernel
theorem dL_law_440 : decode cL_law 440 = .ok (.iadd, 1) := by decide +kernel
theorem dL_law_441 : decode cL_law 441 = .ok (.iaload, 1) := by decide +kernel
theorem dL_law_442 : decode cL_law 442 = .ok (.invokevirtual 56, 3) := by decide +kernel
theorem dL_law_445 : decode cL_law 445 = .ok (.aload_n 2, 1) := by decide +kernel
theorem dL_law_446 : decode cL_law 446 = .ok (.aload_n 0, 1) := by decide +kernel
theorem dL_law_447 : decode cL_law 447 = .ok (.iload_n 3, 1) := by decide +kernel
theorem dL_law_448 : decode cL_law 448 = .ok (.iconst 1, 1) := by decide +kernel
theorem dL_law_449 : decode cL_law 449 = .ok (.iadd, 1) := by decide +kernel
theorem dL_law_450 : decode cL_law 450 = .ok (.iaload, 1) := by decide +kernel
theorem dL_law_451 : decode cL_law 451 = .ok (.invokevirtual 59, 3) := by decide +kernel
theorem dL_law_454 : decode cL_law 454 = .ok (.if_icmp .eq 624, 3) := by decide +kernel
theorem dL_law_457 : decode cL_law 457 = .ok (.iconst 0, 1) := by decide +kernel
theorem dL_law_458 : decode cL_law 458 = .ok (.ireturn, 1) := by decide +kernel
theorem dL_law_459 : decode cL_law 459 = .ok (.aload_n 1, 1) := by decide +kernel
theorem dL_law_460 : decode cL_law 460 = .ok (.aload_n 0, 1) := by decide +kernel
theorem dL_law_461 : decode cL_law 461 = .ok (.iload_n 3, 1) := by decide +kernel
theorem dL_law_462 : decode cL_law 462 = .ok (.iconst 1, 1) := by decide +kernel
theorem dL_law_463 : decode cL_law 463 = .ok (.iadd, 1) := by decide +kernel
theorem dL_law_464 : decode cL_law 464 = .ok (.iaload, 1) := by decide +kernel
theorem dL_law_465 : decode cL_law 465 = .ok (.aload_n 0, 1) := by decide +kernel
theorem dL_law_466 : decode cL_law 466 = .ok (.iload_n 3, 1) := by decide +kernel
theorem dL_law_467 : decode cL_law 467 = .ok (.iconst 2, 1) := by decide +kernel
theorem dL_law_468 : decode cL_law 468 = .ok (.iadd, 1) := by decide +kernel
theorem dL_law_469 : decode cL_law 469 = .ok (.iaload, 1) := by decide +kernel
theorem dL_law_470 : decode cL_law 470 = .ok (.ifCond .eq 7, 3) := by decide +kernel
theorem dL_law_473 : decode cL_law 473 = .ok (.iconst 1, 1) := by decide +kernel
theorem dL_law_474 : decode cL_law 474 = .ok (.goto 4, 3) := by decide +kernel
theorem dL_law_477 : decode cL_law 477 = .ok (.iconst 0, 1) := by decide +kernel
theorem dL_law_478 : decode cL_law 478 = .ok (.invokevirtual 60, 3) := by decide +kernel
theorem dL_law_481 : decode cL_law 481 = .ok (.aload_n 2, 1) := by decide +kernel
theorem dL_law_482 : decode cL_law 482 = .ok (.aload_n 0, 1) := by decide +kernel
theorem dL_law_483 : decode cL_law 483 = .ok (.iload_n 3, 1) := by decide +kernel
theorem dL_law_484 : decode cL_law 484 = .ok (.iconst 1, 1) := by decide +kernel
theorem dL_law_485 : decode cL_law 485 = .ok (.iadd, 1) := by decide +kernel
theorem dL_law_486 : decode cL_law 486 = .ok (.iaload, 1) := by decide +kernel
theorem dL_law_487 : decode cL_law 487 = .ok (.aload_n 0, 1) := by decide +kernel
theorem dL_law_488 : decode cL_law 488 = .ok (.iload_n 3, 1) := by decide +kernel
theorem dL_law_489 : decode cL_law 489 = .ok (.iconst 2, 1) := by decide +kernel
theorem dL_law_490 : decode cL_law 490 = .ok (.iadd, 1) := by decide +kernel
theorem dL_law_491 : decode cL_law 491 = .ok (.iaload, 1) := by decide +kernel
theorem dL_law_492 : decode cL_law 492 = .ok (.ifCond .eq 7, 3) := by decide +kernel
theorem dL_law_495 : decode cL_law 495 = .ok (.iconst 1, 1) := by decide +kernel
theorem dL_law_496 : decode cL_law 496 = .ok (.goto 4, 3) := by decide +kernel
theorem dL_law_499 : decode cL_law 499 = .ok (.iconst 0, 1) := by decide +kernel
theorem dL_law_500 : decode cL_law 500 = .ok (.invokevirtual 64, 3) := by decide +kernel
theorem dL_law_503 : decode cL_law 503 = .ok (.if_icmp .eq 575, 3) := by decide +kernel
theorem dL_law_506 : decode cL_law 506 = .ok (.iconst 0, 1) := by decide +kernel
theorem dL_law_507 : decode cL_law 507 = .ok (.ireturn, 1) := by decide +kernel
theorem dL_law_508 : decode cL_law 508 = .ok (.aload_n 1, 1) := by decide +kernel
theorem dL_law_509 : decode cL_law 509 = .ok (.aload_n 0, 1) := by decide +kernel
theorem dL_law_510 : decode cL_law 510 = .ok (.iload_n 3, 1) := by decide +kernel
theorem dL_law_511 : decode cL_law 511 = .ok (.iconst 1, 1) := by decide +kernel
theorem dL_law_512 : decode cL_law 512 = .ok (.iadd, 1) := by decide +kernel
theorem dL_law_513 : decode cL_law 513 = .ok (.iaload, 1) := by decide +kernel
theorem dL_law_514 : decode cL_law 514 = .ok (.aload_n 0, 1) := by decide +kernel
theorem dL_law_515 : decode cL_law 515 = .ok (.iload_n 3, 1) := by decide +kernel
theorem dL_law_516 : decode cL_law 516 = .ok (.iconst 2, 1) := by decide +kernel
theorem dL_law_517 : decode cL_law 517 = .ok (.iadd, 1) := by decide +kernel
theorem dL_law_518 : decode cL_law 518 = .ok (.iaload, 1) := by decide +kernel
theorem dL_law_519 : decode cL_law 519 = .ok (.invokevirtual 65, 3) := by decide +kernel
theorem dL_law_522 : decode cL_law 522 = .ok (.aload_n 2, 1) := by decide +kernel
theorem dL_law_523 : decode cL_law 523 = .ok (.aload_n 0, 1) := by decide +kernel
theorem dL_law_524 : decode cL_law 524 = .ok (.iload_n 3, 1) := by decide +kernel
theorem dL_law_525 : decode cL_law 525 = .ok (.iconst 1, 1) := by decide +kernel
theorem dL_law_526 : decode cL_law 526 = .ok (.iadd, 1) := by decide +kernel
theorem dL_law_527 : decode cL_law 527 = .ok (.iaload, 1) := by decide +kernel
theorem dL_law_528 : decode cL_law 528 = .ok (.aload_n 0, 1) := by decide +kernel
theorem dL_law_529 : decode cL_law 529 = .ok (.iload_n 3, 1) := by decide +kernel
theorem dL_law_530 : decode cL_law 530 = .ok (.iconst 2, 1) := by decide +kernel
theorem dL_law_531 : decode cL_law 531 = .ok (.iadd, 1) := by decide +kernel
theorem dL_law_532 : decode cL_law 532 = .ok (.iaload, 1) := by decide +kernel
theorem dL_law_533 : decode cL_law 533 = .ok (.invokevirtual 68, 3) := by decide +kernel
theorem dL_law_536 : decode cL_law 536 = .ok (.if_icmp .eq 542, 3) := by decide +kernel
theorem dL_law_539 : decode cL_law 539 = .ok (.iconst 0, 1) := by decide +kernel
theorem dL_law_540 : decode cL_law 540 = .ok (.ireturn, 1) := by decide +kernel
theorem dL_law_541 : decode cL_law 541 = .ok (.aload_n 1, 1) := by decide +kernel
theorem dL_law_542 : decode cL_law 542 = .ok (.aload_n 0, 1) := by decide +kernel
theorem dL_law_543 : decode cL_law 543 = .ok (.iload_n 3, 1) := by decide +kernel
theorem dL_law_544 : decode cL_law 544 = .ok (.iconst 1, 1) := by decide +kernel
theorem dL_law_545 : decode cL_law 545 = .ok (.iadd, 1) := by decide +kernel
theorem dL_law_546 : decode cL_law 546 = .ok (.iaload, 1) := by decide +kernel
theorem dL_law_547 : decode cL_law 547 = .ok (.invokevirtual 69, 3) := by decide +kernel
theorem dL_law_550 : decode cL_law 550 = .ok (.aload_n 2, 1) := by decide +kernel
theorem dL_law_551 : decode cL_law 551 = .ok (.aload_n 0, 1) := by decide +kernel
theorem dL_law_552 : decode cL_law 552 = .ok (.iload_n 3, 1) := by decide +kernel
theorem dL_law_553 : decode cL_law 553 = .ok (.iconst 1, 1) := by decide +kernel
theorem dL_law_554 : decode cL_law 554 = .ok (.iadd, 1) := by decide +kernel
theorem dL_law_555 : decode cL_law 555 = .ok (.iaload, 1) := by decide +kernel
theorem dL_law_556 : decode cL_law 556 = .ok (.invokevirtual 72, 3) := by decide +kernel
theorem dL_law_559 : decode cL_law 559 = .ok (.if_icmp .eq 519, 3) := by decide +kernel
theorem dL_law_562 : decode cL_law 562 = .ok (.iconst 0, 1) := by decide +kernel
theorem dL_law_563 : decode cL_law 563 = .ok (.ireturn, 1) := by decide +kernel
theorem dL_law_564 : decode cL_law 564 = .ok (.aload_n 1, 1) := by decide +kernel
theorem dL_law_565 : decode cL_law 565 = .ok (.aload_n 0, 1) := by decide +kernel
theorem dL_law_566 : decode cL_law 566 = .ok (.iload_n 3, 1) := by decide +kernel
theorem dL_law_567 : decode cL_law 567 = .ok (.iconst 1, 1) := by decide +kernel
theorem dL_law_568 : decode cL_law 568 = .ok (.iadd, 1) := by decide +kernel
theorem dL_law_569 : decode cL_law 569 = .ok (.iaload, 1) := by decide +kernel
theorem dL_law_570 : decode cL_law 570 = .ok (.invokevirtual 73, 3) := by decide +kernel
theorem dL_law_573 : decode cL_law 573 = .ok (.aload_n 2, 1) := by decide +kernel
theorem dL_law_574 : decode cL_law 574 = .ok (.aload_n 0, 1) := by decide +kernel
theorem dL_law_575 : decode cL_law 575 = .ok (.iload_n 3, 1) := by decide +kernel
theorem dL_law_576 : decode cL_law 576 = .ok (.iconst 1, 1) := by decide +kernel
theorem dL_law_577 : decode cL_law 577 = .ok (.iadd, 1) := by decide +kernel
theorem dL_law_578 : decode cL_law 578 = .ok (.iaload, 1) := by decide +kernel
theorem dL_law_579 : decode cL_law 579 = .ok (.invokevirtual 76, 3) := by decide +kernel
theorem dL_law_582 : decode cL_law 582 = .ok (.if_icmp .eq 496, 3) := by decide +kernel
theorem dL_law_585 : decode cL_law 585 = .ok (.iconst 0, 1) := by decide +kernel
theorem dL_law_586 : decode cL_law 586 = .ok (.ireturn, 1) := by decide +kernel
theorem dL_law_587 : decode cL_law 587 = .ok (.aload_n 1, 1) := by decide +kernel
theorem dL_law_588 : decode cL_law 588 = .ok (.invokevirtual 77, 3) := by decide +kernel
theorem dL_law_591 : decode cL_law 591 = .ok (.aload_n 2, 1) := by decide +kernel
theorem dL_law_592 : decode cL_law 592 = .ok (.invokevirtual 80, 3) := by decide +kernel
theorem dL_law_595 : decode cL_law 595 = .ok (.if_icmp .eq 483, 3) := by decide +kernel
theorem dL_law_598 : decode cL_law 598 = .ok (.iconst 0, 1) := by decide +kernel
theorem dL_law_599 : decode cL_law 599 = .ok (.ireturn, 1) := by decide +kernel
theorem dL_law_600 : decode cL_law 600 = .ok (.aload_n 1, 1) := by decide +kernel
theorem dL_law_601 : decode cL_law 601 = .ok (.aload_n 0, 1) := by decide +kernel
theorem dL_law_602 : decode cL_law 602 = .ok (.iload_n 3, 1) := by decide +kernel
theorem dL_law_603 : decode cL_law 603 = .ok (.iconst 1, 1) := by decide +kernel
theorem dL_law_604 : decode cL_law 604 = .ok (.iadd, 1) := by decide +kernel
theorem dL_law_605 : decode cL_law 605 = .ok (.iaload, 1) := by decide +kernel
theorem dL_law_606 : decode cL_law 606 = .ok (.aload_n 0, 1) := by decide +kernel
theorem dL_law_607 : decode cL_law 607 = .ok (.iload_n 3, 1) := by decide +kernel
theorem dL_law_608 : decode cL_law 608 = .ok (.iconst 2, 1) := by decide +kernel
theorem dL_law_609 : decode cL_law 609 = .ok (.iadd, 1) := by decide +kernel
theorem dL_law_610 : decode cL_law 610 = .ok (.iaload, 1) := by decide +kernel
theorem dL_law_611 : decode cL_law 611 = .ok (.aload_n 0, 1) := by decide +kernel
theorem dL_law_612 : decode cL_law 612 = .ok (.iload_n 3, 1) := by decide +kernel
theorem dL_law_613 : decode cL_law 613 = .ok (.iconst 3, 1) := by decide +kernel
theorem dL_law_614 : decode cL_law 614 = .ok (.iadd, 1) := by decide +kernel
theorem dL_law_615 : decode cL_law 615 = .ok (.iaload, 1) := by decide +kernel
theorem dL_law_616 : decode cL_law 616 = .ok (.invokevirtual 81, 3) := by decide +kernel
theorem dL_law_619 : decode cL_law 619 = .ok (.aload_n 2, 1) := by decide +kernel
theorem dL_law_620 : decode cL_law 620 = .ok (.aload_n 0, 1) := by decide +kernel
theorem dL_law_621 : decode cL_law 621 = .ok (.iload_n 3, 1) := by decide +kernel
theorem dL_law_622 : decode cL_law 622 = .ok (.iconst 1, 1) := by decide +kernel
theorem dL_law_623 : decode cL_law 623 = .ok (.iadd, 1) := by decide +kernel
theorem dL_law_624 : decode cL_law 624 = .ok (.iaload, 1) := by decide +kernel
theorem dL_law_625 : decode cL_law 625 = .ok (.aload_n 0, 1) := by decide +kernel
theorem dL_law_626 : decode cL_law 626 = .ok (.iload_n 3, 1) := by decide +kernel
theorem dL_law_627 : decode cL_law 627 = .ok (.iconst 2, 1) := by decide +kernel
theorem dL_law_628 : decode cL_law 628 = .ok (.iadd, 1) := by decide +kernel
theorem dL_law_629 : decode cL_law 629 = .ok (.iaload, 1) := by decide +kernel
theorem dL_law_630 : decode cL_law 630 = .ok (.aload_n 0, 1) := by decide +kernel
theorem dL_law_631 : decode cL_law 631 = .ok (.iload_n 3, 1) := by decide +kernel
theorem dL_law_632 : decode cL_law 632 = .ok (.iconst 3, 1) := by decide +kernel
theorem dL_law_633 : decode cL_law 633 = .ok (.iadd, 1) := by decide +kernel
theorem dL_law_634 : decode cL_law 634 = .ok (.iaload, 1) := by decide +kernel
theorem dL_law_635 : decode cL_law 635 = .ok (.invokevirtual 85, 3) := by decide +kernel
theorem dL_law_638 : decode cL_law 638 = .ok (.if_icmp .eq 440, 3) := by decide +kernel
theorem dL_law_641 : decode cL_law 641 = .ok (.iconst 0, 1) := by decide +kernel
theorem dL_law_642 : decode cL_law 642 = .ok (.ireturn, 1) := by decide +kernel
theorem dL_law_643 : decode cL_law 643 = .ok (.aload_n 1, 1) := by decide +kernel
theorem dL_law_644 : decode cL_law 644 = .ok (.aload_n 0, 1) := by decide +kernel
theorem dL_law_645 : decode cL_law 645 = .ok (.iload_n 3, 1) := by decide +kernel
theorem dL_law_646 : decode cL_law 646 = .ok (.iconst 1, 1) := by decide +kernel
theorem dL_law_647 : decode cL_law 647 = .ok (.iadd, 1) := by decide +kernel
theorem dL_law_648 : decode cL_law 648 = .ok (.iaload, 1) := by decide +kernel
theorem dL_law_649 : decode cL_law 649 = .ok (.aload_n 0, 1) := by decide +kernel
theorem dL_law_650 : decode cL_law 650 = .ok (.iload_n 3, 1) := by decide +kernel
theorem dL_law_651 : decode cL_law 651 = .ok (.iconst 2, 1) := by decide +kernel
theorem dL_law_652 : decode cL_law 652 = .ok (.iadd, 1) := by decide +kernel
theorem dL_law_653 : decode cL_law 653 = .ok (.iaload, 1) := by decide +kernel
theorem dL_law_654 : decode cL_law 654 = .ok (.aload_n 0, 1) := by decide +kernel
theorem dL_law_655 : decode cL_law 655 = .ok (.iload_n 3, 1) := by decide +kernel
theorem dL_law_656 : decode cL_law 656 = .ok (.iconst 3, 1) := by decide +kernel
theorem dL_law_657 : decode cL_law 657 = .ok (.iadd, 1) := by decide +kernel
theorem dL_law_658 : decode cL_law 658 = .ok (.iaload, 1) := by decide +kernel
theorem dL_law_659 : decode cL_law 659 = .ok (.invokevirtual 86, 3) := by decide +kernel
theorem dL_law_662 : decode cL_law 662 = .ok (.aload_n 2, 1) := by decide +kernel
theorem dL_law_663 : decode cL_law 663 = .ok (.aload_n 0, 1) := by decide +kernel
theorem dL_law_664 : decode cL_law 664 = .ok (.iload_n 3, 1) := by decide +kernel
theorem dL_law_665 : decode cL_law 665 = .ok (.iconst 1, 1) := by decide +kernel
theorem dL_law_666 : decode cL_law 666 = .ok (.iadd, 1) := by decide +kernel
theorem dL_law_667 : decode cL_law 667 = .ok (.iaload, 1) := by decide +kernel
theorem dL_law_668 : decode cL_law 668 = .ok (.aload_n 0, 1) := by decide +kernel
theorem dL_law_669 : decode cL_law 669 = .ok (.iload_n 3, 1) := by decide +kernel
theorem dL_law_670 : decode cL_law 670 = .ok (.iconst 2, 1) := by decide +kernel
theorem dL_law_671 : decode cL_law 671 = .ok (.iadd, 1) := by decide +kernel
theorem dL_law_672 : decode cL_law 672 = .ok (.iaload, 1) := by decide +kernel
theorem dL_law_673 : decode cL_law 673 = .ok (.aload_n 0, 1) := by decide +kernel
theorem dL_law_674 : decode cL_law 674 = .ok (.iload_n 3, 1) := by decide +kernel
theorem dL_law_675 : decode cL_law 675 = .ok (.iconst 3, 1) := by decide +kernel
theorem dL_law_676 : decode cL_law 676 = .ok (.iadd, 1) := by decide +kernel
theorem dL_law_677 : decode cL_law 677 = .ok (.iaload, 1) := by decide +kernel
theorem dL_law_678 : decode cL_law 678 = .ok (.invokevirtual 89, 3) := by decide +kernel
theorem dL_law_681 : decode cL_law 681 = .ok (.if_icmp .eq 397, 3) := by decide +kernel
theorem dL_law_684 : decode cL_law 684 = .ok (.iconst 0, 1) := by decide +kernel
theorem dL_law_685 : decode cL_law 685 = .ok (.ireturn, 1) := by decide +kernel
theorem dL_law_686 : decode cL_law 686 = .ok (.aload_n 1, 1) := by decide +kernel
theorem dL_law_687 : decode cL_law 687 = .ok (.aload_n 0, 1) := by decide +kernel
theorem dL_law_688 : decode cL_law 688 = .ok (.iload_n 3, 1) := by decide +kernel
theorem dL_law_689 : decode cL_law 689 = .ok (.iconst 1, 1) := by decide +kernel
theorem dL_law_690 : decode cL_law 690 = .ok (.iadd, 1) := by decide +kernel
theorem dL_law_691 : decode cL_law 691 = .ok (.iaload, 1) := by decide +kernel
theorem dL_law_692 : decode cL_law 692 = .ok (.invokevirtual 90, 3) := by decide +kernel
theorem dL_law_695 : decode cL_law 695 = .ok (.aload_n 2, 1) := by decide +kernel
theorem dL_law_696 : decode cL_law 696 = .ok (.aload_n 0, 1) := by decide +kernel
theorem dL_law_697 : decode cL_law 697 = .ok (.iload_n 3, 1) := by decide +kernel
theorem dL_law_698 : decode cL_law 698 = .ok (.iconst 1, 1) := by decide +kernel
theorem dL_law_699 : decode cL_law 699 = .ok (.iadd, 1) := by decide +kernel
theorem dL_law_700 : decode cL_law 700 = .ok (.iaload, 1) := by decide +kernel
theorem dL_law_701 : decode cL_law 701 = .ok (.invokevirtual 93, 3) := by decide +kernel
theorem dL_law_704 : decode cL_law 704 = .ok (.if_icmp .eq 374, 3) := by decide +kernel
theorem dL_law_707 : decode cL_law 707 = .ok (.iconst 0, 1) := by decide +kernel
theorem dL_law_708 : decode cL_law 708 = .ok (.ireturn, 1) := by decide +kernel
theorem dL_law_709 : decode cL_law 709 = .ok (.aload_n 1, 1) := by decide +kernel
theorem dL_law_710 : decode cL_law 710 = .ok (.aload_n 0, 1) := by decide +kernel
theorem dL_law_711 : decode cL_law 711 = .ok (.iload_n 3, 1) := by decide +kernel
theorem dL_law_712 : decode cL_law 712 = .ok (.iconst 1, 1) := by decide +kernel
theorem dL_law_713 : decode cL_law 713 = .ok (.iadd, 1) := by decide +kernel
theorem dL_law_714 : decode cL_law 714 = .ok (.iaload, 1) := by decide +kernel
theorem dL_law_715 : decode cL_law 715 = .ok (.aload_n 0, 1) := by decide +kernel
theorem dL_law_716 : decode cL_law 716 = .ok (.iload_n 3, 1) := by decide +kernel
theorem dL_law_717 : decode cL_law 717 = .ok (.iconst 2, 1) := by decide +kernel
theorem dL_law_718 : decode cL_law 718 = .ok (.iadd, 1) := by decide +kernel
theorem dL_law_719 : decode cL_law 719 = .ok (.iaload, 1) := by decide +kernel
theorem dL_law_720 : decode cL_law 720 = .ok (.aload_n 0, 1) := by decide +kernel
theorem dL_law_721 : decode cL_law 721 = .ok (.iload_n 3, 1) := by decide +kernel
theorem dL_law_722 : decode cL_law 722 = .ok (.iconst 3, 1) := by decide +kernel
theorem dL_law_723 : decode cL_law 723 = .ok (.iadd, 1) := by decide +kernel
theorem dL_law_724 : decode cL_law 724 = .ok (.iaload, 1) := by decide +kernel
theorem dL_law_725 : decode cL_law 725 = .ok (.aload_n 0, 1) := by decide +kernel
theorem dL_law_726 : decode cL_law 726 = .ok (.iload_n 3, 1) := by decide +kernel
theorem dL_law_727 : decode cL_law 727 = .ok (.iconst 4, 1) := by decide +kernel
theorem dL_law_728 : decode cL_law 728 = .ok (.iadd, 1) := by decide +kernel
theorem dL_law_729 : decode cL_law 729 = .ok (.iaload, 1) := by decide +kernel
theorem dL_law_730 : decode cL_law 730 = .ok (.invokevirtual 94, 3) := by decide +kernel
theorem dL_law_733 : decode cL_law 733 = .ok (.aload_n 2, 1) := by decide +kernel
theorem dL_law_734 : decode cL_law 734 = .ok (.aload_n 0, 1) := by decide +kernel
theorem dL_law_735 : decode cL_law 735 = .ok (.iload_n 3, 1) := by decide +kernel
theorem dL_law_736 : decode cL_law 736 = .ok (.iconst 1, 1) := by decide +kernel
theorem dL_law_737 : decode cL_law 737 = .ok (.iadd, 1) := by decide +kernel
theorem dL_law_738 : decode cL_law 738 = .ok (.iaload, 1) := by decide +kernel
theorem dL_law_739 : decode cL_law 739 = .ok (.aload_n 0, 1) := by decide +kernel
theorem dL_law_740 : decode cL_law 740 = .ok (.iload_n 3, 1) := by decide +kernel
theorem dL_law_741 : decode cL_law 741 = .ok (.iconst 2, 1) := by decide +kernel
theorem dL_law_742 : decode cL_law 742 = .ok (.iadd, 1) := by decide +kernel
theorem dL_law_743 : decode cL_law 743 = .ok (.iaload, 1) := by decide +kernel
theorem dL_law_744 : decode cL_law 744 = .ok (.aload_n 0, 1) := by decide +kernel
theorem dL_law_745 : decode cL_law 745 = .ok (.iload_n 3, 1) := by decide +kernel
theorem dL_law_746 : decode cL_law 746 = .ok (.iconst 3, 1) := by decide +kernel
theorem dL_law_747 : decode cL_law 747 = .ok (.iadd, 1) := by decide +kernel
theorem dL_law_748 : decode cL_law 748 = .ok (.iaload, 1) := by decide +kernel
theorem dL_law_749 : decode cL_law 749 = .ok (.aload_n 0, 1) := by decide +kernel
theorem dL_law_750 : decode cL_law 750 = .ok (.iload_n 3, 1) := by decide +kernel
theorem dL_law_751 : decode cL_law 751 = .ok (.iconst 4, 1) := by decide +kernel
theorem dL_law_752 : decode cL_law 752 = .ok (.iadd, 1) := by decide +kernel
theorem dL_law_753 : decode cL_law 753 = .ok (.iaload, 1) := by decide +kernel
theorem dL_law_754 : decode cL_law 754 = .ok (.invokevirtual 98, 3) := by decide +kernel
theorem dL_law_757 : decode cL_law 757 = .ok (.if_icmp .eq 321, 3) := by decide +kernel
theorem dL_law_760 : decode cL_law 760 = .ok (.iconst 0, 1) := by decide +kernel
theorem dL_law_761 : decode cL_law 761 = .ok (.ireturn, 1) := by decide +kernel
theorem dL_law_762 : decode cL_law 762 = .ok (.aload_n 1, 1) := by decide +kernel
theorem dL_law_763 : decode cL_law 763 = .ok (.aload_n 0, 1) := by decide +kernel
theorem dL_law_764 : decode cL_law 764 = .ok (.iload_n 3, 1) := by decide +kernel
theorem dL_law_765 : decode cL_law 765 = .ok (.iconst 1, 1) := by decide +kernel
theorem dL_law_766 : decode cL_law 766 = .ok (.iadd, 1) := by decide +kernel
theorem dL_law_767 : decode cL_law 767 = .ok (.iaload, 1) := by decide +kernel
theorem dL_law_768 : decode cL_law 768 = .ok (.invokevirtual 99, 3) := by decide +kernel
theorem dL_law_771 : decode cL_law 771 = .ok (.aload_n 2, 1) := by decide +kernel
theorem dL_law_772 : decode cL_law 772 = .ok (.aload_n 0, 1) := by decide +kernel
theorem dL_law_773 : decode cL_law 773 = .ok (.iload_n 3, 1) := by decide +kernel
theorem dL_law_774 : decode cL_law 774 = .ok (.iconst 1, 1) := by decide +kernel
theorem dL_law_775 : decode cL_law 775 = .ok (.iadd, 1) := by decide +kernel
theorem dL_law_776 : decode cL_law 776 = .ok (.iaload, 1) := by decide +kernel
theorem dL_law_777 : decode cL_law 777 = .ok (.invokevirtual 102, 3) := by decide +kernel
theorem dL_law_780 : decode cL_law 780 = .ok (.if_icmp .eq 298, 3) := by decide +kernel
theorem dL_law_783 : decode cL_law 783 = .ok (.iconst 0, 1) := by decide +kernel
theorem dL_law_784 : decode cL_law 784 = .ok (.ireturn, 1) := by decide +kernel
theorem dL_law_785 : decode cL_law 785 = .ok (.aload_n 1, 1) := by decide +kernel
theorem dL_law_786 : decode cL_law 786 = .ok (.aload_n 0, 1) := by decide +kernel
theorem dL_law_787 : decode cL_law 787 = .ok (.iload_n 3, 1) := by decide +kernel
theorem dL_law_788 : decode cL_law 788 = .ok (.iconst 1, 1) := by decide +kernel
theorem dL_law_789 : decode cL_law 789 = .ok (.iadd, 1) := by decide +kernel
theorem dL_law_790 : decode cL_law 790 = .ok (.iaload, 1) := by decide +kernel
theorem dL_law_791 : decode cL_law 791 = .ok (.aload_n 0, 1) := by decide +kernel
theorem dL_law_792 : decode cL_law 792 = .ok (.iload_n 3, 1) := by decide +kernel
theorem dL_law_793 : decode cL_law 793 = .ok (.iconst 2, 1) := by decide +kernel
theorem dL_law_794 : decode cL_law 794 = .ok (.iadd, 1) := by decide +kernel
theorem dL_law_795 : decode cL_law 795 = .ok (.iaload, 1) := by decide +kernel
theorem dL_law_796 : decode cL_law 796 = .ok (.invokevirtual 103, 3) := by decide +kernel
theorem dL_law_799 : decode cL_law 799 = .ok (.aload_n 2, 1) := by decide +kernel
theorem dL_law_800 : decode cL_law 800 = .ok (.aload_n 0, 1) := by decide +kernel
theorem dL_law_801 : decode cL_law 801 = .ok (.iload_n 3, 1) := by decide +kernel
theorem dL_law_802 : decode cL_law 802 = .ok (.iconst 1, 1) := by decide +kernel
theorem dL_law_803 : decode cL_law 803 = .ok (.iadd, 1) := by decide +kernel
theorem dL_law_804 : decode cL_law 804 = .ok (.iaload, 1) := by decide +kernel
theorem dL_law_805 : decode cL_law 805 = .ok (.aload_n 0, 1) := by decide +kernel
theorem dL_law_806 : decode cL_law 806 = .ok (.iload_n 3, 1) := by decide +kernel
theorem dL_law_807 : decode cL_law 807 = .ok (.iconst 2, 1) := by decide +kernel
theorem dL_law_808 : decode cL_law 808 = .ok (.iadd, 1) := by decide +kernel
theorem dL_law_809 : decode cL_law 809 = .ok (.iaload, 1) := by decide +kernel
theorem dL_law_810 : decode cL_law 810 = .ok (.invokevirtual 106, 3) := by decide +kernel
theorem dL_law_813 : decode cL_law 813 = .ok (.if_icmp .eq 265, 3) := by decide +kernel
theorem dL_law_816 : decode cL_law 816 = .ok (.iconst 0, 1) := by decide +kernel
theorem dL_law_817 : decode cL_law 817 = .ok (.ireturn, 1) := by decide +kernel
theorem dL_law_818 : decode cL_law 818 = .ok (.aload_n 1, 1) := by decide +kernel
theorem dL_law_819 : decode cL_law 819 = .ok (.aload_n 0, 1) := by decide +kernel
theorem dL_law_820 : decode cL_law 820 = .ok (.iload_n 3, 1) := by decide +kernel
theorem dL_law_821 : decode cL_law 821 = .ok (.iconst 1, 1) := by decide +kernel
theorem dL_law_822 : decode cL_law 822 = .ok (.iadd, 1) := by decide +kernel
theorem dL_law_823 : decode cL_law 823 = .ok (.iaload, 1) := by decide +kernel
theorem dL_law_824 : decode cL_law 824 = .ok (.aload_n 0, 1) := by decide +kernel
theorem dL_law_825 : decode cL_law 825 = .ok (.iload_n 3, 1) := by decide +kernel
theorem dL_law_826 : decode cL_law 826 = .ok (.iconst 2, 1) := by decide +kernel
theorem dL_law_827 : decode cL_law 827 = .ok (.iadd, 1) := by decide +kernel
theorem dL_law_828 : decode cL_law 828 = .ok (.iaload, 1) := by decide +kernel
theorem dL_law_829 : decode cL_law 829 = .ok (.invokevirtual 107, 3) := by decide +kernel
theorem dL_law_832 : decode cL_law 832 = .ok (.aload_n 2, 1) := by decide +kernel
theorem dL_law_833 : decode cL_law 833 = .ok (.aload_n 0, 1) := by decide +kernel
theorem dL_law_834 : decode cL_law 834 = .ok (.iload_n 3, 1) := by decide +kernel
theorem dL_law_835 : decode cL_law 835 = .ok (.iconst 1, 1) := by decide +kernel
theorem dL_law_836 : decode cL_law 836 = .ok (.iadd, 1) := by decide +kernel
theorem dL_law_837 : decode cL_law 837 = .ok (.iaload, 1) := by decide +kernel
theorem dL_law_838 : decode cL_law 838 = .ok (.aload_n 0, 1) := by decide +kernel
theorem dL_law_839 : decode cL_law 839 = .ok (.iload_n 3, 1) := by decide +kernel
theorem dL_law_840 : decode cL_law 840 = .ok (.iconst 2, 1) := by decide +kernel
theorem dL_law_841 : decode cL_law 841 = .ok (.iadd, 1) := by decide +kernel
theorem dL_law_842 : decode cL_law 842 = .ok (.iaload, 1) := by decide +kernel
theorem dL_law_843 : decode cL_law 843 = .ok (.invokevirtual 110, 3) := by decide +kernel
theorem dL_law_846 : decode cL_law 846 = .ok (.if_icmp .eq 232, 3) := by decide +kernel
theorem dL_law_849 : decode cL_law 849 = .ok (.iconst 0, 1) := by decide +kernel
theorem dL_law_850 : decode cL_law 850 = .ok (.ireturn, 1) := by decide +kernel
theorem dL_law_851 : decode cL_law 851 = .ok (.aload_n 1, 1) := by decide +kernel
theorem dL_law_852 : decode cL_law 852 = .ok (.aload_n 0, 1) := by decide +kernel
theorem dL_law_853 : decode cL_law 853 = .ok (.iload_n 3, 1) := by decide +kernel
theorem dL_law_854 : decode cL_law 854 = .ok (.iconst 1, 1) := by decide +kernel
theorem dL_law_855 : decode cL_law 855 = .ok (.iadd, 1) := by decide +kernel
theorem dL_law_856 : decode cL_law 856 = .ok (.iaload, 1) := by decide +kernel
theorem dL_law_857 : decode cL_law 857 = .ok (.aload_n 0, 1) := by decide +kernel
theorem dL_law_858 : decode cL_law 858 = .ok (.iload_n 3, 1) := by decide +kernel
theorem dL_law_859 : decode cL_law 859 = .ok (.iconst 2, 1) := by decide +kernel
theorem dL_law_860 : decode cL_law 860 = .ok (.iadd, 1) := by decide +kernel
theorem dL_law_861 : decode cL_law 861 = .ok (.iaload, 1) := by decide +kernel
theorem dL_law_862 : decode cL_law 862 = .ok (.aload_n 0, 1) := by decide +kernel
theorem dL_law_863 : decode cL_law 863 = .ok (.iload_n 3, 1) := by decide +kernel
theorem dL_law_864 : decode cL_law 864 = .ok (.iconst 3, 1) := by decide +kernel
theorem dL_law_865 : decode cL_law 865 = .ok (.iadd, 1) := by decide +kernel
theorem dL_law_866 : decode cL_law 866 = .ok (.iaload, 1) := by decide +kernel
theorem dL_law_867 : decode cL_law 867 = .ok (.invokevirtual 111, 3) := by decide +kernel
theorem dL_law_870 : decode cL_law 870 = .ok (.aload_n 2, 1) := by decide +kernel
theorem dL_law_871 : decode cL_law 871 = .ok (.aload_n 0, 1) := by decide +kernel
theorem dL_law_872 : decode cL_law 872 = .ok (.iload_n 3, 1) := by decide +kernel
theorem dL_law_873 : decode cL_law 873 = .ok (.iconst 1, 1) := by decide +kernel
theorem dL_law_874 : decode cL_law 874 = .ok (.iadd, 1) := by decide +kernel
theorem dL_law_875 : decode cL_law 875 = .ok (.iaload, 1) := by decide +kernel
theorem dL_law_876 : decode cL_law 876 = .ok (.aload_n 0, 1) := by decide +kernel
theorem dL_law_877 : decode cL_law 877 = .ok (.iload_n 3, 1) := by decide +kernel
theorem dL_law_878 : decode cL_law 878 = .ok (.iconst 2, 1) := by decide +kernel
theorem dL_law_879 : decode cL_law 879 = .ok (.iadd, 1) := by decide +kernel
theorem dL_law_880 : decode cL_law 880 = .ok (.iaload, 1) := by decide +kernel
theorem dL_law_881 : decode cL_law 881 = .ok (.aload_n 0, 1) := by decide +kernel
theorem dL_law_882 : decode cL_law 882 = .ok (.iload_n 3, 1) := by decide +kernel
theorem dL_law_883 : decode cL_law 883 = .ok (.iconst 3, 1) := by decide +kernel
theorem dL_law_884 : decode cL_law 884 = .ok (.iadd, 1) := by decide +kernel
theorem dL_law_885 : decode cL_law 885 = .ok (.iaload, 1) := by decide +kernel
theorem dL_law_886 : decode cL_law 886 = .ok (.invokevirtual 114, 3) := by decide +kernel
theorem dL_law_889 : decode cL_law 889 = .ok (.if_icmp .eq 189, 3) := by decide +kernel
theorem dL_law_892 : decode cL_law 892 = .ok (.iconst 0, 1) := by decide +kernel
theorem dL_law_893 : decode cL_law 893 = .ok (.ireturn, 1) := by decide +kernel
theorem dL_law_894 : decode cL_law 894 = .ok (.aload_n 1, 1) := by decide +kernel
theorem dL_law_895 : decode cL_law 895 = .ok (.invokevirtual 115, 3) := by decide +kernel
theorem dL_law_898 : decode cL_law 898 = .ok (.aload_n 2, 1) := by decide +kernel
theorem dL_law_899 : decode cL_law 899 = .ok (.invokevirtual 118, 3) := by decide +kernel
theorem dL_law_902 : decode cL_law 902 = .ok (.if_icmp .eq 176, 3) := by decide +kernel
theorem dL_law_905 : decode cL_law 905 = .ok (.iconst 0, 1) := by decide +kernel
theorem dL_law_906 : decode cL_law 906 = .ok (.ireturn, 1) := by decide +kernel
theorem dL_law_907 : decode cL_law 907 = .ok (.aload_n 1, 1) := by decide +kernel
theorem dL_law_908 : decode cL_law 908 = .ok (.aload_n 0, 1) := by decide +kernel
theorem dL_law_909 : decode cL_law 909 = .ok (.iload_n 3, 1) := by decide +kernel
theorem dL_law_910 : decode cL_law 910 = .ok (.iconst 1, 1) := by decide +kernel
theorem dL_law_911 : decode cL_law 911 = .ok (.iadd, 1) := by decide +kernel
theorem dL_law_912 : decode cL_law 912 = .ok (.iaload, 1) := by decide +kernel
theorem dL_law_913 : decode cL_law 913 = .ok (.aload_n 0, 1) := by decide +kernel
theorem dL_law_914 : decode cL_law 914 = .ok (.iload_n 3, 1) := by decide +kernel
theorem dL_law_915 : decode cL_law 915 = .ok (.iconst 2, 1) := by decide +kernel
theorem dL_law_916 : decode cL_law 916 = .ok (.iadd, 1) := by decide +kernel
theorem dL_law_917 : decode cL_law 917 = .ok (.iaload, 1) := by decide +kernel
theorem dL_law_918 : decode cL_law 918 = .ok (.aload_n 0, 1) := by decide +kernel
theorem dL_law_919 : decode cL_law 919 = .ok (.iload_n 3, 1) := by decide +kernel
theorem dL_law_920 : decode cL_law 920 = .ok (.iconst 3, 1) := by decide +kernel
theorem dL_law_921 : decode cL_law 921 = .ok (.iadd, 1) := by decide +kernel
theorem dL_law_922 : decode cL_law 922 = .ok (.iaload, 1) := by decide +kernel
theorem dL_law_923 : decode cL_law 923 = .ok (.invokevirtual 119, 3) := by decide +kernel
theorem dL_law_926 : decode cL_law 926 = .ok (.aload_n 2, 1) := by decide +kernel
theorem dL_law_927 : decode cL_law 927 = .ok (.aload_n 0, 1) := by decide +kernel
theorem dL_law_928 : decode cL_law 928 = .ok (.iload_n 3, 1) := by decide +kernel
theorem dL_law_929 : decode cL_law 929 = .ok (.iconst 1, 1) := by decide +kernel
theorem dL_law_930 : decode cL_law 930 = .ok (.iadd, 1) := by decide +kernel
theorem dL_law_931 : decode cL_law 931 = .ok (.iaload, 1) := by decide +kernel
theorem dL_law_932 : decode cL_law 932 = .ok (.aload_n 0, 1) := by decide +kernel
theorem dL_law_933 : decode cL_law 933 = .ok (.iload_n 3, 1) := by decide +kernel
theorem dL_law_934 : decode cL_law 934 = .ok (.iconst 2, 1) := by decide +kernel
theorem dL_law_935 : decode cL_law 935 = .ok (.iadd, 1) := by decide +kernel
theorem dL_law_936 : decode cL_law 936 = .ok (.iaload, 1) := by decide +kernel
theorem dL_law_937 : decode cL_law 937 = .ok (.aload_n 0, 1) := by decide +kernel
theorem dL_law_938 : decode cL_law 938 = .ok (.iload_n 3, 1) := by decide +kernel
theorem dL_law_939 : decode cL_law 939 = .ok (.iconst 3, 1) := by decide +kernel
theorem dL_law_940 : decode cL_law 940 = .ok (.iadd, 1) := by decide +kernel
theorem dL_law_941 : decode cL_law 941 = .ok (.iaload, 1) := by decide +kernel
theorem dL_law_942 : decode cL_law 942 = .ok (.invokevirtual 122, 3) := by decide +kernel
theorem dL_law_945 : decode cL_law 945 = .ok (.if_icmp .eq 133, 3) := by decide +kernel
theorem dL_law_948 : decode cL_law 948 = .ok (.iconst 0, 1) := by decide +kernel
theorem dL_law_949 : decode cL_law 949 = .ok (.ireturn, 1) := by decide +kernel
theorem dL_law_950 : decode cL_law 950 = .ok (.aload_n 1, 1) := by decide +kernel
theorem dL_law_951 : decode cL_law 951 = .ok (.aload_n 0, 1) := by decide +kernel
theorem dL_law_952 : decode cL_law 952 = .ok (.iload_n 3, 1) := by decide +kernel
theorem dL_law_953 : decode cL_law 953 = .ok (.iconst 1, 1) := by decide +kernel
theorem dL_law_954 : decode cL_law 954 = .ok (.iadd, 1) := by decide +kernel
theorem dL_law_955 : decode cL_law 955 = .ok (.iaload, 1) := by decide +kernel
theorem dL_law_956 : decode cL_law 956 = .ok (.aload_n 0, 1) := by decide +kernel
theorem dL_law_957 : decode cL_law 957 = .ok (.iload_n 3, 1) := by decide +kernel
theorem dL_law_958 : decode cL_law 958 = .ok (.iconst 2, 1) := by decide +kernel
theorem dL_law_959 : decode cL_law 959 = .ok (.iadd, 1) := by decide +kernel
theorem dL_law_960 : decode cL_law 960 = .ok (.iaload, 1) := by decide +kernel
theorem dL_law_961 : decode cL_law 961 = .ok (.invokevirtual 123, 3) := by decide +kernel
theorem dL_law_964 : decode cL_law 964 = .ok (.aload_n 2, 1) := by decide +kernel
theorem dL_law_965 : decode cL_law 965 = .ok (.aload_n 0, 1) := by decide +kernel
theorem dL_law_966 : decode cL_law 966 = .ok (.iload_n 3, 1) := by decide +kernel
theorem dL_law_967 : decode cL_law 967 = .ok (.iconst 1, 1) := by decide +kernel
theorem dL_law_968 : decode cL_law 968 = .ok (.iadd, 1) := by decide +kernel
theorem dL_law_969 : decode cL_law 969 = .ok (.iaload, 1) := by decide +kernel
theorem dL_law_970 : decode cL_law 970 = .ok (.aload_n 0, 1) := by decide +kernel
theorem dL_law_971 : decode cL_law 971 = .ok (.iload_n 3, 1) := by decide +kernel
theorem dL_law_972 : decode cL_law 972 = .ok (.iconst 2, 1) := by decide +kernel
theorem dL_law_973 : decode cL_law 973 = .ok (.iadd, 1) := by decide +kernel
theorem dL_law_974 : decode cL_law 974 = .ok (.iaload, 1) := by decide +kernel
theorem dL_law_975 : decode cL_law 975 = .ok (.invokevirtual 126, 3) := by decide +kernel
theorem dL_law_978 : decode cL_law 978 = .ok (.if_icmp .eq 100, 3) := by decide +kernel
theorem dL_law_981 : decode cL_law 981 = .ok (.iconst 0, 1) := by decide +kernel
theorem dL_law_982 : decode cL_law 982 = .ok (.ireturn, 1) := by decide +kernel
theorem dL_law_983 : decode cL_law 983 = .ok (.aload_n 1, 1) := by decide +kernel
theorem dL_law_984 : decode cL_law 984 = .ok (.invokevirtual 127, 3) := by decide +kernel
theorem dL_law_987 : decode cL_law 987 = .ok (.aload_n 2, 1) := by decide +kernel
theorem dL_law_988 : decode cL_law 988 = .ok (.invokevirtual 130, 3) := by decide +kernel
theorem dL_law_991 : decode cL_law 991 = .ok (.if_icmp .eq 87, 3) := by decide +kernel
theorem dL_law_994 : decode cL_law 994 = .ok (.iconst 0, 1) := by decide +kernel
theorem dL_law_995 : decode cL_law 995 = .ok (.ireturn, 1) := by decide +kernel
theorem dL_law_996 : decode cL_law 996 = .ok (.aload_n 1, 1) := by decide +kernel
theorem dL_law_997 : decode cL_law 997 = .ok (.invokevirtual 131, 3) := by decide +kernel
theorem dL_law_1000 : decode cL_law 1000 = .ok (.aload_n 2, 1) := by decide +kernel
theorem dL_law_1001 : decode cL_law 1001 = .ok (.invokevirtual 134, 3) := by decide +kernel
theorem dL_law_1004 : decode cL_law 1004 = .ok (.if_icmp .eq 74, 3) := by decide +kernel
theorem dL_law_1007 : decode cL_law 1007 = .ok (.iconst 0, 1) := by decide +kernel
theorem dL_law_1008 : decode cL_law 1008 = .ok (.ireturn, 1) := by decide +kernel
theorem dL_law_1009 : decode cL_law 1009 = .ok (.aload_n 1, 1) := by decide +kernel
theorem dL_law_1010 : decode cL_law 1010 = .ok (.aload_n 0, 1) := by decide +kernel
theorem dL_law_1011 : decode cL_law 1011 = .ok (.iload_n 3, 1) := by decide +kernel
theorem dL_law_1012 : decode cL_law 1012 = .ok (.iconst 1, 1) := by decide +kernel
theorem dL_law_1013 : decode cL_law 1013 = .ok (.iadd, 1) := by decide +kernel
theorem dL_law_1014 : decode cL_law 1014 = .ok (.iaload, 1) := by decide +kernel
theorem dL_law_1015 : decode cL_law 1015 = .ok (.invokevirtual 135, 3) := by decide +kernel
theorem dL_law_1018 : decode cL_law 1018 = .ok (.aload_n 2, 1) := by decide +kernel
theorem dL_law_1019 : decode cL_law 1019 = .ok (.aload_n 0, 1) := by decide +kernel
theorem dL_law_1020 : decode cL_law 1020 = .ok (.iload_n 3, 1) := by decide +kernel
theorem dL_law_1021 : decode cL_law 1021 = .ok (.iconst 1, 1) := by decide +kernel
theorem dL_law_1022 : decode cL_law 1022 = .ok (.iadd, 1) := by decide +kernel
theorem dL_law_1023 : decode cL_law 1023 = .ok (.iaload, 1) := by decide +kernel
theorem dL_law_1024 : decode cL_law 1024 = .ok (.invokevirtual 138, 3) := by decide +kernel
theorem dL_law_1027 : decode cL_law 1027 = .ok (.if_icmp .eq 51, 3) := by decide +kernel
theorem dL_law_1030 : decode cL_law 1030 = .ok (.iconst 0, 1) := by decide +kernel
theorem dL_law_1031 : decode cL_law 1031 = .ok (.ireturn, 1) := by decide +kernel
theorem dL_law_1032 : decode cL_law 1032 = .ok (.aload_n 1, 1) := by decide +kernel
theorem dL_law_1033 : decode cL_law 1033 = .ok (.aload_n 0, 1) := by decide +kernel
theorem dL_law_1034 : decode cL_law 1034 = .ok (.iload_n 3, 1) := by decide +kernel
theorem dL_law_1035 : decode cL_law 1035 = .ok (.iconst 1, 1) := by decide +kernel
theorem dL_law_1036 : decode cL_law 1036 = .ok (.iadd, 1) := by decide +kernel
theorem dL_law_1037 : decode cL_law 1037 = .ok (.iaload, 1) := by decide +kernel
theorem dL_law_1038 : decode cL_law 1038 = .ok (.invokevirtual 139, 3) := by decide +kernel
theorem dL_law_1041 : decode cL_law 1041 = .ok (.aload_n 2, 1) := by decide +kernel
theorem dL_law_1042 : decode cL_law 1042 = .ok (.aload_n 0, 1) := by decide +kernel
theorem dL_law_1043 : decode cL_law 1043 = .ok (.iload_n 3, 1) := by decide +kernel
theorem dL_law_1044 : decode cL_law 1044 = .ok (.iconst 1, 1) := by decide +kernel
theorem dL_law_1045 : decode cL_law 1045 = .ok (.iadd, 1) := by decide +kernel
theorem dL_law_1046 : decode cL_law 1046 = .ok (.iaload, 1) := by decide +kernel
theorem dL_law_1047 : decode cL_law 1047 = .ok (.invokevirtual 142, 3) := by decide +kernel
theorem dL_law_1050 : decode cL_law 1050 = .ok (.if_icmp .eq 28, 3) := by decide +kernel
theorem dL_law_1053 : decode cL_law 1053 = .ok (.iconst 0, 1) := by decide +kernel
theorem dL_law_1054 : decode cL_law 1054 = .ok (.ireturn, 1) := by decide +kernel
theorem dL_law_1055 : decode cL_law 1055 = .ok (.aload_n 1, 1) := by decide +kernel
theorem dL_law_1056 : decode cL_law 1056 = .ok (.aload_n 0, 1) := by decide +kernel
theorem dL_law_1057 : decode cL_law 1057 = .ok (.iload_n 3, 1) := by decide +kernel
theorem dL_law_1058 : decode cL_law 1058 = .ok (.iconst 1, 1) := by decide +kernel
theorem dL_law_1059 : decode cL_law 1059 = .ok (.iadd, 1) := by decide +kernel
theorem dL_law_1060 : decode cL_law 1060 = .ok (.iaload, 1) := by decide +kernel
theorem dL_law_1061 : decode cL_law 1061 = .ok (.invokevirtual 143, 3) := by decide +kernel
theorem dL_law_1064 : decode cL_law 1064 = .ok (.aload_n 2, 1) := by decide +kernel
theorem dL_law_1065 : decode cL_law 1065 = .ok (.aload_n 0, 1) := by decide +kernel
theorem dL_law_1066 : decode cL_law 1066 = .ok (.iload_n 3, 1) := by decide +kernel
theorem dL_law_1067 : decode cL_law 1067 = .ok (.iconst 1, 1) := by decide +kernel
theorem dL_law_1068 : decode cL_law 1068 = .ok (.iadd, 1) := by decide +kernel
theorem dL_law_1069 : decode cL_law 1069 = .ok (.iaload, 1) := by decide +kernel
theorem dL_law_1070 : decode cL_law 1070 = .ok (.invokevirtual 146, 3) := by decide +kernel
theorem dL_law_1073 : decode cL_law 1073 = .ok (.if_icmp .eq 5, 3) := by decide +kernel
theorem dL_law_1076 : decode cL_law 1076 = .ok (.iconst 0, 1) := by decide +kernel
theorem dL_law_1077 : decode cL_law 1077 = .ok (.ireturn, 1) := by decide +kernel
theorem dL_law_1078 : decode cL_law 1078 = .ok (.iinc 3 5, 3) := by decide +kernel
theorem dL_law_1081 : decode cL_law 1081 = .ok (.goto (-1063), 3) := by decide +kernel
theorem dL_law_1084 : decode cL_law 1084 = .ok (.iconst 1, 1) := by decide +kernel
theorem dL_law_1085 : decode cL_law 1085 = .ok (.ireturn, 1) := by decide +kernel
end
section
/-! THE MEMORY: a row of ints for each object (its int fields, or its elements); what each object is: gt_sh -/
abbrev gt_W : Type := Nat → Nat → Int32
/-- the place within a state's five cells; 9: none -/
def gt_so (a : Nat) : Nat := if 20 ≤ a ∧ a < 30 then (a - 20) % 5 else if 32 ≤ a ∧ a < 112 then (a - 32) % 5 else if 150 ≤ a ∧ a < 155 then a - 150 else if 156 ≤ a ∧ a < 161 then a - 156 else 9
/-- the place within a coast's eight cells; 9: none -/
def gt_co (a : Nat) : Nat := if 4 ≤ a ∧ a < 20 then (a - 4) % 8 else 9
def gt_sh (a : Nat) (r : Nat → Int32) : Option gt_Ob :=
  if gt_so a = 0 then some (oO 8 [.int (r 0), .int (r 1), .ref (a + 1), .ref (a + 2), .ref (a + 3), .ref (a + 4)])
  else if gt_so a < 4 then some (oI 6 r)
  else if gt_so a = 4 then some (oI 4 r)
  else if gt_co a = 0 then some (oO 0 [.int (r 0), .int (r 1), .int (r 2), .int (r 3), .ref (a + 1), .ref (a + 2), .ref (a + 3), .ref (a + 4), .ref (a + 5), .ref (a + 6), .ref (a + 7)])
  else if gt_co a = 1 then some (oI 10 r)
  else if gt_co a < 5 then some (oI 6 r)
  else if gt_co a < 8 then some (oI 4 r)
  else if a = 1 then some (oO 9 [.ref 2, .ref (r 1).toNatClampNeg, .ref (r 2).toNatClampNeg, .ref 20, .ref 25, .ref 30, .ref 112, .ref 113, .ref 114, .ref 123, .ref 141, .int (r 11)])
  else if a = 2 then some (oO 6 [.ref 3, .int (r 1), .int (r 2), .int (r 3), .int (r 4)])
  else if a = 3 then some (oI 240 r)
  else if a = 30 then some (oO 4 [.ref 31, .int (r 1), .int (r 2)])
  else if a = 31 then some (oR 2 16 (fun i => if i < 16 then some (32 + 5 * i) else none))
  else if a = 112 then some (oR 3 2 (fun i => if i < 2 then some (149 + 6 * i) else none))
  else if a = 113 then some (oO 1 [.int (r 0)])
  else if a = 114 then some (oO 3 [.int (r 0), .int (r 1), .int (r 2), .ref 115, .ref 116, .ref 117, .ref 118, .ref 119, .ref 120, .ref 121, .ref 122])
  else if 115 ≤ a ∧ a < 121 then some (oI 6 r)
  else if 121 ≤ a ∧ a < 123 then some (oI 15 r)
  else if a = 123 then some (oO 5 [.ref 124, .ref 125, .ref 126, .ref 133, .int (r 4), .int (r 5)])
  else if 124 ≤ a ∧ a < 126 then some (oI 6 r)
  else if a = 126 then some (oR 4 6 (fun i => if i < 6 then some (127 + i) else none))
  else if 127 ≤ a ∧ a < 133 then some (oI 6 r)
  else if a = 133 then some (oR 4 7 (fun i => if i < 7 then some (134 + i) else none))
  else if 134 ≤ a ∧ a < 141 then some (oI 7 r)
  else if a = 141 then some (oO 7 [.ref 142])
  else if a = 142 then some (oR 4 6 (fun i => if i < 6 then some (143 + i) else none))
  else if 143 ≤ a ∧ a < 149 then some (oI 200 r)
  else if a = 149 then some (oO 2 [.ref 150, .int (r 1), .int (r 2)])
  else if a = 155 then some (oO 2 [.ref 156, .int (r 1), .int (r 2)])
  else if a = 161 then some (oO 10 [.ref 162, .ref 163, .ref 164, .ref 165, .ref 166, .int (r 5), .ref 167, .ref 168, .long (r 8).toInt64, .ref 169, .int (r 10), .int (r 11), .ref 170, .int (r 13), .ref 171, .int (r 15), .ref 172, .int (r 17), .int (r 18), .int (r 19), .int (r 20), .int (r 21), .int (r 22), .int (r 23), .ref 173, .ref 174, .int (r 26), .int (r 27), .ref 175])
  else if a = 162 then some (oI 44 r)
  else if a = 163 then some (oI 44 r)
  else if a = 164 then some (oI 24 r)
  else if a = 165 then some (oI 24 r)
  else if a = 166 then some (oI 384 r)
  else if a = 167 then some (oI 50 r)
  else if a = 168 then some (oZ 2 r)
  else if a = 169 then some (oI 240 r)
  else if a = 170 then some (oI 18 r)
  else if a = 171 then some (oI 18 r)
  else if a = 172 then some (oI 30 r)
  else if a = 173 then some (oI 6 r)
  else if a = 174 then some (oI 6 r)
  else if a = 175 then some (oI 1200 r)
  else none
def gt_enc (w : gt_W) : gt_H := fun a => gt_sh a (w a)
/-- another row -/
def gt_wr (w : gt_W) (a : Nat) (f : Nat → Int32) : gt_W := fun k => if k = a then f else w k
theorem gt_wr_eq (w : gt_W) (a : Nat) (f : Nat → Int32) : gt_wr w a f a = f := if_pos rfl
theorem gt_wr_ne (w : gt_W) {a k : Nat} (f : Nat → Int32) (h : k ≠ a) : gt_wr w a f k = w k := if_neg h
theorem gt_enc_up {w : gt_W} {a : Nat} {f : Nat → Int32} {o : gt_Ob} (h : gt_sh a f = some o) : gt_up (gt_enc w) a o = gt_enc (gt_wr w a f) := by
  funext k
  unfold gt_up gt_enc gt_wr
  by_cases hk : k = a
  · subst hk; simp only [if_pos]; exact h.symm
  · simp only [if_neg hk]
/-- an index and its number -/
def gt_ix (i : Int32) (k n : Nat) : Prop := vp_in i n ∧ i.toNatClampNeg = k
theorem gt_ixn {k n : Nat} (h : k < n) (hn : n < 2 ^ 31 := by decide) : gt_ix (nI k) k n := ⟨vp_in_nI h hn, nI_clamp (Nat.lt_trans h hn)⟩
theorem gt_ixe {i : Int32} {k n : Nat} (e : i = nI k) (h : k < n) (hn : n < 2 ^ 31 := by decide) : gt_ix i k n := by rw [e]; exact gt_ixn h hn
section GE
variable {l : Launch} {G : gt_G} {own nm : String} {cc : ByteArray} {mL : Nat} {rt : Option FieldType} {R : Room} {Z : gt_Zt} {N : Nat × Nat × Nat} {pc : Nat} {lv : List (Nat × Value)} {st : List Value} {w : gt_W}
theorem ge_put (j : Nat) {idx ci k a : Nat} {ty : FieldType} {fs : List Value} {v : Value} {x : Int32} (hF : gt_F own idx ci k ty false) (ho : gt_sh a (w a) = some (oO ci fs)) (ho' : gt_sh a (upd (w a) j x) = some (oO ci (fs.set k v))) (hn : narrow ty (gt_v G v) = gt_v G v) (hf : fits ty (gt_v G v) = true) (hl0 : k < fs.length) (hd : decode cc pc = .ok (.putfield idx, 3)) (kk : gt_A l G own nm cc mL rt R Z N (pc + 3) lv st (gt_enc (gt_wr w a (upd (w a) j x)))) : gt_A l G own nm cc mL rt R Z N pc lv (v :: .ref a :: st) (gt_enc w) :=
  ga_put hF ho hn hf hl0 hd (ga_heap (gt_enc_up ho') kk)
theorem ge_iald {a n k : Nat} {i : Int32} (ho : ∀ r, gt_sh a r = some (oI n r)) (hi : gt_ix i k n) (hd : decode cc pc = .ok (.iaload, 1)) (kk : gt_A l G own nm cc mL rt R Z N (pc + 1) lv (.int (w a k) :: st) (gt_enc w)) : gt_A l G own nm cc mL rt R Z N pc lv (.int i :: .ref a :: st) (gt_enc w) :=
  ga_iald (ho (w a)) hi.1 hd (by rw [hi.2]; exact kk)
theorem ge_zald {a n k : Nat} {i : Int32} (ho : ∀ r, gt_sh a r = some (oZ n r)) (hi : gt_ix i k n) (hd : decode cc pc = .ok (.baload, 1)) (kk : gt_A l G own nm cc mL rt R Z N (pc + 1) lv (.int (w a k) :: st) (gt_enc w)) : gt_A l G own nm cc mL rt R Z N pc lv (.int i :: .ref a :: st) (gt_enc w) :=
  ga_zald (ho (w a)) hi.1 hd (by rw [hi.2]; exact kk)
theorem ge_iast {a n k : Nat} {i x : Int32} (ho : ∀ r, gt_sh a r = some (oI n r)) (hi : gt_ix i k n) (hd : decode cc pc = .ok (.iastore, 1)) (kk : gt_A l G own nm cc mL rt R Z N (pc + 1) lv st (gt_enc (gt_wr w a (upd (w a) k x)))) : gt_A l G own nm cc mL rt R Z N pc lv (.int x :: .int i :: .ref a :: st) (gt_enc w) :=
  ga_iast (ho (w a)) hi.1 hd (by rw [hi.2]; exact ga_heap (gt_enc_up (ho _)) kk)
theorem ge_zast {a n k : Nat} {i x : Int32} (ho : ∀ r, gt_sh a r = some (oZ n r)) (hi : gt_ix i k n) (hx : narrow .boolean (.int x) = .int x) (hd : decode cc pc = .ok (.bastore, 1)) (kk : gt_A l G own nm cc mL rt R Z N (pc + 1) lv st (gt_enc (gt_wr w a (upd (w a) k x)))) : gt_A l G own nm cc mL rt R Z N pc lv (.int x :: .int i :: .ref a :: st) (gt_enc w) :=
  ga_zast (ho (w a)) hi.1 hx hd (by rw [hi.2]; exact ga_heap (gt_enc_up (ho _)) kk)
theorem ge_aald {a kd n k b : Nat} {ty : FieldType} {f : Nat → Option Nat} {i : Int32} (ho : ∀ r, gt_sh a r = some (oR kd n f)) (ht : (gt_tys G)[kd]? = some (G.2.1 kd, ty)) (hty : ty.isReference = true) (hi : gt_ix i k n) (hb : f k = some b) (hd : decode cc pc = .ok (.aaload, 1)) (kk : gt_A l G own nm cc mL rt R Z N (pc + 1) lv (.ref b :: st) (gt_enc w)) : gt_A l G own nm cc mL rt R Z N pc lv (.int i :: .ref a :: st) (gt_enc w) :=
  ga_aald (ho (w a)) ht hty hi.1 (by rw [hi.2]; exact hb) hd kk
end GE
theorem ge_copy {l : Launch} {G : gt_G} {own nm : String} {cc : ByteArray} {mL : Nat} {rt : Option FieldType} {R : Room} {Z : gt_Zt} {n uc us pc : Nat} {lv : List (Nat × Value)} {st : List Value} {w : gt_W} {idx a0 a n0 n1 k0 k1 m : Nat} {sp dp k : Int32} (hl1 : Cond.methodLink own idx arraycopyName ∈ gt_tbl) (ho0 : ∀ r, gt_sh a0 r = some (oI n0 r)) (ho1 : ∀ r, gt_sh a r = some (oI n1 r)) (h3 : sp = nI k0) (h4 : dp = nI k1) (h5 : k = nI m) (h6 : k0 + m ≤ n0) (h7 : k1 + m ≤ n1) (hb : n0 < 1000000 ∧ n1 < 1000000) (hr : 1 ≤ R.frames ∧ 40 ≤ R.locals) (hs : (st.map fun v => v.category).sum ≤ 8) (hd : decode cc pc = .ok (.invokestatic idx, 3))
    (kk : gt_A l G own nm cc mL rt R Z (n, uc, us) (pc + 3) lv st (gt_enc (gt_wr w a (va_cpy (w a0) (w a) k0 k1 m)))) : gt_A l G own nm cc mL rt R Z (n, uc, us) pc lv (.int k :: .int dp :: .ref a :: .int sp :: .ref a0 :: st) (gt_enc w) := by
  subst h3; subst h4; subst h5
  have b0 : k0 < 2 ^ 31 := by omega
  have b1 : k1 < 2 ^ 31 := by omega
  have b2 : m < 2 ^ 31 := by omega
  refine ga_copy hl1 kcopy (ho0 (w a0)) (ho1 (w a)) (nI_pos b0) (nI_pos b1) (nI_pos b2) (by rw [nI_clamp b0, nI_clamp b2]; exact h6) (by rw [nI_clamp b1, nI_clamp b2]; exact h7) hr hs kcopy_w hd ?_
  rw [nI_clamp b0, nI_clamp b1, nI_clamp b2]
  exact ga_heap (gt_enc_up (ho1 _)) kk
/-- states and coasts: where they lie -/
def gt_isS (s : Nat) : Prop := s = 20 ∨ s = 25 ∨ s = 150 ∨ s = 156 ∨ ∃ j, j < 16 ∧ s = 32 + 5 * j
def gt_isC (c : Nat) : Prop := c = 4 ∨ c = 12
theorem gt_isS_so {s : Nat} (h : gt_isS s) : gt_so s = 0 ∧ gt_so (s + 1) = 1 ∧ gt_so (s + 2) = 2 ∧ gt_so (s + 3) = 3 ∧ gt_so (s + 4) = 4 := by
  rcases h with rfl | rfl | rfl | rfl | ⟨j, hj, rfl⟩
  · decide
  · decide
  · decide
  · decide
  · unfold gt_so
    refine ⟨?_, ?_, ?_, ?_, ?_⟩ <;> rw [if_neg (by omega), if_pos (by omega)] <;> omega
theorem shS {s : Nat} (h : gt_isS s) (r : Nat → Int32) : gt_sh s r = some (oO 8 [.int (r 0), .int (r 1), .ref (s + 1), .ref (s + 2), .ref (s + 3), .ref (s + 4)]) := by
  unfold gt_sh; rw [if_pos (gt_isS_so h).1]
theorem shS1 {s : Nat} (h : gt_isS s) (r : Nat → Int32) : gt_sh (s + 1) r = some (oI 6 r) := by
  unfold gt_sh; rw [(gt_isS_so h).2.1]; rfl
theorem shS2 {s : Nat} (h : gt_isS s) (r : Nat → Int32) : gt_sh (s + 2) r = some (oI 6 r) := by
  unfold gt_sh; rw [(gt_isS_so h).2.2.1]; rfl
theorem shS3 {s : Nat} (h : gt_isS s) (r : Nat → Int32) : gt_sh (s + 3) r = some (oI 6 r) := by
  unfold gt_sh; rw [(gt_isS_so h).2.2.2.1]; rfl
theorem shS4 {s : Nat} (h : gt_isS s) (r : Nat → Int32) : gt_sh (s + 4) r = some (oI 4 r) := by
  unfold gt_sh; rw [(gt_isS_so h).2.2.2.2]; rfl
theorem shC {c : Nat} (h : gt_isC c) (r : Nat → Int32) : gt_sh c r = some (oO 0 [.int (r 0), .int (r 1), .int (r 2), .int (r 3), .ref (c + 1), .ref (c + 2), .ref (c + 3), .ref (c + 4), .ref (c + 5), .ref (c + 6), .ref (c + 7)]) := by
  rcases h with rfl | rfl <;> rfl
theorem shC1 {c : Nat} (h : gt_isC c) (r : Nat → Int32) : gt_sh (c + 1) r = some (oI 10 r) := by rcases h with rfl | rfl <;> rfl
theorem shC2 {c : Nat} (h : gt_isC c) (r : Nat → Int32) : gt_sh (c + 2) r = some (oI 6 r) := by rcases h with rfl | rfl <;> rfl
theorem shC3 {c : Nat} (h : gt_isC c) (r : Nat → Int32) : gt_sh (c + 3) r = some (oI 6 r) := by rcases h with rfl | rfl <;> rfl
theorem shC4 {c : Nat} (h : gt_isC c) (r : Nat → Int32) : gt_sh (c + 4) r = some (oI 6 r) := by rcases h with rfl | rfl <;> rfl
theorem shC5 {c : Nat} (h : gt_isC c) (r : Nat → Int32) : gt_sh (c + 5) r = some (oI 4 r) := by rcases h with rfl | rfl <;> rfl
theorem shC6 {c : Nat} (h : gt_isC c) (r : Nat → Int32) : gt_sh (c + 6) r = some (oI 4 r) := by rcases h with rfl | rfl <;> rfl
theorem shC7 {c : Nat} (h : gt_isC c) (r : Nat → Int32) : gt_sh (c + 7) r = some (oI 4 r) := by rcases h with rfl | rfl <;> rfl
theorem sh1 (r : Nat → Int32) : gt_sh 1 r = some (oO 9 [.ref 2, .ref (r 1).toNatClampNeg, .ref (r 2).toNatClampNeg, .ref 20, .ref 25, .ref 30, .ref 112, .ref 113, .ref 114, .ref 123, .ref 141, .int (r 11)]) := rfl
theorem sh2 (r : Nat → Int32) : gt_sh 2 r = some (oO 6 [.ref 3, .int (r 1), .int (r 2), .int (r 3), .int (r 4)]) := rfl
theorem sh3 (r : Nat → Int32) : gt_sh 3 r = some (oI 240 r) := rfl
theorem sh30 (r : Nat → Int32) : gt_sh 30 r = some (oO 4 [.ref 31, .int (r 1), .int (r 2)]) := rfl
theorem sh31 (r : Nat → Int32) : gt_sh 31 r = some (oR 2 16 (fun i => if i < 16 then some (32 + 5 * i) else none)) := rfl
theorem sh112 (r : Nat → Int32) : gt_sh 112 r = some (oR 3 2 (fun i => if i < 2 then some (149 + 6 * i) else none)) := rfl
theorem sh113 (r : Nat → Int32) : gt_sh 113 r = some (oO 1 [.int (r 0)]) := rfl
theorem sh114 (r : Nat → Int32) : gt_sh 114 r = some (oO 3 [.int (r 0), .int (r 1), .int (r 2), .ref 115, .ref 116, .ref 117, .ref 118, .ref 119, .ref 120, .ref 121, .ref 122]) := rfl
theorem sh123 (r : Nat → Int32) : gt_sh 123 r = some (oO 5 [.ref 124, .ref 125, .ref 126, .ref 133, .int (r 4), .int (r 5)]) := rfl
theorem sh126 (r : Nat → Int32) : gt_sh 126 r = some (oR 4 6 (fun i => if i < 6 then some (127 + i) else none)) := rfl
theorem sh133 (r : Nat → Int32) : gt_sh 133 r = some (oR 4 7 (fun i => if i < 7 then some (134 + i) else none)) := rfl
theorem sh141 (r : Nat → Int32) : gt_sh 141 r = some (oO 7 [.ref 142]) := rfl
theorem sh142 (r : Nat → Int32) : gt_sh 142 r = some (oR 4 6 (fun i => if i < 6 then some (143 + i) else none)) := rfl
theorem sh161 (r : Nat → Int32) : gt_sh 161 r = some (oO 10 [.ref 162, .ref 163, .ref 164, .ref 165, .ref 166, .int (r 5), .ref 167, .ref 168, .long (r 8).toInt64, .ref 169, .int (r 10), .int (r 11), .ref 170, .int (r 13), .ref 171, .int (r 15), .ref 172, .int (r 17), .int (r 18), .int (r 19), .int (r 20), .int (r 21), .int (r 22), .int (r 23), .ref 173, .ref 174, .int (r 26), .int (r 27), .ref 175]) := rfl
theorem shRow {b n k : Nat} (hb : b = 127 ∧ n = 6 ∧ k < 6 ∨ b = 134 ∧ n = 7 ∧ k < 7 ∨ b = 143 ∧ n = 200 ∧ k < 6) (r : Nat → Int32) : gt_sh (b + k) r = some (oI n r) := by
  rcases hb with ⟨rfl, rfl, h⟩ | ⟨rfl, rfl, h⟩ | ⟨rfl, rfl, h⟩
  · rcases (show k = 0 ∨ k = 1 ∨ k = 2 ∨ k = 3 ∨ k = 4 ∨ k = 5 by omega) with rfl | rfl | rfl | rfl | rfl | rfl <;> rfl
  · rcases (show k = 0 ∨ k = 1 ∨ k = 2 ∨ k = 3 ∨ k = 4 ∨ k = 5 ∨ k = 6 by omega) with rfl | rfl | rfl | rfl | rfl | rfl | rfl <;> rfl
  · rcases (show k = 0 ∨ k = 1 ∨ k = 2 ∨ k = 3 ∨ k = 4 ∨ k = 5 by omega) with rfl | rfl | rfl | rfl | rfl | rfl <;> rfl
theorem shIm {i : Nat} (h : i < 2) (r : Nat → Int32) : gt_sh (149 + 6 * i) r = some (oO 2 [.ref (150 + 6 * i), .int (r 1), .int (r 2)]) := by
  rcases (show i = 0 ∨ i = 1 by omega) with rfl | rfl <;> rfl
theorem sh115 (r : Nat → Int32) : gt_sh 115 r = some (oI 6 r) := rfl
theorem sh116 (r : Nat → Int32) : gt_sh 116 r = some (oI 6 r) := rfl
theorem sh117 (r : Nat → Int32) : gt_sh 117 r = some (oI 6 r) := rfl
theorem sh118 (r : Nat → Int32) : gt_sh 118 r = some (oI 6 r) := rfl
theorem sh119 (r : Nat → Int32) : gt_sh 119 r = some (oI 6 r) := rfl
theorem sh120 (r : Nat → Int32) : gt_sh 120 r = some (oI 6 r) := rfl
theorem sh121 (r : Nat → Int32) : gt_sh 121 r = some (oI 15 r) := rfl
theorem sh122 (r : Nat → Int32) : gt_sh 122 r = some (oI 15 r) := rfl
theorem sh124 (r : Nat → Int32) : gt_sh 124 r = some (oI 6 r) := rfl
theorem sh125 (r : Nat → Int32) : gt_sh 125 r = some (oI 6 r) := rfl
theorem sh173 (r : Nat → Int32) : gt_sh 173 r = some (oI 6 r) := rfl
theorem sh174 (r : Nat → Int32) : gt_sh 174 r = some (oI 6 r) := rfl
theorem sh162 (r : Nat → Int32) : gt_sh 162 r = some (oI 44 r) := rfl
theorem sh163 (r : Nat → Int32) : gt_sh 163 r = some (oI 44 r) := rfl
theorem sh164 (r : Nat → Int32) : gt_sh 164 r = some (oI 24 r) := rfl
theorem sh165 (r : Nat → Int32) : gt_sh 165 r = some (oI 24 r) := rfl
theorem sh166 (r : Nat → Int32) : gt_sh 166 r = some (oI 384 r) := rfl
theorem sh167 (r : Nat → Int32) : gt_sh 167 r = some (oI 50 r) := rfl
theorem sh169 (r : Nat → Int32) : gt_sh 169 r = some (oI 240 r) := rfl
theorem sh170 (r : Nat → Int32) : gt_sh 170 r = some (oI 18 r) := rfl
theorem sh171 (r : Nat → Int32) : gt_sh 171 r = some (oI 18 r) := rfl
theorem sh172 (r : Nat → Int32) : gt_sh 172 r = some (oI 30 r) := rfl
theorem sh175 (r : Nat → Int32) : gt_sh 175 r = some (oI 1200 r) := rfl
theorem sh168 (r : Nat → Int32) : gt_sh 168 r = some (oZ 2 r) := rfl
end
section
section GV
variable {l : Launch} {G : gt_G} {own nm : String} {cc : ByteArray} {mL : Nat} {rt : Option FieldType} {R : Room} {Z : gt_Zt} {N : Nat × Nat × Nat} {n uc us : Nat} {pc : Nat} {lv : List (Nat × Value)} {st : List Value} {h : gt_H}
theorem gs_istore {i : Nat} {x : Int32} (lv' : List (Nat × Value)) (hd : decode cc pc = .ok (.istore i, 2)) (hn : i < mL) (ho : gt_ok1 lv i = true) (he : gt_set lv i (.int x) = lv') (k : gt_A l G own nm cc mL rt R Z N (pc + 2) lv' st h) : gt_A l G own nm cc mL rt R Z N pc lv (.int x :: st) h := ga_istore hd hn ho (by rw [he]; exact k)
theorem gs_istore_n {f : Fin 4} {x : Int32} (lv' : List (Nat × Value)) (hd : decode cc pc = .ok (.istore_n f, 1)) (hn : (f : Nat) < mL) (ho : gt_ok1 lv f = true) (he : gt_set lv f (.int x) = lv') (k : gt_A l G own nm cc mL rt R Z N (pc + 1) lv' st h) : gt_A l G own nm cc mL rt R Z N pc lv (.int x :: st) h := ga_istore_n hd hn ho (by rw [he]; exact k)
theorem gs_lstore {i : Nat} {x : Int64} (lv' : List (Nat × Value)) (hd : decode cc pc = .ok (.lstore i, 2)) (hn : i + 1 < mL) (ho : gt_ok2 lv i = true) (he : gt_set lv i (.long x) = lv') (k : gt_A l G own nm cc mL rt R Z N (pc + 2) lv' st h) : gt_A l G own nm cc mL rt R Z N pc lv (.long x :: st) h := ga_lstore hd hn ho (by rw [he]; exact k)
theorem gs_lstore_n {f : Fin 4} {x : Int64} (lv' : List (Nat × Value)) (hd : decode cc pc = .ok (.lstore_n f, 1)) (hn : (f : Nat) + 1 < mL) (ho : gt_ok2 lv f = true) (he : gt_set lv f (.long x) = lv') (k : gt_A l G own nm cc mL rt R Z N (pc + 1) lv' st h) : gt_A l G own nm cc mL rt R Z N pc lv (.long x :: st) h := ga_lstore_n hd hn ho (by rw [he]; exact k)
theorem gs_astore {i : Nat} {x : Nat} (lv' : List (Nat × Value)) (hd : decode cc pc = .ok (.astore i, 2)) (hn : i < mL) (ho : gt_ok1 lv i = true) (he : gt_set lv i (.ref x) = lv') (k : gt_A l G own nm cc mL rt R Z N (pc + 2) lv' st h) : gt_A l G own nm cc mL rt R Z N pc lv (.ref x :: st) h := ga_astore hd hn ho (by rw [he]; exact k)
theorem gs_astore_n {f : Fin 4} {x : Nat} (lv' : List (Nat × Value)) (hd : decode cc pc = .ok (.astore_n f, 1)) (hn : (f : Nat) < mL) (ho : gt_ok1 lv f = true) (he : gt_set lv f (.ref x) = lv') (k : gt_A l G own nm cc mL rt R Z N (pc + 1) lv' st h) : gt_A l G own nm cc mL rt R Z N pc lv (.ref x :: st) h := ga_astore_n hd hn ho (by rw [he]; exact k)
theorem gs_iinc (j : Nat) {i : Nat} {m : Int} {x : Int32} (v : Int32) (lv' : List (Nat × Value)) (hd : decode cc pc = .ok (.iinc i m, 3)) (hk : lv[j]? = some (i, .int x)) (hv : Int32.ofInt m = v) (hn : i < mL) (ho : gt_ok1 lv i = true) (he : gt_set lv i (.int (x + v)) = lv') (k : gt_A l G own nm cc mL rt R Z N (pc + 3) lv' st h) : gt_A l G own nm cc mL rt R Z N pc lv st h := ga_iinc j v hd hk hv hn ho (by rw [he]; exact k)
theorem gs_iincN (j : Nat) {i t : Nat} (d : Nat) {m : Int} (lv' : List (Nat × Value)) (hd : decode cc pc = .ok (.iinc i m, 3)) (hk : lv[j]? = some (i, .int (nI t))) (hv : Int32.ofInt m = nI d) (hn : i < mL) (ho : gt_ok1 lv i = true) (he : gt_set lv i (.int (nI (t + d))) = lv') (k : gt_A l G own nm cc mL rt R Z N (pc + 3) lv' st h) : gt_A l G own nm cc mL rt R Z N pc lv st h := ga_iinc j (nI d) hd hk hv hn ho (by rw [nI_add, he]; exact k)
theorem ga_V0 {idx b ci d' mc' ms' mL' : Nat} {y : MethodName} {cc' : ByteArray} {rt' : Option FieldType} {fs : List Value} {q : vw_C} {r : Option Value} {h' : gt_H} (hl1 : Cond.methodLink own idx y ∈ gt_tbl) (hV : gt_V y cc' mL' rt' 0) (hC : gt_C l G y cc' mL' rt' d' mc' ms' n (.ref b :: []) h r h') (ho : h b = some (oO ci fs)) (hq : vwCl[ci]? = some q) (hqn : q.1 = y.cls) (hroom : gt_rc R d' uc us mc' ms') (hs : (st.map fun v => v.category).sum ≤ 8) (hd : decode cc pc = .ok (.invokevirtual idx, 3)) (kk : gt_A l G own nm cc mL rt R Z (n + mc', uc + mc', us + ms') (pc + 3) lv (r.toList ++ st) h') : gt_A l G own nm cc mL rt R Z (n, uc, us) pc lv (.ref b :: st) h := ga_callV [] hl1 hV hC ho hq hqn hroom hs hd kk
theorem ga_S0 {idx d' mc' ms' mL' : Nat} {y : MethodName} {cc' : ByteArray} {rt' : Option FieldType} {r : Option Value} {h' : gt_H} (hl1 : Cond.methodLink own idx y ∈ gt_tbl) (hV : gt_S y cc' mL' rt' 0) (hC : gt_C l G y cc' mL' rt' d' mc' ms' n [] h r h') (hroom : gt_rc R d' uc us mc' ms') (hs : (st.map fun v => v.category).sum ≤ 8) (hd : decode cc pc = .ok (.invokestatic idx, 3)) (kk : gt_A l G own nm cc mL rt R Z (n + mc', uc + mc', us + ms') (pc + 3) lv (r.toList ++ st) h') : gt_A l G own nm cc mL rt R Z (n, uc, us) pc lv (st) h := ga_callS [] hl1 hV hC hroom hs hd kk
theorem ga_V1 {a1 : Value} {idx b ci d' mc' ms' mL' : Nat} {y : MethodName} {cc' : ByteArray} {rt' : Option FieldType} {fs : List Value} {q : vw_C} {r : Option Value} {h' : gt_H} (hl1 : Cond.methodLink own idx y ∈ gt_tbl) (hV : gt_V y cc' mL' rt' 1) (hC : gt_C l G y cc' mL' rt' d' mc' ms' n (.ref b :: [a1]) h r h') (ho : h b = some (oO ci fs)) (hq : vwCl[ci]? = some q) (hqn : q.1 = y.cls) (hroom : gt_rc R d' uc us mc' ms') (hs : (st.map fun v => v.category).sum ≤ 8) (hd : decode cc pc = .ok (.invokevirtual idx, 3)) (kk : gt_A l G own nm cc mL rt R Z (n + mc', uc + mc', us + ms') (pc + 3) lv (r.toList ++ st) h') : gt_A l G own nm cc mL rt R Z (n, uc, us) pc lv (a1 :: .ref b :: st) h := ga_callV [a1] hl1 hV hC ho hq hqn hroom hs hd kk
theorem ga_S1 {a1 : Value} {idx d' mc' ms' mL' : Nat} {y : MethodName} {cc' : ByteArray} {rt' : Option FieldType} {r : Option Value} {h' : gt_H} (hl1 : Cond.methodLink own idx y ∈ gt_tbl) (hV : gt_S y cc' mL' rt' 1) (hC : gt_C l G y cc' mL' rt' d' mc' ms' n [a1] h r h') (hroom : gt_rc R d' uc us mc' ms') (hs : (st.map fun v => v.category).sum ≤ 8) (hd : decode cc pc = .ok (.invokestatic idx, 3)) (kk : gt_A l G own nm cc mL rt R Z (n + mc', uc + mc', us + ms') (pc + 3) lv (r.toList ++ st) h') : gt_A l G own nm cc mL rt R Z (n, uc, us) pc lv (a1 :: st) h := ga_callS [a1] hl1 hV hC hroom hs hd kk
theorem ga_V2 {a1 a2 : Value} {idx b ci d' mc' ms' mL' : Nat} {y : MethodName} {cc' : ByteArray} {rt' : Option FieldType} {fs : List Value} {q : vw_C} {r : Option Value} {h' : gt_H} (hl1 : Cond.methodLink own idx y ∈ gt_tbl) (hV : gt_V y cc' mL' rt' 2) (hC : gt_C l G y cc' mL' rt' d' mc' ms' n (.ref b :: [a1, a2]) h r h') (ho : h b = some (oO ci fs)) (hq : vwCl[ci]? = some q) (hqn : q.1 = y.cls) (hroom : gt_rc R d' uc us mc' ms') (hs : (st.map fun v => v.category).sum ≤ 8) (hd : decode cc pc = .ok (.invokevirtual idx, 3)) (kk : gt_A l G own nm cc mL rt R Z (n + mc', uc + mc', us + ms') (pc + 3) lv (r.toList ++ st) h') : gt_A l G own nm cc mL rt R Z (n, uc, us) pc lv (a2 :: a1 :: .ref b :: st) h := ga_callV [a1, a2] hl1 hV hC ho hq hqn hroom hs hd kk
theorem ga_S2 {a1 a2 : Value} {idx d' mc' ms' mL' : Nat} {y : MethodName} {cc' : ByteArray} {rt' : Option FieldType} {r : Option Value} {h' : gt_H} (hl1 : Cond.methodLink own idx y ∈ gt_tbl) (hV : gt_S y cc' mL' rt' 2) (hC : gt_C l G y cc' mL' rt' d' mc' ms' n [a1, a2] h r h') (hroom : gt_rc R d' uc us mc' ms') (hs : (st.map fun v => v.category).sum ≤ 8) (hd : decode cc pc = .ok (.invokestatic idx, 3)) (kk : gt_A l G own nm cc mL rt R Z (n + mc', uc + mc', us + ms') (pc + 3) lv (r.toList ++ st) h') : gt_A l G own nm cc mL rt R Z (n, uc, us) pc lv (a2 :: a1 :: st) h := ga_callS [a1, a2] hl1 hV hC hroom hs hd kk
theorem ga_V3 {a1 a2 a3 : Value} {idx b ci d' mc' ms' mL' : Nat} {y : MethodName} {cc' : ByteArray} {rt' : Option FieldType} {fs : List Value} {q : vw_C} {r : Option Value} {h' : gt_H} (hl1 : Cond.methodLink own idx y ∈ gt_tbl) (hV : gt_V y cc' mL' rt' 3) (hC : gt_C l G y cc' mL' rt' d' mc' ms' n (.ref b :: [a1, a2, a3]) h r h') (ho : h b = some (oO ci fs)) (hq : vwCl[ci]? = some q) (hqn : q.1 = y.cls) (hroom : gt_rc R d' uc us mc' ms') (hs : (st.map fun v => v.category).sum ≤ 8) (hd : decode cc pc = .ok (.invokevirtual idx, 3)) (kk : gt_A l G own nm cc mL rt R Z (n + mc', uc + mc', us + ms') (pc + 3) lv (r.toList ++ st) h') : gt_A l G own nm cc mL rt R Z (n, uc, us) pc lv (a3 :: a2 :: a1 :: .ref b :: st) h := ga_callV [a1, a2, a3] hl1 hV hC ho hq hqn hroom hs hd kk
theorem ga_S3 {a1 a2 a3 : Value} {idx d' mc' ms' mL' : Nat} {y : MethodName} {cc' : ByteArray} {rt' : Option FieldType} {r : Option Value} {h' : gt_H} (hl1 : Cond.methodLink own idx y ∈ gt_tbl) (hV : gt_S y cc' mL' rt' 3) (hC : gt_C l G y cc' mL' rt' d' mc' ms' n [a1, a2, a3] h r h') (hroom : gt_rc R d' uc us mc' ms') (hs : (st.map fun v => v.category).sum ≤ 8) (hd : decode cc pc = .ok (.invokestatic idx, 3)) (kk : gt_A l G own nm cc mL rt R Z (n + mc', uc + mc', us + ms') (pc + 3) lv (r.toList ++ st) h') : gt_A l G own nm cc mL rt R Z (n, uc, us) pc lv (a3 :: a2 :: a1 :: st) h := ga_callS [a1, a2, a3] hl1 hV hC hroom hs hd kk
theorem ga_V4 {a1 a2 a3 a4 : Value} {idx b ci d' mc' ms' mL' : Nat} {y : MethodName} {cc' : ByteArray} {rt' : Option FieldType} {fs : List Value} {q : vw_C} {r : Option Value} {h' : gt_H} (hl1 : Cond.methodLink own idx y ∈ gt_tbl) (hV : gt_V y cc' mL' rt' 4) (hC : gt_C l G y cc' mL' rt' d' mc' ms' n (.ref b :: [a1, a2, a3, a4]) h r h') (ho : h b = some (oO ci fs)) (hq : vwCl[ci]? = some q) (hqn : q.1 = y.cls) (hroom : gt_rc R d' uc us mc' ms') (hs : (st.map fun v => v.category).sum ≤ 8) (hd : decode cc pc = .ok (.invokevirtual idx, 3)) (kk : gt_A l G own nm cc mL rt R Z (n + mc', uc + mc', us + ms') (pc + 3) lv (r.toList ++ st) h') : gt_A l G own nm cc mL rt R Z (n, uc, us) pc lv (a4 :: a3 :: a2 :: a1 :: .ref b :: st) h := ga_callV [a1, a2, a3, a4] hl1 hV hC ho hq hqn hroom hs hd kk
theorem ga_S4 {a1 a2 a3 a4 : Value} {idx d' mc' ms' mL' : Nat} {y : MethodName} {cc' : ByteArray} {rt' : Option FieldType} {r : Option Value} {h' : gt_H} (hl1 : Cond.methodLink own idx y ∈ gt_tbl) (hV : gt_S y cc' mL' rt' 4) (hC : gt_C l G y cc' mL' rt' d' mc' ms' n [a1, a2, a3, a4] h r h') (hroom : gt_rc R d' uc us mc' ms') (hs : (st.map fun v => v.category).sum ≤ 8) (hd : decode cc pc = .ok (.invokestatic idx, 3)) (kk : gt_A l G own nm cc mL rt R Z (n + mc', uc + mc', us + ms') (pc + 3) lv (r.toList ++ st) h') : gt_A l G own nm cc mL rt R Z (n, uc, us) pc lv (a4 :: a3 :: a2 :: a1 :: st) h := ga_callS [a1, a2, a3, a4] hl1 hV hC hroom hs hd kk
theorem ga_V5 {a1 a2 a3 a4 a5 : Value} {idx b ci d' mc' ms' mL' : Nat} {y : MethodName} {cc' : ByteArray} {rt' : Option FieldType} {fs : List Value} {q : vw_C} {r : Option Value} {h' : gt_H} (hl1 : Cond.methodLink own idx y ∈ gt_tbl) (hV : gt_V y cc' mL' rt' 5) (hC : gt_C l G y cc' mL' rt' d' mc' ms' n (.ref b :: [a1, a2, a3, a4, a5]) h r h') (ho : h b = some (oO ci fs)) (hq : vwCl[ci]? = some q) (hqn : q.1 = y.cls) (hroom : gt_rc R d' uc us mc' ms') (hs : (st.map fun v => v.category).sum ≤ 8) (hd : decode cc pc = .ok (.invokevirtual idx, 3)) (kk : gt_A l G own nm cc mL rt R Z (n + mc', uc + mc', us + ms') (pc + 3) lv (r.toList ++ st) h') : gt_A l G own nm cc mL rt R Z (n, uc, us) pc lv (a5 :: a4 :: a3 :: a2 :: a1 :: .ref b :: st) h := ga_callV [a1, a2, a3, a4, a5] hl1 hV hC ho hq hqn hroom hs hd kk
theorem ga_S5 {a1 a2 a3 a4 a5 : Value} {idx d' mc' ms' mL' : Nat} {y : MethodName} {cc' : ByteArray} {rt' : Option FieldType} {r : Option Value} {h' : gt_H} (hl1 : Cond.methodLink own idx y ∈ gt_tbl) (hV : gt_S y cc' mL' rt' 5) (hC : gt_C l G y cc' mL' rt' d' mc' ms' n [a1, a2, a3, a4, a5] h r h') (hroom : gt_rc R d' uc us mc' ms') (hs : (st.map fun v => v.category).sum ≤ 8) (hd : decode cc pc = .ok (.invokestatic idx, 3)) (kk : gt_A l G own nm cc mL rt R Z (n + mc', uc + mc', us + ms') (pc + 3) lv (r.toList ++ st) h') : gt_A l G own nm cc mL rt R Z (n, uc, us) pc lv (a5 :: a4 :: a3 :: a2 :: a1 :: st) h := ga_callS [a1, a2, a3, a4, a5] hl1 hV hC hroom hs hd kk
theorem ga_V6 {a1 a2 a3 a4 a5 a6 : Value} {idx b ci d' mc' ms' mL' : Nat} {y : MethodName} {cc' : ByteArray} {rt' : Option FieldType} {fs : List Value} {q : vw_C} {r : Option Value} {h' : gt_H} (hl1 : Cond.methodLink own idx y ∈ gt_tbl) (hV : gt_V y cc' mL' rt' 6) (hC : gt_C l G y cc' mL' rt' d' mc' ms' n (.ref b :: [a1, a2, a3, a4, a5, a6]) h r h') (ho : h b = some (oO ci fs)) (hq : vwCl[ci]? = some q) (hqn : q.1 = y.cls) (hroom : gt_rc R d' uc us mc' ms') (hs : (st.map fun v => v.category).sum ≤ 8) (hd : decode cc pc = .ok (.invokevirtual idx, 3)) (kk : gt_A l G own nm cc mL rt R Z (n + mc', uc + mc', us + ms') (pc + 3) lv (r.toList ++ st) h') : gt_A l G own nm cc mL rt R Z (n, uc, us) pc lv (a6 :: a5 :: a4 :: a3 :: a2 :: a1 :: .ref b :: st) h := ga_callV [a1, a2, a3, a4, a5, a6] hl1 hV hC ho hq hqn hroom hs hd kk
theorem ga_S6 {a1 a2 a3 a4 a5 a6 : Value} {idx d' mc' ms' mL' : Nat} {y : MethodName} {cc' : ByteArray} {rt' : Option FieldType} {r : Option Value} {h' : gt_H} (hl1 : Cond.methodLink own idx y ∈ gt_tbl) (hV : gt_S y cc' mL' rt' 6) (hC : gt_C l G y cc' mL' rt' d' mc' ms' n [a1, a2, a3, a4, a5, a6] h r h') (hroom : gt_rc R d' uc us mc' ms') (hs : (st.map fun v => v.category).sum ≤ 8) (hd : decode cc pc = .ok (.invokestatic idx, 3)) (kk : gt_A l G own nm cc mL rt R Z (n + mc', uc + mc', us + ms') (pc + 3) lv (r.toList ++ st) h') : gt_A l G own nm cc mL rt R Z (n, uc, us) pc lv (a6 :: a5 :: a4 :: a3 :: a2 :: a1 :: st) h := ga_callS [a1, a2, a3, a4, a5, a6] hl1 hV hC hroom hs hd kk
theorem ga_S7 {a1 a2 a3 a4 a5 a6 a7 : Value} {idx d' mc' ms' mL' : Nat} {y : MethodName} {cc' : ByteArray} {rt' : Option FieldType} {r : Option Value} {h' : gt_H} (hl1 : Cond.methodLink own idx y ∈ gt_tbl) (hV : gt_S y cc' mL' rt' 7) (hC : gt_C l G y cc' mL' rt' d' mc' ms' n [a1, a2, a3, a4, a5, a6, a7] h r h') (hroom : gt_rc R d' uc us mc' ms') (hs : (st.map fun v => v.category).sum ≤ 8) (hd : decode cc pc = .ok (.invokestatic idx, 3)) (kk : gt_A l G own nm cc mL rt R Z (n + mc', uc + mc', us + ms') (pc + 3) lv (r.toList ++ st) h') : gt_A l G own nm cc mL rt R Z (n, uc, us) pc lv (a7 :: a6 :: a5 :: a4 :: a3 :: a2 :: a1 :: st) h := ga_callS [a1, a2, a3, a4, a5, a6, a7] hl1 hV hC hroom hs hd kk
theorem gt_room0 {d : Nat} (hd : 1 ≤ d) : 1 ≤ (gt_rm d 0 0).frames ∧ 40 ≤ (gt_rm d 0 0).locals ∧ (n, 0, 0).2.1 ≤ (gt_rm d 0 0).cells ∧ (n, 0, 0).2.2 ≤ (gt_rm d 0 0).slots := ⟨hd, by show 40 ≤ 40 * d; omega, Nat.le_refl _, Nat.le_refl _⟩
theorem gt_room2 {d mc ms : Nat} (hd : 1 ≤ d) : 1 ≤ (gt_rm d mc ms).frames ∧ 40 ≤ (gt_rm d mc ms).locals := ⟨hd, by show 40 ≤ 40 * d; omega⟩
end GV
end
section
/-! numbers: what the class and the reference compute, over Nat -/
theorem isS20 : gt_isS 20 := Or.inl rfl
theorem isS25 : gt_isS 25 := Or.inr (Or.inl rfl)
theorem isSr {j : Nat} (h : j < 16) : gt_isS (32 + 5 * j) := Or.inr (Or.inr (Or.inr (Or.inr ⟨j, h, rfl⟩)))
theorem isSi {i : Nat} (h : i < 2) : gt_isS (150 + 6 * i) := by
  rcases (show i = 0 ∨ i = 1 by omega) with rfl | rfl
  · exact Or.inr (Or.inr (Or.inl rfl))
  · exact Or.inr (Or.inr (Or.inr (Or.inl rfl)))
/-- 1 if 0 ≤ x < n -/
def gx_in (x n : Int32) : Int32 := if 0 ≤ x ∧ x < n then nI 1 else nI 0
theorem gx_in_t {x n : Int32} (h1 : ¬ x < 0) (h2 : ¬ n ≤ x) : gx_in x n = nI 1 := if_pos ⟨Int32.not_lt.mp h1, Int32.not_le.mp h2⟩
theorem gx_in_f1 {x n : Int32} (h1 : x < 0) : gx_in x n = nI 0 := if_neg (fun q => absurd h1 (Int32.not_lt.mpr q.1))
theorem gx_in_f2 {x n : Int32} (h1 : n ≤ x) : gx_in x n = nI 0 := if_neg (fun q => absurd h1 (Int32.not_le.mpr q.2))
theorem gx_in_of {x : Int32} {n : Nat} (hn : n < 2 ^ 31) (h : ¬ gx_in x (nI n) = 0) : ∃ k, k < n ∧ x = nI k := by
  unfold gx_in at h
  by_cases hq : 0 ≤ x ∧ x < nI n
  · obtain ⟨j, hj, rfl⟩ := nI_of (Int32.not_lt.mpr hq.1)
    exact ⟨j, (nI_ltI hj hn).mp hq.2, rfl⟩
  · rw [if_neg hq] at h
    exact absurd rfl h
theorem gx_in_nI {k n : Nat} (h : k < n) (hn : n < 2 ^ 31) : gx_in (nI k) (nI n) = nI 1 := if_pos ⟨nI_pos' (by omega), nI_lt h hn⟩
theorem gx_in_z {x : Int32} {n : Nat} (hn : n < 2 ^ 31) (h : gx_in x (nI n) = 0) : ∀ k, k < n → x ≠ nI k := by
  rintro k hk rfl
  rw [gx_in_nI hk hn] at h
  exact absurd h (by decide)
def gx_dist (a b : Nat) : Nat := if a ≤ b then b - a else a - b
/-- what a tower bears -/
def gx_bears (wd fl tc k : Nat) : Nat := wd - fl * gx_dist k tc
def gx_sum (f : Nat → Nat) : Nat → Nat
  | 0 => 0
  | k + 1 => gx_sum f k + f k
theorem gx_sum_le {f : Nat → Nat} {b : Nat} : ∀ n, (∀ k, k < n → f k ≤ b) → gx_sum f n ≤ n * b
  | 0, _ => Nat.zero_le _
  | n + 1, h => by
    have h1 := gx_sum_le n (fun k hk => h k (by omega))
    have h2 := h n (by omega)
    show gx_sum f n + f n ≤ (n + 1) * b
    rw [Nat.succ_mul]
    omega
theorem gx_sum_congr {f g : Nat → Nat} : ∀ n, (∀ k, k < n → f k = g k) → gx_sum f n = gx_sum g n
  | 0, _ => rfl
  | n + 1, h => by
    show gx_sum f n + f n = gx_sum g n + g n
    rw [gx_sum_congr n (fun k hk => h k (by omega)), h n (by omega)]
theorem gx_absN {a b : Nat} (ha : a < 2 ^ 30) (hb : b < 2 ^ 30) : (if 0 ≤ nI a - nI b then nI a - nI b else 0 - (nI a - nI b)) = nI (gx_dist a b) := by
  unfold gx_dist
  by_cases h : b ≤ a
  · rw [pk_sub h, if_pos (nI_pos' (by omega))]
    by_cases h2 : a ≤ b
    · rw [if_pos h2, show a = b by omega]
    · rw [if_neg h2]
  · have h3 : nI a - nI b < 0 := pk_sneg hb (by omega)
    rw [if_neg (Int32.not_le.mpr h3), if_pos (by omega), ← pk_sub (show a ≤ b by omega)]
    have : ∀ x y : Int32, 0 - (x - y) = y - x := fun x y => by
      apply Int32.toBitVec_inj.mp
      simp [Int32.toBitVec_sub]
    exact this _ _
theorem gx_max0 {a b : Nat} (ha : a < 2 ^ 30) (hb : b < 2 ^ 30) : (if nI 0 < nI a - nI b then nI a - nI b else nI 0) = nI (a - b) := by
  by_cases h : b < a
  · rw [pk_sub (by omega), if_pos (nI_lt (by omega) (by omega))]
  · have : ¬ nI 0 < nI a - nI b := by
      rcases Nat.lt_or_ge a b with q | q
      · exact fun z => Int32.lt_irrefl (Int32.lt_trans (pk_sneg hb q) z)
      · rw [pk_sub q, show a - b = 0 by omega]; decide
    rw [if_neg this, show a - b = 0 by omega]
theorem gx_max0' {a b : Nat} (ha : a < 2 ^ 30) (hb : b < 2 ^ 30) : (if nI a - nI b < nI 0 then nI 0 else nI a - nI b) = nI (a - b) := by
  rcases Nat.lt_or_ge a b with q | q
  · have := pk_sneg hb q
    rw [if_pos (show nI a - nI b < nI 0 from this), show a - b = 0 by omega]
  · rw [pk_sub q, if_neg (by rw [nI_ltI (by omega) (by omega)]; omega)]
/-- the coast's numbers: K 0: cells, towers, players, boats; K 1: ground; 2: the towers' cells; 3: falls; 4: arms; 5: draughts; 6: from; 7: to -/
abbrev gx_K : Type := Nat → Nat → Nat
/-- a state's numbers: V 0 0: hours; V 1: wound; V 2: seats (0: none, t + 1: tower t); V 3: tired; V 4: places -/
def gx_seat (v : Nat) : Int32 := nI v - 1
theorem gx_seat_0 : gx_seat 0 = -1 := by decide
theorem gx_seat_s (t : Nat) : gx_seat (t + 1) = nI t := nI_pred t
def gx_n (K : gx_K) (i : Nat) : Nat := match i with
  | 1 => K 0 0
  | 2 => K 0 1
  | 3 => K 0 1
  | 4 => K 0 2
  | _ => K 0 3
/-- the class's coast at c holds K -/
def gx_Co (w : gt_W) (c : Nat) (K : gx_K) : Prop := (w c 0 = nI (K 0 0) ∧ w c 1 = nI (K 0 1) ∧ w c 2 = nI (K 0 2) ∧ w c 3 = nI (K 0 3)) ∧ (∀ j, j < K 0 0 → w (c + 1) j = nI (K 1 j)) ∧ (∀ j, j < K 0 1 → w (c + 2) j = nI (K 2 j)) ∧ (∀ j, j < K 0 1 → w (c + 3) j = nI (K 3 j)) ∧ (∀ j, j < K 0 2 → w (c + 4) j = nI (K 4 j)) ∧ (∀ j, j < K 0 3 → w (c + 5) j = nI (K 5 j)) ∧ (∀ j, j < K 0 3 → w (c + 6) j = nI (K 6 j)) ∧ (∀ j, j < K 0 3 → w (c + 7) j = nI (K 7 j))
def gx_KW (K : gx_K) : Prop := K 0 0 ≤ 10 ∧ K 0 1 ≤ 6 ∧ K 0 2 ≤ 6 ∧ K 0 3 ≤ 4 ∧ (∀ j, j < K 0 0 → K 1 j ≤ 60) ∧ (∀ j, j < K 0 1 → K 2 j < K 0 0) ∧ (∀ j, j < K 0 1 → 1 ≤ K 3 j ∧ K 3 j ≤ 20) ∧ (∀ j, j < K 0 2 → 1 ≤ K 4 j ∧ K 4 j ≤ 9) ∧ (∀ j, j < K 0 3 → 1 ≤ K 5 j ∧ K 5 j ≤ 30) ∧ (∀ j, j < K 0 3 → K 6 j < K 0 0) ∧ (∀ j, j < K 0 3 → K 7 j < K 0 0) ∧ K 0 0 ≠ 1
/-- the class's state at s holds V, with the sleepers m -/
def gx_St (w : gt_W) (s : Nat) (K : gx_K) (V : gx_K) (m : Int32) : Prop := w s 0 = nI (V 0 0) ∧ w s 1 = m ∧ (∀ j, j < K 0 1 → w (s + 1) j = nI (V 1 j)) ∧ (∀ j, j < K 0 2 → w (s + 2) j = gx_seat (V 2 j)) ∧ (∀ j, j < K 0 2 → w (s + 3) j = nI (V 3 j)) ∧ (∀ j, j < K 0 3 → w (s + 4) j = nI (V 4 j))
def gx_VW (K V : gx_K) : Prop := V 0 0 ≤ 9060 ∧ (∀ j, j < K 0 1 → V 1 j ≤ 99) ∧ (∀ j, j < K 0 2 → V 2 j ≤ K 0 1) ∧ (∀ j, j < K 0 2 → V 3 j ≤ 99) ∧ (∀ j, j < K 0 3 → V 4 j < K 0 0)
/-- no two players at a tower -/
def gx_Vd (K V : gx_K) : Prop := ∀ i j, i < K 0 2 → j < K 0 2 → V 2 i = V 2 j → V 2 i ≠ 0 → i = j
/-- SEA, DEPTH -/
def gx_sea (K V : gx_K) (k : Nat) : Nat := gx_sum (fun t => gx_bears (V 1 t) (K 3 t) (K 2 t) k) (K 0 1)
def gx_dep (K V : gx_K) (k : Nat) : Nat := gx_sea K V k - K 1 k
theorem gx_sea_le {K V : gx_K} (kw : gx_KW K) (vw : gx_VW K V) (k : Nat) : gx_sea K V k ≤ 594 := by
  have h := gx_sum_le (f := fun t => gx_bears (V 1 t) (K 3 t) (K 2 t) k) (b := 99) (K 0 1) (fun t ht => by
    have := vw.2.1 t ht
    show gx_bears _ _ _ _ ≤ 99
    unfold gx_bears
    omega)
  have := kw.2.1
  have h2 : K 0 1 * 99 ≤ 6 * 99 := Nat.mul_le_mul_right 99 this
  exact Nat.le_trans h (by omega)
theorem gx_bearsN {wd fl tc k : Nat} (h1 : wd ≤ 99) (h2 : fl ≤ 20) (h3 : tc < 10) (h4 : k < 11) : (if nI 0 < nI wd - nI fl * (if 0 ≤ nI k - nI tc then nI k - nI tc else 0 - (nI k - nI tc)) then nI wd - nI fl * (if 0 ≤ nI k - nI tc then nI k - nI tc else 0 - (nI k - nI tc)) else nI 0) = nI (gx_bears wd fl tc k) := by
  have hd : gx_dist k tc ≤ 11 := by unfold gx_dist; split <;> omega
  have hm : fl * gx_dist k tc ≤ 20 * 11 := Nat.mul_le_mul h2 hd
  rw [gx_absN (by omega) (by omega), pk_mul, gx_max0 (by omega) (by omega)]
  rfl
/-! contracts whose end is told by a property of the memory -/
def gt_QD (G : gt_G) (n : Nat) (Post : Option Value → gt_W → Prop) : Array Value → State → Outcome → State → Prop := fun _ _ o t => ∃ (r : Option Value) (w' : gt_W), o = .returned (r.map (gt_v G)) ∧ Post r w' ∧ gt_R G n (gt_enc w') t.heap
def gt_ZD (G : gt_G) (n : Nat) (Post : Option Value → gt_W → Prop) : gt_Zt := fun below args s => MQ below (gt_QD G n Post) args s 0 0 (fun q => gt_B G ≤ q)
def gt_D (l : Launch) (G : gt_G) (y : MethodName) (cc : ByteArray) (mL : Nat) (rt : Option FieldType) (d n : Nat) (as : List Value) (w : gt_W) (Post : Option Value → gt_W → Prop) : Prop :=
  Met l y (.code y cc mL rt :: gt_tbl) (gt_rm d 0 0) (gt_P G n as (gt_enc w)) (gt_QD G n Post) 0 0 (fun q => gt_B G ≤ q)
theorem gt_D_of {l : Launch} {G : gt_G} {y : MethodName} {own nm : String} {cc : ByteArray} {mL : Nat} {rt : Option FieldType} {d n : Nat} {as : List Value} {w : gt_W} {Post : Option Value → gt_W → Prop} (hown : y.cls = own) (hnm : y.name = nm) (hpl : plainName y.cls = true) (hlen : (lg_sl (as.map (gt_v G))).length ≤ mL)
    (body : gt_A l G own nm cc mL rt (gt_rm d 0 0) (gt_ZD G n Post) (n, 0, 0) 0 (lv_args 0 as) [] (gt_enc w)) : gt_D l G y cc mL rt d n as w Post := by
  refine Met.ofW (cc := cc) (maxL := mL) (ret := rt) hpl rfl ?_
  intro p e s m args below meth c s₁ B hml hv
  obtain ⟨rfl, hR, hK⟩ := hv
  have hts := atoms_spec (ws := .code y cc mL rt :: gt_tbl) B.pre
  have hX : gt_X G own nm cc mL rt p s m ((as.map (gt_v G)).toArray) meth c := ⟨B.exec, B.bytes, hml, B.returns, B.notSynchronized, by rw [← hown]; exact findClass_of_methodNamed B.named, by rw [← hnm]; exact (name_of_methodNamed B.named B.method).1, fun w hw => hts w (List.mem_cons_of_mem _ hw), hK⟩
  have hl := lv_entry (as.map (gt_v G)) (n := mL) hlen
  rw [lg_entry_eq]
  have hl2 : lv_args 0 (as.map (gt_v G)) = gt_lm G (lv_args 0 as) := by
    have key : ∀ (xs : List Value) (i : Nat), lv_args i (xs.map (gt_v G)) = gt_lm G (lv_args i xs) := by
      intro xs
      induction xs with
      | nil => intro i; rfl
      | cons x xs ih =>
        intro i
        have hc : (gt_v G x).category = x.category := by cases x <;> rfl
        show lv_args i (gt_v G x :: xs.map (gt_v G)) = gt_lm G (lv_args i (x :: xs))
        simp only [lv_args, gt_lm, List.map_cons, hc]
        rw [ih]
        rfl
    exact key as 0
  rw [hl2] at hl
  exact body p e s m _ below meth c s.heap [] _ hX hR (fun q hq => by cases hq) hl
section GD
variable {l : Launch} {G : gt_G} {own nm : String} {cc : ByteArray} {mL : Nat} {rt : Option FieldType} {R : Room} {Z : gt_Zt} {n : Nat} {pc : Nat} {lv : List (Nat × Value)} {st : List Value} {w : gt_W}
theorem gd_iret {Post : Option Value → gt_W → Prop} {v : Int32} (hd : decode cc pc = .ok (.ireturn, 1)) (hp : Post (some (.int v)) w) : gt_A l G own nm cc mL (some .int) R (gt_ZD G n Post) (n, 0, 0) pc lv [.int v] (gt_enc w) :=
  fun p e s m args below meth c H locs ls X hR hL hl => W.iret (Qc := gt_QD G n Post) X.1 X.2.1 X.2.2.2.1 (fun t ht _ => ⟨some (.int v), w, rfl, hp, by rw [ht]; exact hR⟩) hL hd X.2.2.2.2.1
theorem gd_zret {Post : Option Value → gt_W → Prop} {v : Int32} (hd : decode cc pc = .ok (.ireturn, 1)) (hn : narrow .boolean (.int v) = .int v) (hp : Post (some (.int v)) w) : gt_A l G own nm cc mL (some .boolean) R (gt_ZD G n Post) (n, 0, 0) pc lv [.int v] (gt_enc w) :=
  fun p e s m args below meth c H locs ls X hR hL hl => W.zret (Qc := gt_QD G n Post) X.1 X.2.1 X.2.2.2.1 hn (fun t ht _ => ⟨some (.int v), w, rfl, hp, by rw [ht]; exact hR⟩) hL hd X.2.2.2.2.1
theorem gd_vret {Post : Option Value → gt_W → Prop} (hd : decode cc pc = .ok (.return_, 1)) (hp : Post none w) : gt_A l G own nm cc mL none R (gt_ZD G n Post) (n, 0, 0) pc lv [] (gt_enc w) :=
  fun p e s m args below meth c H locs ls X hR hL hl => W.vret (Qc := gt_QD G n Post) X.1 X.2.1 X.2.2.2.1 (fun t ht _ => ⟨none, w, rfl, hp, by rw [ht]; exact hR⟩) hL hd X.2.2.2.2.1
theorem gt_goesD {p : Program} {e : Env} {s : State} {m : MethodId} {args : Array Value} {below : List Frame} {meth : Method} {c : Code} {H : Heap} {locs : List Loc} {ls : Array Slot} {st0 rest : List Value} {a0 : Array Value} {uc us n1 : Nat} {Post : Option Value → gt_W → Prop} {Q : State → Prop}
    (hrun : va_Run p l e R s m args below meth c H locs uc us 0 0 (F0 m pc ls st0) rest (gt_QD G n1 Post a0) (fun q => gt_B G ≤ q)) (hL : ∀ q ∈ locs, gt_B G ≤ q.base)
    (kk : ∀ (r : Option Value) (w' : gt_W) (H1 : Heap) (locs1 : List Loc), Post r w' → gt_R G n1 (gt_enc w') H1 → (∀ q ∈ locs1, gt_B G ≤ q.base) → W p l e R s m args below meth c H1 locs1 uc us Q (F0 m (pc + 3) ls ((r.map (gt_v G)).toList ++ rest))) : W p l e R s m args below meth c H locs uc us Q (F0 m pc ls st0) := by
  intro T hT X
  obtain ⟨v, st₀, t, T', L, h0, X', hL1, e1, e2, ⟨r, w', hv, hp, hR1⟩, stp⟩ := hrun T hT X
  cases hv
  obtain ⟨t2, a1, b1⟩ := kk r w' T'.heap (locs ++ L) hp (by rw [e1]; exact hR1) (fun q hq => by
    rcases List.mem_append.mp hq with hq | hq
    · exact hL q hq
    · exact hL1 q hq) T' rfl X'
  exact ⟨t2, stp t2 a1, b1⟩
theorem gd_callV (As : List Value) {idx b ci d' mL' uc us : Nat} {y : MethodName} {cc' : ByteArray} {rt' : Option FieldType} {fs : List Value} {q : vw_C} {Post : Option Value → gt_W → Prop} (hl1 : Cond.methodLink own idx y ∈ gt_tbl) (hV : gt_V y cc' mL' rt' As.length) (hC : gt_D l G y cc' mL' rt' d' n (.ref b :: As) w Post) (ho : gt_enc w b = some (oO ci fs)) (hq : vwCl[ci]? = some q) (hqn : q.1 = y.cls) (hroom : gt_rc R d' uc us 0 0) (hs : (st.map fun v => v.category).sum ≤ 8) (hd : decode cc pc = .ok (.invokevirtual idx, 3))
    (kk : ∀ (r : Option Value) (w' : gt_W), Post r w' → gt_A l G own nm cc mL rt R Z (n, uc, us) (pc + 3) lv (r.toList ++ st) (gt_enc w')) : gt_A l G own nm cc mL rt R Z (n, uc, us) pc lv (As.reverse ++ .ref b :: st) (gt_enc w) :=
  fun p e s m args below meth c H locs ls X hR hL hl => by
    obtain ⟨v1, v2, v3, v4, v5, v6⟩ := hV
    have hts := X.2.2.2.2.2.2.2.1
    have hK := X.2.2.2.2.2.2.2.2
    have cw : CallW R s args own y.cls idx y cc' mL' rt' (.code y cc' mL' rt' :: gt_tbl) (gt_rm d' 0 0) 0 0 As.length :=
      ⟨callB_of As.length hts (gt_tbl_good v4) rfl rfl rfl (hts _ v3) (hts _ hl1) v5 ⟨hroom.1, by have := hroom.2.1; show 8 + (mL' + 11) + 40 * d' ≤ _; omega⟩, hts _ v1, hts _ v2⟩
    have hrec := va_recv hK.1 (gt_R_P hR ho) hq (q0 := 0) (a := gt_ad G b) (fs := fs.map (gt_v G)) rfl
    rw [hqn] at hrec
    have hrun := va_runV (g := F0 m pc ls (((As.map (gt_v G)).reverse) ++ .ref (gt_ad G b) :: st.map (gt_v G))) (locs := locs) (below := below) (meth := meth) (e := e) (H := H) ⟨X.1, X.2.1, X.2.2.1, X.2.2.2.2.2.1, hts⟩ hC cw (b := gt_ad G b) (As := As.map (gt_v G)) ⟨gt_P_blind G n _ (gt_enc w), hrec, gt_pre (y := y) (as := .ref b :: As) hR hK⟩ rfl (by rw [List.length_map]) hl.1 (rest := st.map (gt_v G)) rfl (gt_roomF hs) hd ⟨hroom.2.2.1, hroom.2.2.2⟩
    have e1 : (As.reverse ++ .ref b :: st).map (gt_v G) = ((As.map (gt_v G)).reverse) ++ .ref (gt_ad G b) :: st.map (gt_v G) := by rw [List.map_append, List.map_reverse]; rfl
    rw [e1]
    refine gt_goesD hrun hL (fun r w' H1 locs1 hp hR1 hL1 => ?_)
    rw [gt_map_toList]
    exact kk r w' hp p e s m args below meth c H1 locs1 ls X hR1 hL1 hl
theorem gd_callS (As : List Value) {idx d' mL' uc us : Nat} {y : MethodName} {cc' : ByteArray} {rt' : Option FieldType} {Post : Option Value → gt_W → Prop} (hl1 : Cond.methodLink own idx y ∈ gt_tbl) (hV : gt_S y cc' mL' rt' As.length) (hC : gt_D l G y cc' mL' rt' d' n As w Post) (hroom : gt_rc R d' uc us 0 0) (hs : (st.map fun v => v.category).sum ≤ 8) (hd : decode cc pc = .ok (.invokestatic idx, 3))
    (kk : ∀ (r : Option Value) (w' : gt_W), Post r w' → gt_A l G own nm cc mL rt R Z (n, uc, us) (pc + 3) lv (r.toList ++ st) (gt_enc w')) : gt_A l G own nm cc mL rt R Z (n, uc, us) pc lv (As.reverse ++ st) (gt_enc w) :=
  fun p e s m args below meth c H locs ls X hR hL hl => by
    obtain ⟨v1, v3, v4, v5, v6⟩ := hV
    have hts := X.2.2.2.2.2.2.2.1
    have hK := X.2.2.2.2.2.2.2.2
    have cw : CallB R s args own idx y cc' mL' rt' (.code y cc' mL' rt' :: gt_tbl) (gt_rm d' 0 0) 0 0 As.length ∧ (Cond.static y).before args s = true :=
      ⟨callB_of As.length hts (gt_tbl_good v4) rfl rfl rfl (hts _ v3) (hts _ hl1) v5 ⟨hroom.1, by have := hroom.2.1; show 8 + (mL' + 11) + 40 * d' ≤ _; omega⟩, hts _ v1⟩
    have hrun := va_runS (g := F0 m pc ls (((As.map (gt_v G)).reverse) ++ st.map (gt_v G))) (locs := locs) (below := below) (meth := meth) (e := e) (H := H) ⟨X.1, X.2.1, X.2.2.1, X.2.2.2.2.2.1, hts⟩ hC cw (As := As.map (gt_v G)) ⟨gt_P_blind G n _ (gt_enc w), gt_pre (y := y) (as := As) hR hK⟩ rfl (by rw [List.length_map]) hl.1 (rest := st.map (gt_v G)) rfl (gt_roomF hs) hd ⟨hroom.2.2.1, hroom.2.2.2⟩
    have e1 : (As.reverse ++ st).map (gt_v G) = ((As.map (gt_v G)).reverse) ++ st.map (gt_v G) := by rw [List.map_append, List.map_reverse]
    rw [e1]
    refine gt_goesD hrun hL (fun r w' H1 locs1 hp hR1 hL1 => ?_)
    rw [gt_map_toList]
    exact kk r w' hp p e s m args below meth c H1 locs1 ls X hR1 hL1 hl
theorem gd_V0 {idx b ci d' mL' uc us : Nat} {y : MethodName} {cc' : ByteArray} {rt' : Option FieldType} {fs : List Value} {q : vw_C} {Post : Option Value → gt_W → Prop} (hl1 : Cond.methodLink own idx y ∈ gt_tbl) (hV : gt_V y cc' mL' rt' 0) (hC : gt_D l G y cc' mL' rt' d' n (.ref b :: []) w Post) (ho : gt_enc w b = some (oO ci fs)) (hq : vwCl[ci]? = some q) (hqn : q.1 = y.cls) (hroom : gt_rc R d' uc us 0 0) (hs : (st.map fun v => v.category).sum ≤ 8) (hd : decode cc pc = .ok (.invokevirtual idx, 3)) (kk : ∀ (r : Option Value) (w' : gt_W), Post r w' → gt_A l G own nm cc mL rt R Z (n, uc, us) (pc + 3) lv (r.toList ++ st) (gt_enc w')) : gt_A l G own nm cc mL rt R Z (n, uc, us) pc lv (.ref b :: st) (gt_enc w) := gd_callV [] hl1 hV hC ho hq hqn hroom hs hd kk
theorem gd_S0 {idx d' mL' uc us : Nat} {y : MethodName} {cc' : ByteArray} {rt' : Option FieldType} {Post : Option Value → gt_W → Prop} (hl1 : Cond.methodLink own idx y ∈ gt_tbl) (hV : gt_S y cc' mL' rt' 0) (hC : gt_D l G y cc' mL' rt' d' n [] w Post) (hroom : gt_rc R d' uc us 0 0) (hs : (st.map fun v => v.category).sum ≤ 8) (hd : decode cc pc = .ok (.invokestatic idx, 3)) (kk : ∀ (r : Option Value) (w' : gt_W), Post r w' → gt_A l G own nm cc mL rt R Z (n, uc, us) (pc + 3) lv (r.toList ++ st) (gt_enc w')) : gt_A l G own nm cc mL rt R Z (n, uc, us) pc lv (st) (gt_enc w) := gd_callS [] hl1 hV hC hroom hs hd kk
theorem gd_V1 {a1 : Value} {idx b ci d' mL' uc us : Nat} {y : MethodName} {cc' : ByteArray} {rt' : Option FieldType} {fs : List Value} {q : vw_C} {Post : Option Value → gt_W → Prop} (hl1 : Cond.methodLink own idx y ∈ gt_tbl) (hV : gt_V y cc' mL' rt' 1) (hC : gt_D l G y cc' mL' rt' d' n (.ref b :: [a1]) w Post) (ho : gt_enc w b = some (oO ci fs)) (hq : vwCl[ci]? = some q) (hqn : q.1 = y.cls) (hroom : gt_rc R d' uc us 0 0) (hs : (st.map fun v => v.category).sum ≤ 8) (hd : decode cc pc = .ok (.invokevirtual idx, 3)) (kk : ∀ (r : Option Value) (w' : gt_W), Post r w' → gt_A l G own nm cc mL rt R Z (n, uc, us) (pc + 3) lv (r.toList ++ st) (gt_enc w')) : gt_A l G own nm cc mL rt R Z (n, uc, us) pc lv (a1 :: .ref b :: st) (gt_enc w) := gd_callV [a1] hl1 hV hC ho hq hqn hroom hs hd kk
theorem gd_S1 {a1 : Value} {idx d' mL' uc us : Nat} {y : MethodName} {cc' : ByteArray} {rt' : Option FieldType} {Post : Option Value → gt_W → Prop} (hl1 : Cond.methodLink own idx y ∈ gt_tbl) (hV : gt_S y cc' mL' rt' 1) (hC : gt_D l G y cc' mL' rt' d' n [a1] w Post) (hroom : gt_rc R d' uc us 0 0) (hs : (st.map fun v => v.category).sum ≤ 8) (hd : decode cc pc = .ok (.invokestatic idx, 3)) (kk : ∀ (r : Option Value) (w' : gt_W), Post r w' → gt_A l G own nm cc mL rt R Z (n, uc, us) (pc + 3) lv (r.toList ++ st) (gt_enc w')) : gt_A l G own nm cc mL rt R Z (n, uc, us) pc lv (a1 :: st) (gt_enc w) := gd_callS [a1] hl1 hV hC hroom hs hd kk
theorem gd_V2 {a1 a2 : Value} {idx b ci d' mL' uc us : Nat} {y : MethodName} {cc' : ByteArray} {rt' : Option FieldType} {fs : List Value} {q : vw_C} {Post : Option Value → gt_W → Prop} (hl1 : Cond.methodLink own idx y ∈ gt_tbl) (hV : gt_V y cc' mL' rt' 2) (hC : gt_D l G y cc' mL' rt' d' n (.ref b :: [a1, a2]) w Post) (ho : gt_enc w b = some (oO ci fs)) (hq : vwCl[ci]? = some q) (hqn : q.1 = y.cls) (hroom : gt_rc R d' uc us 0 0) (hs : (st.map fun v => v.category).sum ≤ 8) (hd : decode cc pc = .ok (.invokevirtual idx, 3)) (kk : ∀ (r : Option Value) (w' : gt_W), Post r w' → gt_A l G own nm cc mL rt R Z (n, uc, us) (pc + 3) lv (r.toList ++ st) (gt_enc w')) : gt_A l G own nm cc mL rt R Z (n, uc, us) pc lv (a2 :: a1 :: .ref b :: st) (gt_enc w) := gd_callV [a1, a2] hl1 hV hC ho hq hqn hroom hs hd kk
theorem gd_S2 {a1 a2 : Value} {idx d' mL' uc us : Nat} {y : MethodName} {cc' : ByteArray} {rt' : Option FieldType} {Post : Option Value → gt_W → Prop} (hl1 : Cond.methodLink own idx y ∈ gt_tbl) (hV : gt_S y cc' mL' rt' 2) (hC : gt_D l G y cc' mL' rt' d' n [a1, a2] w Post) (hroom : gt_rc R d' uc us 0 0) (hs : (st.map fun v => v.category).sum ≤ 8) (hd : decode cc pc = .ok (.invokestatic idx, 3)) (kk : ∀ (r : Option Value) (w' : gt_W), Post r w' → gt_A l G own nm cc mL rt R Z (n, uc, us) (pc + 3) lv (r.toList ++ st) (gt_enc w')) : gt_A l G own nm cc mL rt R Z (n, uc, us) pc lv (a2 :: a1 :: st) (gt_enc w) := gd_callS [a1, a2] hl1 hV hC hroom hs hd kk
theorem gd_V3 {a1 a2 a3 : Value} {idx b ci d' mL' uc us : Nat} {y : MethodName} {cc' : ByteArray} {rt' : Option FieldType} {fs : List Value} {q : vw_C} {Post : Option Value → gt_W → Prop} (hl1 : Cond.methodLink own idx y ∈ gt_tbl) (hV : gt_V y cc' mL' rt' 3) (hC : gt_D l G y cc' mL' rt' d' n (.ref b :: [a1, a2, a3]) w Post) (ho : gt_enc w b = some (oO ci fs)) (hq : vwCl[ci]? = some q) (hqn : q.1 = y.cls) (hroom : gt_rc R d' uc us 0 0) (hs : (st.map fun v => v.category).sum ≤ 8) (hd : decode cc pc = .ok (.invokevirtual idx, 3)) (kk : ∀ (r : Option Value) (w' : gt_W), Post r w' → gt_A l G own nm cc mL rt R Z (n, uc, us) (pc + 3) lv (r.toList ++ st) (gt_enc w')) : gt_A l G own nm cc mL rt R Z (n, uc, us) pc lv (a3 :: a2 :: a1 :: .ref b :: st) (gt_enc w) := gd_callV [a1, a2, a3] hl1 hV hC ho hq hqn hroom hs hd kk
theorem gd_S3 {a1 a2 a3 : Value} {idx d' mL' uc us : Nat} {y : MethodName} {cc' : ByteArray} {rt' : Option FieldType} {Post : Option Value → gt_W → Prop} (hl1 : Cond.methodLink own idx y ∈ gt_tbl) (hV : gt_S y cc' mL' rt' 3) (hC : gt_D l G y cc' mL' rt' d' n [a1, a2, a3] w Post) (hroom : gt_rc R d' uc us 0 0) (hs : (st.map fun v => v.category).sum ≤ 8) (hd : decode cc pc = .ok (.invokestatic idx, 3)) (kk : ∀ (r : Option Value) (w' : gt_W), Post r w' → gt_A l G own nm cc mL rt R Z (n, uc, us) (pc + 3) lv (r.toList ++ st) (gt_enc w')) : gt_A l G own nm cc mL rt R Z (n, uc, us) pc lv (a3 :: a2 :: a1 :: st) (gt_enc w) := gd_callS [a1, a2, a3] hl1 hV hC hroom hs hd kk
theorem gd_V4 {a1 a2 a3 a4 : Value} {idx b ci d' mL' uc us : Nat} {y : MethodName} {cc' : ByteArray} {rt' : Option FieldType} {fs : List Value} {q : vw_C} {Post : Option Value → gt_W → Prop} (hl1 : Cond.methodLink own idx y ∈ gt_tbl) (hV : gt_V y cc' mL' rt' 4) (hC : gt_D l G y cc' mL' rt' d' n (.ref b :: [a1, a2, a3, a4]) w Post) (ho : gt_enc w b = some (oO ci fs)) (hq : vwCl[ci]? = some q) (hqn : q.1 = y.cls) (hroom : gt_rc R d' uc us 0 0) (hs : (st.map fun v => v.category).sum ≤ 8) (hd : decode cc pc = .ok (.invokevirtual idx, 3)) (kk : ∀ (r : Option Value) (w' : gt_W), Post r w' → gt_A l G own nm cc mL rt R Z (n, uc, us) (pc + 3) lv (r.toList ++ st) (gt_enc w')) : gt_A l G own nm cc mL rt R Z (n, uc, us) pc lv (a4 :: a3 :: a2 :: a1 :: .ref b :: st) (gt_enc w) := gd_callV [a1, a2, a3, a4] hl1 hV hC ho hq hqn hroom hs hd kk
theorem gd_S4 {a1 a2 a3 a4 : Value} {idx d' mL' uc us : Nat} {y : MethodName} {cc' : ByteArray} {rt' : Option FieldType} {Post : Option Value → gt_W → Prop} (hl1 : Cond.methodLink own idx y ∈ gt_tbl) (hV : gt_S y cc' mL' rt' 4) (hC : gt_D l G y cc' mL' rt' d' n [a1, a2, a3, a4] w Post) (hroom : gt_rc R d' uc us 0 0) (hs : (st.map fun v => v.category).sum ≤ 8) (hd : decode cc pc = .ok (.invokestatic idx, 3)) (kk : ∀ (r : Option Value) (w' : gt_W), Post r w' → gt_A l G own nm cc mL rt R Z (n, uc, us) (pc + 3) lv (r.toList ++ st) (gt_enc w')) : gt_A l G own nm cc mL rt R Z (n, uc, us) pc lv (a4 :: a3 :: a2 :: a1 :: st) (gt_enc w) := gd_callS [a1, a2, a3, a4] hl1 hV hC hroom hs hd kk
theorem gd_V5 {a1 a2 a3 a4 a5 : Value} {idx b ci d' mL' uc us : Nat} {y : MethodName} {cc' : ByteArray} {rt' : Option FieldType} {fs : List Value} {q : vw_C} {Post : Option Value → gt_W → Prop} (hl1 : Cond.methodLink own idx y ∈ gt_tbl) (hV : gt_V y cc' mL' rt' 5) (hC : gt_D l G y cc' mL' rt' d' n (.ref b :: [a1, a2, a3, a4, a5]) w Post) (ho : gt_enc w b = some (oO ci fs)) (hq : vwCl[ci]? = some q) (hqn : q.1 = y.cls) (hroom : gt_rc R d' uc us 0 0) (hs : (st.map fun v => v.category).sum ≤ 8) (hd : decode cc pc = .ok (.invokevirtual idx, 3)) (kk : ∀ (r : Option Value) (w' : gt_W), Post r w' → gt_A l G own nm cc mL rt R Z (n, uc, us) (pc + 3) lv (r.toList ++ st) (gt_enc w')) : gt_A l G own nm cc mL rt R Z (n, uc, us) pc lv (a5 :: a4 :: a3 :: a2 :: a1 :: .ref b :: st) (gt_enc w) := gd_callV [a1, a2, a3, a4, a5] hl1 hV hC ho hq hqn hroom hs hd kk
theorem gd_S5 {a1 a2 a3 a4 a5 : Value} {idx d' mL' uc us : Nat} {y : MethodName} {cc' : ByteArray} {rt' : Option FieldType} {Post : Option Value → gt_W → Prop} (hl1 : Cond.methodLink own idx y ∈ gt_tbl) (hV : gt_S y cc' mL' rt' 5) (hC : gt_D l G y cc' mL' rt' d' n [a1, a2, a3, a4, a5] w Post) (hroom : gt_rc R d' uc us 0 0) (hs : (st.map fun v => v.category).sum ≤ 8) (hd : decode cc pc = .ok (.invokestatic idx, 3)) (kk : ∀ (r : Option Value) (w' : gt_W), Post r w' → gt_A l G own nm cc mL rt R Z (n, uc, us) (pc + 3) lv (r.toList ++ st) (gt_enc w')) : gt_A l G own nm cc mL rt R Z (n, uc, us) pc lv (a5 :: a4 :: a3 :: a2 :: a1 :: st) (gt_enc w) := gd_callS [a1, a2, a3, a4, a5] hl1 hV hC hroom hs hd kk
theorem gd_V6 {a1 a2 a3 a4 a5 a6 : Value} {idx b ci d' mL' uc us : Nat} {y : MethodName} {cc' : ByteArray} {rt' : Option FieldType} {fs : List Value} {q : vw_C} {Post : Option Value → gt_W → Prop} (hl1 : Cond.methodLink own idx y ∈ gt_tbl) (hV : gt_V y cc' mL' rt' 6) (hC : gt_D l G y cc' mL' rt' d' n (.ref b :: [a1, a2, a3, a4, a5, a6]) w Post) (ho : gt_enc w b = some (oO ci fs)) (hq : vwCl[ci]? = some q) (hqn : q.1 = y.cls) (hroom : gt_rc R d' uc us 0 0) (hs : (st.map fun v => v.category).sum ≤ 8) (hd : decode cc pc = .ok (.invokevirtual idx, 3)) (kk : ∀ (r : Option Value) (w' : gt_W), Post r w' → gt_A l G own nm cc mL rt R Z (n, uc, us) (pc + 3) lv (r.toList ++ st) (gt_enc w')) : gt_A l G own nm cc mL rt R Z (n, uc, us) pc lv (a6 :: a5 :: a4 :: a3 :: a2 :: a1 :: .ref b :: st) (gt_enc w) := gd_callV [a1, a2, a3, a4, a5, a6] hl1 hV hC ho hq hqn hroom hs hd kk
theorem gd_S6 {a1 a2 a3 a4 a5 a6 : Value} {idx d' mL' uc us : Nat} {y : MethodName} {cc' : ByteArray} {rt' : Option FieldType} {Post : Option Value → gt_W → Prop} (hl1 : Cond.methodLink own idx y ∈ gt_tbl) (hV : gt_S y cc' mL' rt' 6) (hC : gt_D l G y cc' mL' rt' d' n [a1, a2, a3, a4, a5, a6] w Post) (hroom : gt_rc R d' uc us 0 0) (hs : (st.map fun v => v.category).sum ≤ 8) (hd : decode cc pc = .ok (.invokestatic idx, 3)) (kk : ∀ (r : Option Value) (w' : gt_W), Post r w' → gt_A l G own nm cc mL rt R Z (n, uc, us) (pc + 3) lv (r.toList ++ st) (gt_enc w')) : gt_A l G own nm cc mL rt R Z (n, uc, us) pc lv (a6 :: a5 :: a4 :: a3 :: a2 :: a1 :: st) (gt_enc w) := gd_callS [a1, a2, a3, a4, a5, a6] hl1 hV hC hroom hs hd kk
theorem gd_S7 {a1 a2 a3 a4 a5 a6 a7 : Value} {idx d' mL' uc us : Nat} {y : MethodName} {cc' : ByteArray} {rt' : Option FieldType} {Post : Option Value → gt_W → Prop} (hl1 : Cond.methodLink own idx y ∈ gt_tbl) (hV : gt_S y cc' mL' rt' 7) (hC : gt_D l G y cc' mL' rt' d' n [a1, a2, a3, a4, a5, a6, a7] w Post) (hroom : gt_rc R d' uc us 0 0) (hs : (st.map fun v => v.category).sum ≤ 8) (hd : decode cc pc = .ok (.invokestatic idx, 3)) (kk : ∀ (r : Option Value) (w' : gt_W), Post r w' → gt_A l G own nm cc mL rt R Z (n, uc, us) (pc + 3) lv (r.toList ++ st) (gt_enc w')) : gt_A l G own nm cc mL rt R Z (n, uc, us) pc lv (a7 :: a6 :: a5 :: a4 :: a3 :: a2 :: a1 :: st) (gt_enc w) := gd_callS [a1, a2, a3, a4, a5, a6, a7] hl1 hV hC hroom hs hd kk
end GD
end
section
theorem gv {x y : Int32} (h : x = y) : (some (Value.int x) : Option Value) = some (Value.int y) := by rw [h]
section GL
variable {l : Launch} {G : gt_G} {own nm : String} {cc : ByteArray} {mL : Nat} {rt : Option FieldType} {R : Room} {Z : gt_Zt} {N : Nat × Nat × Nat} {pc : Nat} {lv : List (Nat × Value)} {st : List Value} {w : gt_W} {s c t : Nat} {K V : gx_K} {m : Int32}
theorem ge_ialdE {a n k : Nat} {i v : Int32} (ho : ∀ r, gt_sh a r = some (oI n r)) (hi : gt_ix i k n) (hv : w a k = v) (hd : decode cc pc = .ok (.iaload, 1)) (kk : gt_A l G own nm cc mL rt R Z N (pc + 1) lv (.int v :: st) (gt_enc w)) : gt_A l G own nm cc mL rt R Z N pc lv (.int i :: .ref a :: st) (gt_enc w) := ge_iald ho hi hd (by rw [hv]; exact kk)
theorem gl_S1 (hs : gt_isS s) (hV : gx_St w s K V m) (kw : gx_KW K) (ht : t < K 0 1) (hd : decode cc pc = .ok (.iaload, 1)) (kk : gt_A l G own nm cc mL rt R Z N (pc + 1) lv (.int (nI (V 1 t)) :: st) (gt_enc w)) : gt_A l G own nm cc mL rt R Z N pc lv (.int (nI t) :: .ref (s + 1) :: st) (gt_enc w) := ge_ialdE (shS1 hs) (gt_ixn (Nat.lt_of_lt_of_le ht kw.2.1)) (hV.2.2.1 t ht) hd kk
theorem gl_S2 (hs : gt_isS s) (hV : gx_St w s K V m) (kw : gx_KW K) (ht : t < K 0 2) (hd : decode cc pc = .ok (.iaload, 1)) (kk : gt_A l G own nm cc mL rt R Z N (pc + 1) lv (.int (gx_seat (V 2 t)) :: st) (gt_enc w)) : gt_A l G own nm cc mL rt R Z N pc lv (.int (nI t) :: .ref (s + 2) :: st) (gt_enc w) := ge_ialdE (shS2 hs) (gt_ixn (Nat.lt_of_lt_of_le ht kw.2.2.1)) (hV.2.2.2.1 t ht) hd kk
theorem gl_S3 (hs : gt_isS s) (hV : gx_St w s K V m) (kw : gx_KW K) (ht : t < K 0 2) (hd : decode cc pc = .ok (.iaload, 1)) (kk : gt_A l G own nm cc mL rt R Z N (pc + 1) lv (.int (nI (V 3 t)) :: st) (gt_enc w)) : gt_A l G own nm cc mL rt R Z N pc lv (.int (nI t) :: .ref (s + 3) :: st) (gt_enc w) := ge_ialdE (shS3 hs) (gt_ixn (Nat.lt_of_lt_of_le ht kw.2.2.1)) (hV.2.2.2.2.1 t ht) hd kk
theorem gl_S4 (hs : gt_isS s) (hV : gx_St w s K V m) (kw : gx_KW K) (ht : t < K 0 3) (hd : decode cc pc = .ok (.iaload, 1)) (kk : gt_A l G own nm cc mL rt R Z N (pc + 1) lv (.int (nI (V 4 t)) :: st) (gt_enc w)) : gt_A l G own nm cc mL rt R Z N pc lv (.int (nI t) :: .ref (s + 4) :: st) (gt_enc w) := ge_ialdE (shS4 hs) (gt_ixn (Nat.lt_of_lt_of_le ht kw.2.2.2.1)) (hV.2.2.2.2.2 t ht) hd kk
theorem gl_C1 (hc : gt_isC c) (hK : gx_Co w c K) (kw : gx_KW K) (ht : t < K 0 0) (hd : decode cc pc = .ok (.iaload, 1)) (kk : gt_A l G own nm cc mL rt R Z N (pc + 1) lv (.int (nI (K 1 t)) :: st) (gt_enc w)) : gt_A l G own nm cc mL rt R Z N pc lv (.int (nI t) :: .ref (c + 1) :: st) (gt_enc w) := ge_ialdE (shC1 hc) (gt_ixn (Nat.lt_of_lt_of_le ht kw.1)) (hK.2.1 t ht) hd kk
theorem gl_C2 (hc : gt_isC c) (hK : gx_Co w c K) (kw : gx_KW K) (ht : t < K 0 1) (hd : decode cc pc = .ok (.iaload, 1)) (kk : gt_A l G own nm cc mL rt R Z N (pc + 1) lv (.int (nI (K 2 t)) :: st) (gt_enc w)) : gt_A l G own nm cc mL rt R Z N pc lv (.int (nI t) :: .ref (c + 2) :: st) (gt_enc w) := ge_ialdE (shC2 hc) (gt_ixn (Nat.lt_of_lt_of_le ht kw.2.1)) (hK.2.2.1 t ht) hd kk
theorem gl_C3 (hc : gt_isC c) (hK : gx_Co w c K) (kw : gx_KW K) (ht : t < K 0 1) (hd : decode cc pc = .ok (.iaload, 1)) (kk : gt_A l G own nm cc mL rt R Z N (pc + 1) lv (.int (nI (K 3 t)) :: st) (gt_enc w)) : gt_A l G own nm cc mL rt R Z N pc lv (.int (nI t) :: .ref (c + 3) :: st) (gt_enc w) := ge_ialdE (shC3 hc) (gt_ixn (Nat.lt_of_lt_of_le ht kw.2.1)) (hK.2.2.2.1 t ht) hd kk
theorem gl_C4 (hc : gt_isC c) (hK : gx_Co w c K) (kw : gx_KW K) (ht : t < K 0 2) (hd : decode cc pc = .ok (.iaload, 1)) (kk : gt_A l G own nm cc mL rt R Z N (pc + 1) lv (.int (nI (K 4 t)) :: st) (gt_enc w)) : gt_A l G own nm cc mL rt R Z N pc lv (.int (nI t) :: .ref (c + 4) :: st) (gt_enc w) := ge_ialdE (shC4 hc) (gt_ixn (Nat.lt_of_lt_of_le ht kw.2.2.1)) (hK.2.2.2.2.1 t ht) hd kk
theorem gl_C5 (hc : gt_isC c) (hK : gx_Co w c K) (kw : gx_KW K) (ht : t < K 0 3) (hd : decode cc pc = .ok (.iaload, 1)) (kk : gt_A l G own nm cc mL rt R Z N (pc + 1) lv (.int (nI (K 5 t)) :: st) (gt_enc w)) : gt_A l G own nm cc mL rt R Z N pc lv (.int (nI t) :: .ref (c + 5) :: st) (gt_enc w) := ge_ialdE (shC5 hc) (gt_ixn (Nat.lt_of_lt_of_le ht kw.2.2.2.1)) (hK.2.2.2.2.2.1 t ht) hd kk
theorem gl_C6 (hc : gt_isC c) (hK : gx_Co w c K) (kw : gx_KW K) (ht : t < K 0 3) (hd : decode cc pc = .ok (.iaload, 1)) (kk : gt_A l G own nm cc mL rt R Z N (pc + 1) lv (.int (nI (K 6 t)) :: st) (gt_enc w)) : gt_A l G own nm cc mL rt R Z N pc lv (.int (nI t) :: .ref (c + 6) :: st) (gt_enc w) := ge_ialdE (shC6 hc) (gt_ixn (Nat.lt_of_lt_of_le ht kw.2.2.2.1)) (hK.2.2.2.2.2.2.1 t ht) hd kk
theorem gl_C7 (hc : gt_isC c) (hK : gx_Co w c K) (kw : gx_KW K) (ht : t < K 0 3) (hd : decode cc pc = .ok (.iaload, 1)) (kk : gt_A l G own nm cc mL rt R Z N (pc + 1) lv (.int (nI (K 7 t)) :: st) (gt_enc w)) : gt_A l G own nm cc mL rt R Z N pc lv (.int (nI t) :: .ref (c + 7) :: st) (gt_enc w) := ge_ialdE (shC7 hc) (gt_ixn (Nat.lt_of_lt_of_le ht kw.2.2.2.1)) (hK.2.2.2.2.2.2.2 t ht) hd kk
/-- an argument that is compared with nI -/
theorem ga_lvE {h : gt_H} {lv' : List (Nat × Value)} (e : lv = lv') (k : gt_A l G own nm cc mL rt R Z N pc lv' st h) : gt_A l G own nm cc mL rt R Z N pc lv st h := e ▸ k
theorem ga_stE {h : gt_H} {st' : List Value} (e : st = st') (k : gt_A l G own nm cc mL rt R Z N pc lv st' h) : gt_A l G own nm cc mL rt R Z N pc lv st h := e ▸ k
theorem ga_top {h : gt_H} {x : Int32} (y : Int32) (e : x = y) (k : gt_A l G own nm cc mL rt R Z N pc lv (.int y :: st) h) : gt_A l G own nm cc mL rt R Z N pc lv (.int x :: st) h := e ▸ k
end GL
end
section
set_option maxRecDepth 100000 in
set_option maxHeartbeats 4000000 in
theorem c_X0_hasCell {l : Launch} {G : gt_G} {n : Nat} {w : gt_W} {c : Nat} (hc : gt_isC c) {N : Int32} (hN : w c 0 = N) (x : Int32) : gt_C l G yX0_hasCell cX0_hasCell 2 (some .boolean) 1 0 0 n [.ref c, .int x] (gt_enc w) (some (.int (gx_in x N))) (gt_enc (w)) := by
  refine gt_C_of (own := RX0) (nm := "hasCell") rfl rfl (by decide +kernel) (Nat.le_of_ble_eq_true rfl) ?_
  show gt_A _ _ _ _ _ _ _ _ _ _ _ [(0, .ref c), (1, .int x)] _ _
  refine ga_iload_n 1 dX0_hasCell_0 rfl ?_
  refine ga_if_lt 16 dX0_hasCell_1 (by decide) (fun c_1 => ?_) (fun c_1 => ?_)
  · refine ga_iconst (nI 0) dX0_hasCell_16 (by decide) ?_
    exact ga_zret dX0_hasCell_17 (by decide) (by first | rw [gx_in_t c_1 c_9] | rw [gx_in_f1 c_1] | rw [gx_in_f2 c_9]) rfl
  · refine ga_iload_n 1 dX0_hasCell_4 rfl ?_
    refine ga_aload_n 0 dX0_hasCell_5 rfl ?_
    refine ga_get kf_X0_33 (shC hc _) (gv hN) dX0_hasCell_6 ?_
    refine ga_icmp_ge 16 dX0_hasCell_9 (by decide) (fun c_9 => ?_) (fun c_9 => ?_)
    · refine ga_iconst (nI 0) dX0_hasCell_16 (by decide) ?_
      exact ga_zret dX0_hasCell_17 (by decide) (by first | rw [gx_in_t c_1 c_9] | rw [gx_in_f1 c_1] | rw [gx_in_f2 c_9]) rfl
    · refine ga_iconst (nI 1) dX0_hasCell_12 (by decide) ?_
      refine ga_goto 17 dX0_hasCell_13 (by decide) ?_
      exact ga_zret dX0_hasCell_17 (by decide) (by first | rw [gx_in_t c_1 c_9] | rw [gx_in_f1 c_1] | rw [gx_in_f2 c_9]) rfl
set_option maxRecDepth 100000 in
set_option maxHeartbeats 4000000 in
theorem c_X0_hasTower {l : Launch} {G : gt_G} {n : Nat} {w : gt_W} {c : Nat} (hc : gt_isC c) {N : Int32} (hN : w c 1 = N) (x : Int32) : gt_C l G yX0_hasTower cX0_hasTower 2 (some .boolean) 1 0 0 n [.ref c, .int x] (gt_enc w) (some (.int (gx_in x N))) (gt_enc (w)) := by
  refine gt_C_of (own := RX0) (nm := "hasTower") rfl rfl (by decide +kernel) (Nat.le_of_ble_eq_true rfl) ?_
  show gt_A _ _ _ _ _ _ _ _ _ _ _ [(0, .ref c), (1, .int x)] _ _
  refine ga_iload_n 1 dX0_hasTower_0 rfl ?_
  refine ga_if_lt 16 dX0_hasTower_1 (by decide) (fun c_1 => ?_) (fun c_1 => ?_)
  · refine ga_iconst (nI 0) dX0_hasTower_16 (by decide) ?_
    exact ga_zret dX0_hasTower_17 (by decide) (by first | rw [gx_in_t c_1 c_9] | rw [gx_in_f1 c_1] | rw [gx_in_f2 c_9]) rfl
  · refine ga_iload_n 1 dX0_hasTower_4 rfl ?_
    refine ga_aload_n 0 dX0_hasTower_5 rfl ?_
    refine ga_get kf_X0_37 (shC hc _) (gv hN) dX0_hasTower_6 ?_
    refine ga_icmp_ge 16 dX0_hasTower_9 (by decide) (fun c_9 => ?_) (fun c_9 => ?_)
    · refine ga_iconst (nI 0) dX0_hasTower_16 (by decide) ?_
      exact ga_zret dX0_hasTower_17 (by decide) (by first | rw [gx_in_t c_1 c_9] | rw [gx_in_f1 c_1] | rw [gx_in_f2 c_9]) rfl
    · refine ga_iconst (nI 1) dX0_hasTower_12 (by decide) ?_
      refine ga_goto 17 dX0_hasTower_13 (by decide) ?_
      exact ga_zret dX0_hasTower_17 (by decide) (by first | rw [gx_in_t c_1 c_9] | rw [gx_in_f1 c_1] | rw [gx_in_f2 c_9]) rfl
set_option maxRecDepth 100000 in
set_option maxHeartbeats 4000000 in
theorem c_X0_hasPlayer {l : Launch} {G : gt_G} {n : Nat} {w : gt_W} {c : Nat} (hc : gt_isC c) {N : Int32} (hN : w c 2 = N) (x : Int32) : gt_C l G yX0_hasPlayer cX0_hasPlayer 2 (some .boolean) 1 0 0 n [.ref c, .int x] (gt_enc w) (some (.int (gx_in x N))) (gt_enc (w)) := by
  refine gt_C_of (own := RX0) (nm := "hasPlayer") rfl rfl (by decide +kernel) (Nat.le_of_ble_eq_true rfl) ?_
  show gt_A _ _ _ _ _ _ _ _ _ _ _ [(0, .ref c), (1, .int x)] _ _
  refine ga_iload_n 1 dX0_hasPlayer_0 rfl ?_
  refine ga_if_lt 16 dX0_hasPlayer_1 (by decide) (fun c_1 => ?_) (fun c_1 => ?_)
  · refine ga_iconst (nI 0) dX0_hasPlayer_16 (by decide) ?_
    exact ga_zret dX0_hasPlayer_17 (by decide) (by first | rw [gx_in_t c_1 c_9] | rw [gx_in_f1 c_1] | rw [gx_in_f2 c_9]) rfl
  · refine ga_iload_n 1 dX0_hasPlayer_4 rfl ?_
    refine ga_aload_n 0 dX0_hasPlayer_5 rfl ?_
    refine ga_get kf_X0_40 (shC hc _) (gv hN) dX0_hasPlayer_6 ?_
    refine ga_icmp_ge 16 dX0_hasPlayer_9 (by decide) (fun c_9 => ?_) (fun c_9 => ?_)
    · refine ga_iconst (nI 0) dX0_hasPlayer_16 (by decide) ?_
      exact ga_zret dX0_hasPlayer_17 (by decide) (by first | rw [gx_in_t c_1 c_9] | rw [gx_in_f1 c_1] | rw [gx_in_f2 c_9]) rfl
    · refine ga_iconst (nI 1) dX0_hasPlayer_12 (by decide) ?_
      refine ga_goto 17 dX0_hasPlayer_13 (by decide) ?_
      exact ga_zret dX0_hasPlayer_17 (by decide) (by first | rw [gx_in_t c_1 c_9] | rw [gx_in_f1 c_1] | rw [gx_in_f2 c_9]) rfl
set_option maxRecDepth 100000 in
set_option maxHeartbeats 4000000 in
theorem c_X0_hasBoat {l : Launch} {G : gt_G} {n : Nat} {w : gt_W} {c : Nat} (hc : gt_isC c) {N : Int32} (hN : w c 3 = N) (x : Int32) : gt_C l G yX0_hasBoat cX0_hasBoat 2 (some .boolean) 1 0 0 n [.ref c, .int x] (gt_enc w) (some (.int (gx_in x N))) (gt_enc (w)) := by
  refine gt_C_of (own := RX0) (nm := "hasBoat") rfl rfl (by decide +kernel) (Nat.le_of_ble_eq_true rfl) ?_
  show gt_A _ _ _ _ _ _ _ _ _ _ _ [(0, .ref c), (1, .int x)] _ _
  refine ga_iload_n 1 dX0_hasBoat_0 rfl ?_
  refine ga_if_lt 16 dX0_hasBoat_1 (by decide) (fun c_1 => ?_) (fun c_1 => ?_)
  · refine ga_iconst (nI 0) dX0_hasBoat_16 (by decide) ?_
    exact ga_zret dX0_hasBoat_17 (by decide) (by first | rw [gx_in_t c_1 c_9] | rw [gx_in_f1 c_1] | rw [gx_in_f2 c_9]) rfl
  · refine ga_iload_n 1 dX0_hasBoat_4 rfl ?_
    refine ga_aload_n 0 dX0_hasBoat_5 rfl ?_
    refine ga_get kf_X0_43 (shC hc _) (gv hN) dX0_hasBoat_6 ?_
    refine ga_icmp_ge 16 dX0_hasBoat_9 (by decide) (fun c_9 => ?_) (fun c_9 => ?_)
    · refine ga_iconst (nI 0) dX0_hasBoat_16 (by decide) ?_
      exact ga_zret dX0_hasBoat_17 (by decide) (by first | rw [gx_in_t c_1 c_9] | rw [gx_in_f1 c_1] | rw [gx_in_f2 c_9]) rfl
    · refine ga_iconst (nI 1) dX0_hasBoat_12 (by decide) ?_
      refine ga_goto 17 dX0_hasBoat_13 (by decide) ?_
      exact ga_zret dX0_hasBoat_17 (by decide) (by first | rw [gx_in_t c_1 c_9] | rw [gx_in_f1 c_1] | rw [gx_in_f2 c_9]) rfl
set_option maxRecDepth 100000 in
set_option maxHeartbeats 4000000 in
theorem c_X0_bears {l : Launch} {G : gt_G} {n : Nat} {w : gt_W} {c t wd k : Nat} {K : gx_K} (hc : gt_isC c) (hK : gx_Co w c K) (kw : gx_KW K) (ht : t < K 0 1) (h9 : wd ≤ 99) (hk : k < 11) : gt_C l G yX0_bears cX0_bears 4 (some .int) 1 0 0 n [.ref c, .int (nI t), .int (nI wd), .int (nI k)] (gt_enc w) (some (.int (nI (gx_bears wd (K 3 t) (K 2 t) k)))) (gt_enc (w)) := by
  refine gt_C_of (own := RX0) (nm := "bears") rfl rfl (by decide +kernel) (Nat.le_of_ble_eq_true rfl) ?_
  show gt_A _ _ _ _ _ _ _ _ _ _ _ [(0, .ref c), (1, .int (nI t)), (2, .int (nI wd)), (3, .int (nI k))] _ _
  refine ga_iconst (nI 0) dX0_bears_0 (by decide) ?_
  refine ga_iload_n 2 dX0_bears_1 rfl ?_
  refine ga_aload_n 0 dX0_bears_2 rfl ?_
  refine ga_get kf_X0_18 (shC hc _) rfl dX0_bears_3 ?_
  refine ga_iload_n 1 dX0_bears_6 rfl ?_
  refine gl_C3 hc hK kw ht dX0_bears_7 ?_
  refine ga_iload_n 3 dX0_bears_8 rfl ?_
  refine ga_aload_n 0 dX0_bears_9 rfl ?_
  refine ga_get kf_X0_15 (shC hc _) rfl dX0_bears_10 ?_
  refine ga_iload_n 1 dX0_bears_13 rfl ?_
  refine gl_C2 hc hK kw ht dX0_bears_14 ?_
  refine ga_isub dX0_bears_15 ?_
  refine ga_abs km_X0_46 kmath_abs (gt_room0 (by decide)) (Nat.le_of_ble_eq_true rfl) dX0_bears_16 ?_
  refine ga_imul dX0_bears_19 ?_
  refine ga_isub dX0_bears_20 ?_
  refine ga_max km_X0_52 kmath_max (gt_room0 (by decide)) (Nat.le_of_ble_eq_true rfl) dX0_bears_21 ?_
  exact ga_iret dX0_bears_24 (gv (gx_bearsN h9 (kw.2.2.2.2.2.2.1 t ht).2 (Nat.lt_of_lt_of_le (kw.2.2.2.2.2.1 t ht) kw.1) hk).symm) rfl
end
