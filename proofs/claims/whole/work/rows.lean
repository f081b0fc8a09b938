section
-- ===== PART A: goes FIRST, ahead of the names: the tables' words, and 'selects' of the private methods out of them =====
/-- a private method of a class that the tables say can be made, by its rows of tables_1 -/
def lw_okq (q : MethodName × Nat) : Prop := (q.1.cls ≠ "java/lang/invoke/MethodHandle" ∧ q.1.cls ≠ "java/lang/invoke/VarHandle") ∧ Cond.instantiable q.1.cls q.2 ∈ tables_1 ∧ Cond.privateMethod q.1 ∈ tables_1 ∧ Cond.instanceMethod q.1 ∈ tables_1
theorem lw_p0 : lw_okq (⟨"GurdyTide$Reader", "moreComes", "()Z"⟩, 5) := ⟨⟨by decide +kernel, by decide +kernel⟩, List.mem_of_getElem? (i := 24) (by decide +kernel), List.mem_of_getElem? (i := 357) (by decide +kernel), List.mem_of_getElem? (i := 358) (by decide +kernel)⟩
theorem lw_p1 : lw_okq (⟨"GurdyTide$Reader", "readCells", "(LGurdyTide$Coast;)V"⟩, 5) := ⟨⟨by decide +kernel, by decide +kernel⟩, List.mem_of_getElem? (i := 24) (by decide +kernel), List.mem_of_getElem? (i := 361) (by decide +kernel), List.mem_of_getElem? (i := 362) (by decide +kernel)⟩
theorem lw_p2 : lw_okq (⟨"GurdyTide$Reader", "takeSign", "(I)V"⟩, 5) := ⟨⟨by decide +kernel, by decide +kernel⟩, List.mem_of_getElem? (i := 24) (by decide +kernel), List.mem_of_getElem? (i := 365) (by decide +kernel), List.mem_of_getElem? (i := 366) (by decide +kernel)⟩
theorem lw_p3 : lw_okq (⟨"GurdyTide$Reader", "nextIs", "(I)Z"⟩, 5) := ⟨⟨by decide +kernel, by decide +kernel⟩, List.mem_of_getElem? (i := 24) (by decide +kernel), List.mem_of_getElem? (i := 369) (by decide +kernel), List.mem_of_getElem? (i := 370) (by decide +kernel)⟩
theorem lw_p4 : lw_okq (⟨"GurdyTide$Reader", "fail", "(II)V"⟩, 5) := ⟨⟨by decide +kernel, by decide +kernel⟩, List.mem_of_getElem? (i := 24) (by decide +kernel), List.mem_of_getElem? (i := 373) (by decide +kernel), List.mem_of_getElem? (i := 374) (by decide +kernel)⟩
theorem lw_p5 : lw_okq (⟨"GurdyTide$Reader", "takeNumber", "(II)I"⟩, 5) := ⟨⟨by decide +kernel, by decide +kernel⟩, List.mem_of_getElem? (i := 24) (by decide +kernel), List.mem_of_getElem? (i := 377) (by decide +kernel), List.mem_of_getElem? (i := 378) (by decide +kernel)⟩
theorem lw_p6 : lw_okq (⟨"GurdyTide$Reader", "readClause", "(LGurdyTide$Coast;)V"⟩, 5) := ⟨⟨by decide +kernel, by decide +kernel⟩, List.mem_of_getElem? (i := 24) (by decide +kernel), List.mem_of_getElem? (i := 384) (by decide +kernel), List.mem_of_getElem? (i := 385) (by decide +kernel)⟩
theorem lw_p7 : lw_okq (⟨"GurdyTide$Reader", "readTower", "(LGurdyTide$Coast;)V"⟩, 5) := ⟨⟨by decide +kernel, by decide +kernel⟩, List.mem_of_getElem? (i := 24) (by decide +kernel), List.mem_of_getElem? (i := 388) (by decide +kernel), List.mem_of_getElem? (i := 389) (by decide +kernel)⟩
theorem lw_p8 : lw_okq (⟨"GurdyTide$Reader", "readPlayer", "(LGurdyTide$Coast;)V"⟩, 5) := ⟨⟨by decide +kernel, by decide +kernel⟩, List.mem_of_getElem? (i := 24) (by decide +kernel), List.mem_of_getElem? (i := 392) (by decide +kernel), List.mem_of_getElem? (i := 393) (by decide +kernel)⟩
theorem lw_p9 : lw_okq (⟨"GurdyTide$Reader", "readBoat", "(LGurdyTide$Coast;)V"⟩, 5) := ⟨⟨by decide +kernel, by decide +kernel⟩, List.mem_of_getElem? (i := 24) (by decide +kernel), List.mem_of_getElem? (i := 396) (by decide +kernel), List.mem_of_getElem? (i := 397) (by decide +kernel)⟩
theorem lw_p10 : lw_okq (⟨"GurdyTide$State", "unlikeness", "(LGurdyTide$Coast;I)I"⟩, 6) := ⟨⟨by decide +kernel, by decide +kernel⟩, List.mem_of_getElem? (i := 126) (by decide +kernel), List.mem_of_getElem? (i := 439) (by decide +kernel), List.mem_of_getElem? (i := 440) (by decide +kernel)⟩
theorem lw_p11 : lw_okq (⟨"GurdyTide$Sleepers", "fits", "(ILGurdyTide$Coast;LGurdyTide$State;LGurdyTide$Notes;LGurdyTide$State;)Z"⟩, 1) := ⟨⟨by decide +kernel, by decide +kernel⟩, List.mem_of_getElem? (i := 266) (by decide +kernel), List.mem_of_getElem? (i := 484) (by decide +kernel), List.mem_of_getElem? (i := 485) (by decide +kernel)⟩
theorem lw_p12 : lw_okq (⟨"GurdyTide$Sleepers", "beginAsleep", "(ILGurdyTide$State;LGurdyTide$State;)V"⟩, 1) := ⟨⟨by decide +kernel, by decide +kernel⟩, List.mem_of_getElem? (i := 266) (by decide +kernel), List.mem_of_getElem? (i := 488) (by decide +kernel), List.mem_of_getElem? (i := 489) (by decide +kernel)⟩
theorem lw_p13 : lw_okq (⟨"GurdyTide$Notes", "seenIsSo", "(I)Z"⟩, 11) := ⟨⟨by decide +kernel, by decide +kernel⟩, List.mem_of_getElem? (i := 195) (by decide +kernel), List.mem_of_getElem? (i := 531) (by decide +kernel), List.mem_of_getElem? (i := 532) (by decide +kernel)⟩
theorem lw_p14 : lw_okq (⟨"GurdyTide", "refusalOfHours", "(I)I"⟩, 12) := ⟨⟨by decide +kernel, by decide +kernel⟩, List.mem_of_getElem? (i := 16) (by decide +kernel), List.mem_of_getElem? (i := 580) (by decide +kernel), List.mem_of_getElem? (i := 581) (by decide +kernel)⟩
theorem lw_p15 : lw_okq (⟨"GurdyTide$Draws", "next", "(I)I"⟩, 1) := ⟨⟨by decide +kernel, by decide +kernel⟩, List.mem_of_getElem? (i := 184) (by decide +kernel), List.mem_of_getElem? (i := 633) (by decide +kernel), List.mem_of_getElem? (i := 634) (by decide +kernel)⟩
def lw_privs_1 : List (MethodName × Nat) := [(⟨"GurdyTide$Reader", "moreComes", "()Z"⟩, 5), (⟨"GurdyTide$Reader", "readCells", "(LGurdyTide$Coast;)V"⟩, 5), (⟨"GurdyTide$Reader", "takeSign", "(I)V"⟩, 5), (⟨"GurdyTide$Reader", "nextIs", "(I)Z"⟩, 5), (⟨"GurdyTide$Reader", "fail", "(II)V"⟩, 5), (⟨"GurdyTide$Reader", "takeNumber", "(II)I"⟩, 5), (⟨"GurdyTide$Reader", "readClause", "(LGurdyTide$Coast;)V"⟩, 5), (⟨"GurdyTide$Reader", "readTower", "(LGurdyTide$Coast;)V"⟩, 5), (⟨"GurdyTide$Reader", "readPlayer", "(LGurdyTide$Coast;)V"⟩, 5), (⟨"GurdyTide$Reader", "readBoat", "(LGurdyTide$Coast;)V"⟩, 5), (⟨"GurdyTide$State", "unlikeness", "(LGurdyTide$Coast;I)I"⟩, 6), (⟨"GurdyTide$Sleepers", "fits", "(ILGurdyTide$Coast;LGurdyTide$State;LGurdyTide$Notes;LGurdyTide$State;)Z"⟩, 1), (⟨"GurdyTide$Sleepers", "beginAsleep", "(ILGurdyTide$State;LGurdyTide$State;)V"⟩, 1), (⟨"GurdyTide$Notes", "seenIsSo", "(I)Z"⟩, 11), (⟨"GurdyTide", "refusalOfHours", "(I)I"⟩, 12), (⟨"GurdyTide$Draws", "next", "(I)I"⟩, 1)]
theorem lw_r1 : ∀ q ∈ lw_privs_1, lw_okq q := List.forall_mem_cons.mpr ⟨lw_p0, List.forall_mem_cons.mpr ⟨lw_p1, List.forall_mem_cons.mpr ⟨lw_p2, List.forall_mem_cons.mpr ⟨lw_p3, List.forall_mem_cons.mpr ⟨lw_p4, List.forall_mem_cons.mpr ⟨lw_p5, List.forall_mem_cons.mpr ⟨lw_p6, List.forall_mem_cons.mpr ⟨lw_p7, List.forall_mem_cons.mpr ⟨lw_p8, List.forall_mem_cons.mpr ⟨lw_p9, List.forall_mem_cons.mpr ⟨lw_p10, List.forall_mem_cons.mpr ⟨lw_p11, List.forall_mem_cons.mpr ⟨lw_p12, List.forall_mem_cons.mpr ⟨lw_p13, List.forall_mem_cons.mpr ⟨lw_p14, List.forall_mem_cons.mpr ⟨lw_p15, fun _ h => absurd h List.not_mem_nil⟩⟩⟩⟩⟩⟩⟩⟩⟩⟩⟩⟩⟩⟩⟩⟩
theorem lw_p16 : lw_okq (⟨"GurdyTide$Draws", "sitByDraw", "(LGurdyTide$Coast;LGurdyTide$State;I)V"⟩, 1) := ⟨⟨by decide +kernel, by decide +kernel⟩, List.mem_of_getElem? (i := 184) (by decide +kernel), List.mem_of_getElem? (i := 642) (by decide +kernel), List.mem_of_getElem? (i := 643) (by decide +kernel)⟩
theorem lw_p17 : lw_okq (⟨"GurdyTide$Plan", "seaIfAllRest", "(LGurdyTide$Coast;LGurdyTide$State;II)I"⟩, 6) := ⟨⟨by decide +kernel, by decide +kernel⟩, List.mem_of_getElem? (i := 238) (by decide +kernel), List.mem_of_getElem? (i := 678) (by decide +kernel), List.mem_of_getElem? (i := 679) (by decide +kernel)⟩
theorem lw_p18 : lw_okq (⟨"GurdyTide$Plan", "noteGains", "(LGurdyTide$Coast;LGurdyTide$State;II)V"⟩, 6) := ⟨⟨by decide +kernel, by decide +kernel⟩, List.mem_of_getElem? (i := 238) (by decide +kernel), List.mem_of_getElem? (i := 687) (by decide +kernel), List.mem_of_getElem? (i := 688) (by decide +kernel)⟩
theorem lw_p19 : lw_okq (⟨"GurdyTide$Plan", "noteMostGain", "(II)V"⟩, 6) := ⟨⟨by decide +kernel, by decide +kernel⟩, List.mem_of_getElem? (i := 238) (by decide +kernel), List.mem_of_getElem? (i := 698) (by decide +kernel), List.mem_of_getElem? (i := 699) (by decide +kernel)⟩
theorem lw_p20 : lw_okq (⟨"GurdyTide$Plan", "take", "(II)V"⟩, 6) := ⟨⟨by decide +kernel, by decide +kernel⟩, List.mem_of_getElem? (i := 238) (by decide +kernel), List.mem_of_getElem? (i := 706) (by decide +kernel), List.mem_of_getElem? (i := 707) (by decide +kernel)⟩
theorem lw_p21 : lw_okq (⟨"GurdyTide", "shareOf", "(III)I"⟩, 12) := ⟨⟨by decide +kernel, by decide +kernel⟩, List.mem_of_getElem? (i := 16) (by decide +kernel), List.mem_of_getElem? (i := 723) (by decide +kernel), List.mem_of_getElem? (i := 724) (by decide +kernel)⟩
theorem lw_p22 : lw_okq (⟨"GurdyTide$Sleepers", "noteSeas", "(ILGurdyTide$Coast;LGurdyTide$State;)V"⟩, 1) := ⟨⟨by decide +kernel, by decide +kernel⟩, List.mem_of_getElem? (i := 266) (by decide +kernel), List.mem_of_getElem? (i := 750) (by decide +kernel), List.mem_of_getElem? (i := 751) (by decide +kernel)⟩
theorem lw_p23 : lw_okq (⟨"GurdyTide$Sleepers", "mostAlike", "(II)I"⟩, 1) := ⟨⟨by decide +kernel, by decide +kernel⟩, List.mem_of_getElem? (i := 266) (by decide +kernel), List.mem_of_getElem? (i := 755) (by decide +kernel), List.mem_of_getElem? (i := 756) (by decide +kernel)⟩
theorem lw_p24 : lw_okq (⟨"GurdyTideModel", "begins", "()V"⟩, 29) := ⟨⟨by decide +kernel, by decide +kernel⟩, List.mem_of_getElem? (i := 800) (by decide +kernel), List.mem_of_getElem? (i := 806) (by decide +kernel), List.mem_of_getElem? (i := 807) (by decide +kernel)⟩
theorem lw_p25 : lw_okq (⟨"GurdyTideModel", "step", "()V"⟩, 29) := ⟨⟨by decide +kernel, by decide +kernel⟩, List.mem_of_getElem? (i := 800) (by decide +kernel), List.mem_of_getElem? (i := 918) (by decide +kernel), List.mem_of_getElem? (i := 919) (by decide +kernel)⟩
theorem lw_p26 : lw_okq (⟨"GurdyTideModel", "here", "()I"⟩, 29) := ⟨⟨by decide +kernel, by decide +kernel⟩, List.mem_of_getElem? (i := 800) (by decide +kernel), List.mem_of_getElem? (i := 922) (by decide +kernel), List.mem_of_getElem? (i := 923) (by decide +kernel)⟩
theorem lw_p27 : lw_okq (⟨"GurdyTideModel", "readsClause", "()Z"⟩, 29) := ⟨⟨by decide +kernel, by decide +kernel⟩, List.mem_of_getElem? (i := 800) (by decide +kernel), List.mem_of_getElem? (i := 928) (by decide +kernel), List.mem_of_getElem? (i := 929) (by decide +kernel)⟩
theorem lw_p28 : lw_okq (⟨"GurdyTideModel", "readsCells", "()Z"⟩, 29) := ⟨⟨by decide +kernel, by decide +kernel⟩, List.mem_of_getElem? (i := 800) (by decide +kernel), List.mem_of_getElem? (i := 932) (by decide +kernel), List.mem_of_getElem? (i := 933) (by decide +kernel)⟩
theorem lw_p29 : lw_okq (⟨"GurdyTideModel", "fails", "(I)Z"⟩, 29) := ⟨⟨by decide +kernel, by decide +kernel⟩, List.mem_of_getElem? (i := 800) (by decide +kernel), List.mem_of_getElem? (i := 936) (by decide +kernel), List.mem_of_getElem? (i := 937) (by decide +kernel)⟩
theorem lw_p30 : lw_okq (⟨"GurdyTideModel", "number", "(III)Z"⟩, 29) := ⟨⟨by decide +kernel, by decide +kernel⟩, List.mem_of_getElem? (i := 800) (by decide +kernel), List.mem_of_getElem? (i := 940) (by decide +kernel), List.mem_of_getElem? (i := 941) (by decide +kernel)⟩
theorem lw_p31 : lw_okq (⟨"GurdyTideModel", "readsTower", "()Z"⟩, 29) := ⟨⟨by decide +kernel, by decide +kernel⟩, List.mem_of_getElem? (i := 800) (by decide +kernel), List.mem_of_getElem? (i := 944) (by decide +kernel), List.mem_of_getElem? (i := 945) (by decide +kernel)⟩
def lw_privs_2 : List (MethodName × Nat) := [(⟨"GurdyTide$Draws", "sitByDraw", "(LGurdyTide$Coast;LGurdyTide$State;I)V"⟩, 1), (⟨"GurdyTide$Plan", "seaIfAllRest", "(LGurdyTide$Coast;LGurdyTide$State;II)I"⟩, 6), (⟨"GurdyTide$Plan", "noteGains", "(LGurdyTide$Coast;LGurdyTide$State;II)V"⟩, 6), (⟨"GurdyTide$Plan", "noteMostGain", "(II)V"⟩, 6), (⟨"GurdyTide$Plan", "take", "(II)V"⟩, 6), (⟨"GurdyTide", "shareOf", "(III)I"⟩, 12), (⟨"GurdyTide$Sleepers", "noteSeas", "(ILGurdyTide$Coast;LGurdyTide$State;)V"⟩, 1), (⟨"GurdyTide$Sleepers", "mostAlike", "(II)I"⟩, 1), (⟨"GurdyTideModel", "begins", "()V"⟩, 29), (⟨"GurdyTideModel", "step", "()V"⟩, 29), (⟨"GurdyTideModel", "here", "()I"⟩, 29), (⟨"GurdyTideModel", "readsClause", "()Z"⟩, 29), (⟨"GurdyTideModel", "readsCells", "()Z"⟩, 29), (⟨"GurdyTideModel", "fails", "(I)Z"⟩, 29), (⟨"GurdyTideModel", "number", "(III)Z"⟩, 29), (⟨"GurdyTideModel", "readsTower", "()Z"⟩, 29)]
theorem lw_r2 : ∀ q ∈ lw_privs_2, lw_okq q := List.forall_mem_cons.mpr ⟨lw_p16, List.forall_mem_cons.mpr ⟨lw_p17, List.forall_mem_cons.mpr ⟨lw_p18, List.forall_mem_cons.mpr ⟨lw_p19, List.forall_mem_cons.mpr ⟨lw_p20, List.forall_mem_cons.mpr ⟨lw_p21, List.forall_mem_cons.mpr ⟨lw_p22, List.forall_mem_cons.mpr ⟨lw_p23, List.forall_mem_cons.mpr ⟨lw_p24, List.forall_mem_cons.mpr ⟨lw_p25, List.forall_mem_cons.mpr ⟨lw_p26, List.forall_mem_cons.mpr ⟨lw_p27, List.forall_mem_cons.mpr ⟨lw_p28, List.forall_mem_cons.mpr ⟨lw_p29, List.forall_mem_cons.mpr ⟨lw_p30, List.forall_mem_cons.mpr ⟨lw_p31, fun _ h => absurd h List.not_mem_nil⟩⟩⟩⟩⟩⟩⟩⟩⟩⟩⟩⟩⟩⟩⟩⟩
theorem lw_p32 : lw_okq (⟨"GurdyTideModel", "ends", "()Z"⟩, 29) := ⟨⟨by decide +kernel, by decide +kernel⟩, List.mem_of_getElem? (i := 800) (by decide +kernel), List.mem_of_getElem? (i := 948) (by decide +kernel), List.mem_of_getElem? (i := 949) (by decide +kernel)⟩
theorem lw_p33 : lw_okq (⟨"GurdyTideModel", "readsPlayer", "()Z"⟩, 29) := ⟨⟨by decide +kernel, by decide +kernel⟩, List.mem_of_getElem? (i := 800) (by decide +kernel), List.mem_of_getElem? (i := 952) (by decide +kernel), List.mem_of_getElem? (i := 953) (by decide +kernel)⟩
theorem lw_p34 : lw_okq (⟨"GurdyTideModel", "readsBoat", "()Z"⟩, 29) := ⟨⟨by decide +kernel, by decide +kernel⟩, List.mem_of_getElem? (i := 800) (by decide +kernel), List.mem_of_getElem? (i := 956) (by decide +kernel), List.mem_of_getElem? (i := 957) (by decide +kernel)⟩
theorem lw_p35 : lw_okq (⟨"GurdyTideModel", "slopeOn", "([I)I"⟩, 29) := ⟨⟨by decide +kernel, by decide +kernel⟩, List.mem_of_getElem? (i := 800) (by decide +kernel), List.mem_of_getElem? (i := 968) (by decide +kernel), List.mem_of_getElem? (i := 969) (by decide +kernel)⟩
theorem lw_p36 : lw_okq (⟨"GurdyTideModel", "steepest", "([I)I"⟩, 29) := ⟨⟨by decide +kernel, by decide +kernel⟩, List.mem_of_getElem? (i := 800) (by decide +kernel), List.mem_of_getElem? (i := 972) (by decide +kernel), List.mem_of_getElem? (i := 973) (by decide +kernel)⟩
theorem lw_p37 : lw_okq (⟨"GurdyTideModel", "unlike", "([II)I"⟩, 29) := ⟨⟨by decide +kernel, by decide +kernel⟩, List.mem_of_getElem? (i := 800) (by decide +kernel), List.mem_of_getElem? (i := 976) (by decide +kernel), List.mem_of_getElem? (i := 977) (by decide +kernel)⟩
theorem lw_p38 : lw_okq (⟨"GurdyTideModel", "seaOn", "([II)I"⟩, 29) := ⟨⟨by decide +kernel, by decide +kernel⟩, List.mem_of_getElem? (i := 800) (by decide +kernel), List.mem_of_getElem? (i := 980) (by decide +kernel), List.mem_of_getElem? (i := 981) (by decide +kernel)⟩
theorem lw_p39 : lw_okq (⟨"GurdyTideModel", "bears", "([III)I"⟩, 29) := ⟨⟨by decide +kernel, by decide +kernel⟩, List.mem_of_getElem? (i := 800) (by decide +kernel), List.mem_of_getElem? (i := 984) (by decide +kernel), List.mem_of_getElem? (i := 985) (by decide +kernel)⟩
theorem lw_p40 : lw_okq (⟨"GurdyTideModel", "wet", "()I"⟩, 29) := ⟨⟨by decide +kernel, by decide +kernel⟩, List.mem_of_getElem? (i := 800) (by decide +kernel), List.mem_of_getElem? (i := 991) (by decide +kernel), List.mem_of_getElem? (i := 992) (by decide +kernel)⟩
theorem lw_p41 : lw_okq (⟨"GurdyTideModel", "depthOn", "([II)I"⟩, 29) := ⟨⟨by decide +kernel, by decide +kernel⟩, List.mem_of_getElem? (i := 800) (by decide +kernel), List.mem_of_getElem? (i := 995) (by decide +kernel), List.mem_of_getElem? (i := 996) (by decide +kernel)⟩
theorem lw_p42 : lw_okq (⟨"GurdyTideModel", "boats", "(Z)I"⟩, 29) := ⟨⟨by decide +kernel, by decide +kernel⟩, List.mem_of_getElem? (i := 800) (by decide +kernel), List.mem_of_getElem? (i := 999) (by decide +kernel), List.mem_of_getElem? (i := 1000) (by decide +kernel)⟩
theorem lw_p43 : lw_okq (⟨"GurdyTideModel", "whoSits", "()I"⟩, 29) := ⟨⟨by decide +kernel, by decide +kernel⟩, List.mem_of_getElem? (i := 800) (by decide +kernel), List.mem_of_getElem? (i := 1003) (by decide +kernel), List.mem_of_getElem? (i := 1004) (by decide +kernel)⟩
theorem lw_p44 : lw_okq (⟨"GurdyTideModel", "slept", "()I"⟩, 29) := ⟨⟨by decide +kernel, by decide +kernel⟩, List.mem_of_getElem? (i := 800) (by decide +kernel), List.mem_of_getElem? (i := 1007) (by decide +kernel), List.mem_of_getElem? (i := 1008) (by decide +kernel)⟩
theorem lw_p45 : lw_okq (⟨"GurdyTideModel", "layThen", "(I)V"⟩, 29) := ⟨⟨by decide +kernel, by decide +kernel⟩, List.mem_of_getElem? (i := 800) (by decide +kernel), List.mem_of_getElem? (i := 1011) (by decide +kernel), List.mem_of_getElem? (i := 1012) (by decide +kernel)⟩
theorem lw_p46 : lw_okq (⟨"GurdyTideModel", "layAside", "()V"⟩, 29) := ⟨⟨by decide +kernel, by decide +kernel⟩, List.mem_of_getElem? (i := 800) (by decide +kernel), List.mem_of_getElem? (i := 1015) (by decide +kernel), List.mem_of_getElem? (i := 1016) (by decide +kernel)⟩
theorem lw_p47 : lw_okq (⟨"GurdyTideModel", "winds", "([I)V"⟩, 29) := ⟨⟨by decide +kernel, by decide +kernel⟩, List.mem_of_getElem? (i := 800) (by decide +kernel), List.mem_of_getElem? (i := 1019) (by decide +kernel), List.mem_of_getElem? (i := 1020) (by decide +kernel)⟩
def lw_privs_3 : List (MethodName × Nat) := [(⟨"GurdyTideModel", "ends", "()Z"⟩, 29), (⟨"GurdyTideModel", "readsPlayer", "()Z"⟩, 29), (⟨"GurdyTideModel", "readsBoat", "()Z"⟩, 29), (⟨"GurdyTideModel", "slopeOn", "([I)I"⟩, 29), (⟨"GurdyTideModel", "steepest", "([I)I"⟩, 29), (⟨"GurdyTideModel", "unlike", "([II)I"⟩, 29), (⟨"GurdyTideModel", "seaOn", "([II)I"⟩, 29), (⟨"GurdyTideModel", "bears", "([III)I"⟩, 29), (⟨"GurdyTideModel", "wet", "()I"⟩, 29), (⟨"GurdyTideModel", "depthOn", "([II)I"⟩, 29), (⟨"GurdyTideModel", "boats", "(Z)I"⟩, 29), (⟨"GurdyTideModel", "whoSits", "()I"⟩, 29), (⟨"GurdyTideModel", "slept", "()I"⟩, 29), (⟨"GurdyTideModel", "layThen", "(I)V"⟩, 29), (⟨"GurdyTideModel", "layAside", "()V"⟩, 29), (⟨"GurdyTideModel", "winds", "([I)V"⟩, 29)]
theorem lw_r3 : ∀ q ∈ lw_privs_3, lw_okq q := List.forall_mem_cons.mpr ⟨lw_p32, List.forall_mem_cons.mpr ⟨lw_p33, List.forall_mem_cons.mpr ⟨lw_p34, List.forall_mem_cons.mpr ⟨lw_p35, List.forall_mem_cons.mpr ⟨lw_p36, List.forall_mem_cons.mpr ⟨lw_p37, List.forall_mem_cons.mpr ⟨lw_p38, List.forall_mem_cons.mpr ⟨lw_p39, List.forall_mem_cons.mpr ⟨lw_p40, List.forall_mem_cons.mpr ⟨lw_p41, List.forall_mem_cons.mpr ⟨lw_p42, List.forall_mem_cons.mpr ⟨lw_p43, List.forall_mem_cons.mpr ⟨lw_p44, List.forall_mem_cons.mpr ⟨lw_p45, List.forall_mem_cons.mpr ⟨lw_p46, List.forall_mem_cons.mpr ⟨lw_p47, fun _ h => absurd h List.not_mem_nil⟩⟩⟩⟩⟩⟩⟩⟩⟩⟩⟩⟩⟩⟩⟩⟩
theorem lw_p48 : lw_okq (⟨"GurdyTideModel", "guts", "()I"⟩, 29) := ⟨⟨by decide +kernel, by decide +kernel⟩, List.mem_of_getElem? (i := 800) (by decide +kernel), List.mem_of_getElem? (i := 1029) (by decide +kernel), List.mem_of_getElem? (i := 1030) (by decide +kernel)⟩
theorem lw_p49 : lw_okq (⟨"GurdyTideModel", "isCell", "(I)Z"⟩, 29) := ⟨⟨by decide +kernel, by decide +kernel⟩, List.mem_of_getElem? (i := 800) (by decide +kernel), List.mem_of_getElem? (i := 1037) (by decide +kernel), List.mem_of_getElem? (i := 1038) (by decide +kernel)⟩
theorem lw_p50 : lw_okq (⟨"GurdyTideModel", "strongest", "(I)I"⟩, 29) := ⟨⟨by decide +kernel, by decide +kernel⟩, List.mem_of_getElem? (i := 800) (by decide +kernel), List.mem_of_getElem? (i := 1042) (by decide +kernel), List.mem_of_getElem? (i := 1043) (by decide +kernel)⟩
theorem lw_p51 : lw_okq (⟨"GurdyTideModel", "isTower", "(I)Z"⟩, 29) := ⟨⟨by decide +kernel, by decide +kernel⟩, List.mem_of_getElem? (i := 800) (by decide +kernel), List.mem_of_getElem? (i := 1050) (by decide +kernel), List.mem_of_getElem? (i := 1051) (by decide +kernel)⟩
theorem lw_p52 : lw_okq (⟨"GurdyTideModel", "sitterOn", "([II)I"⟩, 29) := ⟨⟨by decide +kernel, by decide +kernel⟩, List.mem_of_getElem? (i := 800) (by decide +kernel), List.mem_of_getElem? (i := 1054) (by decide +kernel), List.mem_of_getElem? (i := 1055) (by decide +kernel)⟩
theorem lw_p53 : lw_okq (⟨"GurdyTideModel", "isPlayer", "(I)Z"⟩, 29) := ⟨⟨by decide +kernel, by decide +kernel⟩, List.mem_of_getElem? (i := 800) (by decide +kernel), List.mem_of_getElem? (i := 1062) (by decide +kernel), List.mem_of_getElem? (i := 1063) (by decide +kernel)⟩
theorem lw_p54 : lw_okq (⟨"GurdyTideModel", "isBoat", "(I)Z"⟩, 29) := ⟨⟨by decide +kernel, by decide +kernel⟩, List.mem_of_getElem? (i := 800) (by decide +kernel), List.mem_of_getElem? (i := 1070) (by decide +kernel), List.mem_of_getElem? (i := 1071) (by decide +kernel)⟩
theorem lw_p55 : lw_okq (⟨"GurdyTideModel", "refuses", "(I)I"⟩, 29) := ⟨⟨by decide +kernel, by decide +kernel⟩, List.mem_of_getElem? (i := 800) (by decide +kernel), List.mem_of_getElem? (i := 1078) (by decide +kernel), List.mem_of_getElem? (i := 1079) (by decide +kernel)⟩
theorem lw_p56 : lw_okq (⟨"GurdyTideModel", "remember", "()V"⟩, 29) := ⟨⟨by decide +kernel, by decide +kernel⟩, List.mem_of_getElem? (i := 800) (by decide +kernel), List.mem_of_getElem? (i := 1084) (by decide +kernel), List.mem_of_getElem? (i := 1085) (by decide +kernel)⟩
theorem lw_p57 : lw_okq (⟨"GurdyTideModel", "hourGoes", "([I)V"⟩, 29) := ⟨⟨by decide +kernel, by decide +kernel⟩, List.mem_of_getElem? (i := 800) (by decide +kernel), List.mem_of_getElem? (i := 1088) (by decide +kernel), List.mem_of_getElem? (i := 1089) (by decide +kernel)⟩
theorem lw_p58 : lw_okq (⟨"GurdyTideModel", "sleeps", "(IZ)V"⟩, 29) := ⟨⟨by decide +kernel, by decide +kernel⟩, List.mem_of_getElem? (i := 800) (by decide +kernel), List.mem_of_getElem? (i := 1104) (by decide +kernel), List.mem_of_getElem? (i := 1105) (by decide +kernel)⟩
theorem lw_p59 : lw_okq (⟨"GurdyTideModel", "draws", "()V"⟩, 29) := ⟨⟨by decide +kernel, by decide +kernel⟩, List.mem_of_getElem? (i := 800) (by decide +kernel), List.mem_of_getElem? (i := 1121) (by decide +kernel), List.mem_of_getElem? (i := 1122) (by decide +kernel)⟩
theorem lw_p60 : lw_okq (⟨"GurdyTideModel", "draw", "(I)I"⟩, 29) := ⟨⟨by decide +kernel, by decide +kernel⟩, List.mem_of_getElem? (i := 800) (by decide +kernel), List.mem_of_getElem? (i := 1125) (by decide +kernel), List.mem_of_getElem? (i := 1126) (by decide +kernel)⟩
theorem lw_p61 : lw_okq (⟨"GurdyTideModel", "plans", "(III)V"⟩, 29) := ⟨⟨by decide +kernel, by decide +kernel⟩, List.mem_of_getElem? (i := 800) (by decide +kernel), List.mem_of_getElem? (i := 1155) (by decide +kernel), List.mem_of_getElem? (i := 1156) (by decide +kernel)⟩
theorem lw_p62 : lw_okq (⟨"GurdyTideModel", "weighs", "(III)V"⟩, 29) := ⟨⟨by decide +kernel, by decide +kernel⟩, List.mem_of_getElem? (i := 800) (by decide +kernel), List.mem_of_getElem? (i := 1160) (by decide +kernel), List.mem_of_getElem? (i := 1161) (by decide +kernel)⟩
theorem lw_p63 : lw_okq (⟨"GurdyTideModel", "goesOn", "(I)I"⟩, 29) := ⟨⟨by decide +kernel, by decide +kernel⟩, List.mem_of_getElem? (i := 800) (by decide +kernel), List.mem_of_getElem? (i := 1164) (by decide +kernel), List.mem_of_getElem? (i := 1165) (by decide +kernel)⟩
def lw_privs_4 : List (MethodName × Nat) := [(⟨"GurdyTideModel", "guts", "()I"⟩, 29), (⟨"GurdyTideModel", "isCell", "(I)Z"⟩, 29), (⟨"GurdyTideModel", "strongest", "(I)I"⟩, 29), (⟨"GurdyTideModel", "isTower", "(I)Z"⟩, 29), (⟨"GurdyTideModel", "sitterOn", "([II)I"⟩, 29), (⟨"GurdyTideModel", "isPlayer", "(I)Z"⟩, 29), (⟨"GurdyTideModel", "isBoat", "(I)Z"⟩, 29), (⟨"GurdyTideModel", "refuses", "(I)I"⟩, 29), (⟨"GurdyTideModel", "remember", "()V"⟩, 29), (⟨"GurdyTideModel", "hourGoes", "([I)V"⟩, 29), (⟨"GurdyTideModel", "sleeps", "(IZ)V"⟩, 29), (⟨"GurdyTideModel", "draws", "()V"⟩, 29), (⟨"GurdyTideModel", "draw", "(I)I"⟩, 29), (⟨"GurdyTideModel", "plans", "(III)V"⟩, 29), (⟨"GurdyTideModel", "weighs", "(III)V"⟩, 29), (⟨"GurdyTideModel", "goesOn", "(I)I"⟩, 29)]
theorem lw_r4 : ∀ q ∈ lw_privs_4, lw_okq q := List.forall_mem_cons.mpr ⟨lw_p48, List.forall_mem_cons.mpr ⟨lw_p49, List.forall_mem_cons.mpr ⟨lw_p50, List.forall_mem_cons.mpr ⟨lw_p51, List.forall_mem_cons.mpr ⟨lw_p52, List.forall_mem_cons.mpr ⟨lw_p53, List.forall_mem_cons.mpr ⟨lw_p54, List.forall_mem_cons.mpr ⟨lw_p55, List.forall_mem_cons.mpr ⟨lw_p56, List.forall_mem_cons.mpr ⟨lw_p57, List.forall_mem_cons.mpr ⟨lw_p58, List.forall_mem_cons.mpr ⟨lw_p59, List.forall_mem_cons.mpr ⟨lw_p60, List.forall_mem_cons.mpr ⟨lw_p61, List.forall_mem_cons.mpr ⟨lw_p62, List.forall_mem_cons.mpr ⟨lw_p63, fun _ h => absurd h List.not_mem_nil⟩⟩⟩⟩⟩⟩⟩⟩⟩⟩⟩⟩⟩⟩⟩⟩
theorem lw_p64 : lw_okq (⟨"GurdyTideModel", "mayBe", "(I)Z"⟩, 29) := ⟨⟨by decide +kernel, by decide +kernel⟩, List.mem_of_getElem? (i := 800) (by decide +kernel), List.mem_of_getElem? (i := 1168) (by decide +kernel), List.mem_of_getElem? (i := 1169) (by decide +kernel)⟩
theorem lw_p65 : lw_okq (⟨"GurdyTideModel", "shareOf", "(II)I"⟩, 29) := ⟨⟨by decide +kernel, by decide +kernel⟩, List.mem_of_getElem? (i := 800) (by decide +kernel), List.mem_of_getElem? (i := 1181) (by decide +kernel), List.mem_of_getElem? (i := 1182) (by decide +kernel)⟩
theorem lw_p66 : lw_okq (⟨"GurdyTideModel", "greatestPart", "(II)I"⟩, 29) := ⟨⟨by decide +kernel, by decide +kernel⟩, List.mem_of_getElem? (i := 800) (by decide +kernel), List.mem_of_getElem? (i := 1201) (by decide +kernel), List.mem_of_getElem? (i := 1202) (by decide +kernel)⟩
def lw_privs_5 : List (MethodName × Nat) := [(⟨"GurdyTideModel", "mayBe", "(I)Z"⟩, 29), (⟨"GurdyTideModel", "shareOf", "(II)I"⟩, 29), (⟨"GurdyTideModel", "greatestPart", "(II)I"⟩, 29)]
theorem lw_r5 : ∀ q ∈ lw_privs_5, lw_okq q := List.forall_mem_cons.mpr ⟨lw_p64, List.forall_mem_cons.mpr ⟨lw_p65, List.forall_mem_cons.mpr ⟨lw_p66, fun _ h => absurd h List.not_mem_nil⟩⟩⟩
def lw_privs : List (MethodName × Nat) := lw_privs_1 ++ (lw_privs_2 ++ (lw_privs_3 ++ (lw_privs_4 ++ (lw_privs_5))))
def lw_tbl : List Cond := k2_sels lw_privs ++ tables_1
theorem lw_privs_ok : ∀ q ∈ lw_privs, lw_okq q := by
  show ∀ q ∈ lw_privs_1 ++ (lw_privs_2 ++ (lw_privs_3 ++ (lw_privs_4 ++ (lw_privs_5)))), lw_okq q
  exact List.forall_mem_append.mpr ⟨lw_r1, List.forall_mem_append.mpr ⟨lw_r2, List.forall_mem_append.mpr ⟨lw_r3, List.forall_mem_append.mpr ⟨lw_r4, lw_r5⟩⟩⟩⟩
end
section
def RX0 : String := "GurdyTide$Coast"
def TX0 : u_T := fun k => match k with
  | 0 => ("GurdyTide$Coast", "cells", "I", false)
  | 1 => ("GurdyTide$Coast", "towers", "I", false)
  | 2 => ("GurdyTide$Coast", "players", "I", false)
  | 3 => ("GurdyTide$Coast", "boats", "I", false)
  | 4 => ("GurdyTide$Coast", "ground", "[I", true)
  | 5 => ("GurdyTide$Coast", "towerCell", "[I", true)
  | 6 => ("GurdyTide$Coast", "fall", "[I", true)
  | 7 => ("GurdyTide$Coast", "arm", "[I", true)
  | 8 => ("GurdyTide$Coast", "draught", "[I", true)
  | 9 => ("GurdyTide$Coast", "from", "[I", true)
  | _ => ("GurdyTide$Coast", "to", "[I", true)
def tyX0 : Nat → FieldType := fun k => match k with
  | 0 => .int
  | 1 => .int
  | 2 => .int
  | 3 => .int
  | 4 => .array .int
  | 5 => .array .int
  | 6 => .array .int
  | 7 => .array .int
  | 8 => .array .int
  | 9 => .array .int
  | _ => .array .int
abbrev wsX00 : List Cond := u_ws RX0 TX0 11
theorem nmX0 : ∀ a, a < 11 → ∀ b, b < 11 → a ≠ b → (TX0 a).2.1 ≠ (TX0 b).2.1 := by decide +kernel
theorem tyX0_ok : ∀ k, k < 11 → parseFieldDescriptor (TX0 k).2.2.1 = some (tyX0 k) := by decide +kernel
abbrev cX0_init : ByteArray := prog_2_method_1_code
def yX0_init : MethodName := ⟨RX0, "<init>", "()V"⟩
abbrev cX0_clear : ByteArray := prog_2_method_2_code
def yX0_clear : MethodName := ⟨RX0, "clear", "()V"⟩
abbrev cX0_hasCell : ByteArray := prog_2_method_3_code
def yX0_hasCell : MethodName := ⟨RX0, "hasCell", "(I)Z"⟩
abbrev cX0_hasTower : ByteArray := prog_2_method_4_code
def yX0_hasTower : MethodName := ⟨RX0, "hasTower", "(I)Z"⟩
abbrev cX0_hasPlayer : ByteArray := prog_2_method_5_code
def yX0_hasPlayer : MethodName := ⟨RX0, "hasPlayer", "(I)Z"⟩
abbrev cX0_hasBoat : ByteArray := prog_2_method_6_code
def yX0_hasBoat : MethodName := ⟨RX0, "hasBoat", "(I)Z"⟩
abbrev cX0_bears : ByteArray := prog_2_method_7_code
def yX0_bears : MethodName := ⟨RX0, "bears", "(III)I"⟩
def RX1 : String := "GurdyTide$Draws"
def TX1 : u_T := fun k => match k with
  | _ => ("GurdyTide$Draws", "seed", "I", false)
def tyX1 : Nat → FieldType := fun k => match k with
  | _ => .int
abbrev wsX10 : List Cond := u_ws RX1 TX1 1
theorem nmX1 : ∀ a, a < 1 → ∀ b, b < 1 → a ≠ b → (TX1 a).2.1 ≠ (TX1 b).2.1 := by decide +kernel
theorem tyX1_ok : ∀ k, k < 1 → parseFieldDescriptor (TX1 k).2.2.1 = some (tyX1 k) := by decide +kernel
abbrev cX1_init : ByteArray := prog_3_method_1_code
def yX1_init : MethodName := ⟨RX1, "<init>", "()V"⟩
abbrev cX1_next : ByteArray := prog_3_method_2_code
def yX1_next : MethodName := ⟨RX1, "next", "(I)I"⟩
abbrev cX1_stir : ByteArray := prog_3_method_3_code
def yX1_stir : MethodName := ⟨RX1, "stir", "(LGurdyTide$Coast;LGurdyTide$State;)V"⟩
abbrev cX1_sitByDraw : ByteArray := prog_3_method_4_code
def yX1_sitByDraw : MethodName := ⟨RX1, "sitByDraw", "(LGurdyTide$Coast;LGurdyTide$State;I)V"⟩
def RX2 : String := "GurdyTide$Image"
def TX2 : u_T := fun k => match k with
  | 0 => ("GurdyTide$Image", "state", "LGurdyTide$State;", true)
  | 1 => ("GurdyTide$Image", "seed", "I", false)
  | _ => ("GurdyTide$Image", "kept", "Z", false)
def tyX2 : Nat → FieldType := fun k => match k with
  | 0 => .object "GurdyTide$State"
  | 1 => .int
  | _ => .boolean
abbrev wsX20 : List Cond := u_ws RX2 TX2 3
theorem nmX2 : ∀ a, a < 3 → ∀ b, b < 3 → a ≠ b → (TX2 a).2.1 ≠ (TX2 b).2.1 := by decide +kernel
theorem tyX2_ok : ∀ k, k < 3 → parseFieldDescriptor (TX2 k).2.2.1 = some (tyX2 k) := by decide +kernel
abbrev cX2_init : ByteArray := prog_4_method_1_code
def yX2_init : MethodName := ⟨RX2, "<init>", "()V"⟩
def RX3 : String := "GurdyTide$Notes"
def TX3 : u_T := fun k => match k with
  | 0 => ("GurdyTide$Notes", "marks", "I", false)
  | 1 => ("GurdyTide$Notes", "seen", "I", false)
  | 2 => ("GurdyTide$Notes", "entries", "I", false)
  | 3 => ("GurdyTide$Notes", "markCell", "[I", true)
  | 4 => ("GurdyTide$Notes", "markHours", "[I", true)
  | 5 => ("GurdyTide$Notes", "markSea", "[I", true)
  | 6 => ("GurdyTide$Notes", "seenWound", "[I", true)
  | 7 => ("GurdyTide$Notes", "seenFar", "[I", true)
  | 8 => ("GurdyTide$Notes", "seenBorne", "[I", true)
  | 9 => ("GurdyTide$Notes", "entryCell", "[I", true)
  | _ => ("GurdyTide$Notes", "entrySea", "[I", true)
def tyX3 : Nat → FieldType := fun k => match k with
  | 0 => .int
  | 1 => .int
  | 2 => .int
  | 3 => .array .int
  | 4 => .array .int
  | 5 => .array .int
  | 6 => .array .int
  | 7 => .array .int
  | 8 => .array .int
  | 9 => .array .int
  | _ => .array .int
abbrev wsX30 : List Cond := u_ws RX3 TX3 11
theorem nmX3 : ∀ a, a < 11 → ∀ b, b < 11 → a ≠ b → (TX3 a).2.1 ≠ (TX3 b).2.1 := by decide +kernel
theorem tyX3_ok : ∀ k, k < 11 → parseFieldDescriptor (TX3 k).2.2.1 = some (tyX3 k) := by decide +kernel
abbrev cX3_init : ByteArray := prog_5_method_1_code
def yX3_init : MethodName := ⟨RX3, "<init>", "()V"⟩
abbrev cX3_clear : ByteArray := prog_5_method_2_code
def yX3_clear : MethodName := ⟨RX3, "clear", "()V"⟩
abbrev cX3_addMark : ByteArray := prog_5_method_3_code
def yX3_addMark : MethodName := ⟨RX3, "addMark", "(III)I"⟩
abbrev cX3_addSeen : ByteArray := prog_5_method_4_code
def yX3_addSeen : MethodName := ⟨RX3, "addSeen", "(III)I"⟩
abbrev cX3_addEntry : ByteArray := prog_5_method_5_code
def yX3_addEntry : MethodName := ⟨RX3, "addEntry", "(II)I"⟩
abbrev cX3_lastMark : ByteArray := prog_5_method_6_code
def yX3_lastMark : MethodName := ⟨RX3, "lastMark", "()I"⟩
abbrev cX3_marksAreSo : ByteArray := prog_5_method_7_code
def yX3_marksAreSo : MethodName := ⟨RX3, "marksAreSo", "(ILGurdyTide$Coast;LGurdyTide$State;)Z"⟩
abbrev cX3_guts : ByteArray := prog_5_method_8_code
def yX3_guts : MethodName := ⟨RX3, "guts", "()I"⟩
abbrev cX3_seenIsSo : ByteArray := prog_5_method_9_code
def yX3_seenIsSo : MethodName := ⟨RX3, "seenIsSo", "(I)Z"⟩
abbrev cX3_firstWrong : ByteArray := prog_5_method_10_code
def yX3_firstWrong : MethodName := ⟨RX3, "firstWrong", "(LGurdyTide$Coast;LGurdyTide$State;)I"⟩
def RX4 : String := "GurdyTide$Past"
def TX4 : u_T := fun k => match k with
  | 0 => ("GurdyTide$Past", "ring", "[LGurdyTide$State;", true)
  | 1 => ("GurdyTide$Past", "next", "I", false)
  | _ => ("GurdyTide$Past", "count", "I", false)
def tyX4 : Nat → FieldType := fun k => match k with
  | 0 => .array (.object "GurdyTide$State")
  | 1 => .int
  | _ => .int
abbrev wsX40 : List Cond := u_ws RX4 TX4 3
theorem nmX4 : ∀ a, a < 3 → ∀ b, b < 3 → a ≠ b → (TX4 a).2.1 ≠ (TX4 b).2.1 := by decide +kernel
theorem tyX4_ok : ∀ k, k < 3 → parseFieldDescriptor (TX4 k).2.2.1 = some (tyX4 k) := by decide +kernel
abbrev cX4_init : ByteArray := prog_6_method_1_code
def yX4_init : MethodName := ⟨RX4, "<init>", "()V"⟩
abbrev cX4_remember : ByteArray := prog_6_method_2_code
def yX4_remember : MethodName := ⟨RX4, "remember", "(LGurdyTide$State;)V"⟩
abbrev cX4_recall : ByteArray := prog_6_method_3_code
def yX4_recall : MethodName := ⟨RX4, "recall", "(LGurdyTide$State;)V"⟩
abbrev cX4_forget : ByteArray := prog_6_method_4_code
def yX4_forget : MethodName := ⟨RX4, "forget", "()V"⟩
def RX5 : String := "GurdyTide$Plan"
def TX5 : u_T := fun k => match k with
  | 0 => ("GurdyTide$Plan", "best", "[I", true)
  | 1 => ("GurdyTide$Plan", "tried", "[I", true)
  | 2 => ("GurdyTide$Plan", "gain", "[[I", true)
  | 3 => ("GurdyTide$Plan", "mostGain", "[[I", true)
  | 4 => ("GurdyTide$Plan", "leastArms", "I", false)
  | _ => ("GurdyTide$Plan", "need", "I", false)
def tyX5 : Nat → FieldType := fun k => match k with
  | 0 => .array .int
  | 1 => .array .int
  | 2 => .array (.array .int)
  | 3 => .array (.array .int)
  | 4 => .int
  | _ => .int
abbrev wsX50 : List Cond := u_ws RX5 TX5 6
theorem nmX5 : ∀ a, a < 6 → ∀ b, b < 6 → a ≠ b → (TX5 a).2.1 ≠ (TX5 b).2.1 := by decide +kernel
theorem tyX5_ok : ∀ k, k < 6 → parseFieldDescriptor (TX5 k).2.2.1 = some (tyX5 k) := by decide +kernel
abbrev cX5_init : ByteArray := prog_7_method_1_code
def yX5_init : MethodName := ⟨RX5, "<init>", "()V"⟩
abbrev cX5_search : ByteArray := prog_7_method_2_code
def yX5_search : MethodName := ⟨RX5, "search", "(LGurdyTide$Coast;LGurdyTide$State;III)I"⟩
abbrev cX5_seaIfAllRest : ByteArray := prog_7_method_3_code
def yX5_seaIfAllRest : MethodName := ⟨RX5, "seaIfAllRest", "(LGurdyTide$Coast;LGurdyTide$State;II)I"⟩
abbrev cX5_letDown : ByteArray := prog_7_method_4_code
def yX5_letDown : MethodName := ⟨RX5, "letDown", "(II)I"⟩
abbrev cX5_noteGains : ByteArray := prog_7_method_5_code
def yX5_noteGains : MethodName := ⟨RX5, "noteGains", "(LGurdyTide$Coast;LGurdyTide$State;II)V"⟩
abbrev cX5_noteMostGain : ByteArray := prog_7_method_6_code
def yX5_noteMostGain : MethodName := ⟨RX5, "noteMostGain", "(II)V"⟩
abbrev cX5_woundBy : ByteArray := prog_7_method_7_code
def yX5_woundBy : MethodName := ⟨RX5, "woundBy", "(LGurdyTide$Coast;LGurdyTide$State;III)I"⟩
abbrev cX5_seatFrom : ByteArray := prog_7_method_8_code
def yX5_seatFrom : MethodName := ⟨RX5, "seatFrom", "(LGurdyTide$Plan;LGurdyTide$Coast;IIIII)V"⟩
abbrev cX5_take : ByteArray := prog_7_method_9_code
def yX5_take : MethodName := ⟨RX5, "take", "(II)V"⟩
def RX6 : String := "GurdyTide$Reader"
def TX6 : u_T := fun k => match k with
  | 0 => ("GurdyTide$Reader", "text", "[I", true)
  | 1 => ("GurdyTide$Reader", "length", "I", false)
  | 2 => ("GurdyTide$Reader", "at", "I", false)
  | 3 => ("GurdyTide$Reader", "kind", "I", false)
  | _ => ("GurdyTide$Reader", "place", "I", false)
def tyX6 : Nat → FieldType := fun k => match k with
  | 0 => .array .int
  | 1 => .int
  | 2 => .int
  | 3 => .int
  | _ => .int
abbrev wsX60 : List Cond := u_ws RX6 TX6 5
theorem nmX6 : ∀ a, a < 5 → ∀ b, b < 5 → a ≠ b → (TX6 a).2.1 ≠ (TX6 b).2.1 := by decide +kernel
theorem tyX6_ok : ∀ k, k < 5 → parseFieldDescriptor (TX6 k).2.2.1 = some (tyX6 k) := by decide +kernel
abbrev cX6_init : ByteArray := prog_8_method_1_code
def yX6_init : MethodName := ⟨RX6, "<init>", "()V"⟩
abbrev cX6_letters : ByteArray := prog_8_method_2_code
def yX6_letters : MethodName := ⟨RX6, "letters", "()I"⟩
abbrev cX6_faultPlace : ByteArray := prog_8_method_3_code
def yX6_faultPlace : MethodName := ⟨RX6, "faultPlace", "()I"⟩
abbrev cX6_add : ByteArray := prog_8_method_4_code
def yX6_add : MethodName := ⟨RX6, "add", "(I)I"⟩
abbrev cX6_readInto : ByteArray := prog_8_method_5_code
def yX6_readInto : MethodName := ⟨RX6, "readInto", "(LGurdyTide$Coast;)I"⟩
abbrev cX6_readCells : ByteArray := prog_8_method_6_code
def yX6_readCells : MethodName := ⟨RX6, "readCells", "(LGurdyTide$Coast;)V"⟩
abbrev cX6_readClause : ByteArray := prog_8_method_7_code
def yX6_readClause : MethodName := ⟨RX6, "readClause", "(LGurdyTide$Coast;)V"⟩
abbrev cX6_readTower : ByteArray := prog_8_method_8_code
def yX6_readTower : MethodName := ⟨RX6, "readTower", "(LGurdyTide$Coast;)V"⟩
abbrev cX6_readPlayer : ByteArray := prog_8_method_9_code
def yX6_readPlayer : MethodName := ⟨RX6, "readPlayer", "(LGurdyTide$Coast;)V"⟩
abbrev cX6_readBoat : ByteArray := prog_8_method_10_code
def yX6_readBoat : MethodName := ⟨RX6, "readBoat", "(LGurdyTide$Coast;)V"⟩
abbrev cX6_moreComes : ByteArray := prog_8_method_11_code
def yX6_moreComes : MethodName := ⟨RX6, "moreComes", "()Z"⟩
abbrev cX6_nextIs : ByteArray := prog_8_method_12_code
def yX6_nextIs : MethodName := ⟨RX6, "nextIs", "(I)Z"⟩
abbrev cX6_takeSign : ByteArray := prog_8_method_13_code
def yX6_takeSign : MethodName := ⟨RX6, "takeSign", "(I)V"⟩
abbrev cX6_isFigure : ByteArray := prog_8_method_14_code
def yX6_isFigure : MethodName := ⟨RX6, "isFigure", "(I)Z"⟩
abbrev cX6_takeNumber : ByteArray := prog_8_method_15_code
def yX6_takeNumber : MethodName := ⟨RX6, "takeNumber", "(II)I"⟩
abbrev cX6_fail : ByteArray := prog_8_method_16_code
def yX6_fail : MethodName := ⟨RX6, "fail", "(II)V"⟩
def RX7 : String := "GurdyTide$Sleepers"
def TX7 : u_T := fun k => match k with
  | _ => ("GurdyTide$Sleepers", "seas", "[[I", true)
def tyX7 : Nat → FieldType := fun k => match k with
  | _ => .array (.array .int)
abbrev wsX70 : List Cond := u_ws RX7 TX7 1
theorem nmX7 : ∀ a, a < 1 → ∀ b, b < 1 → a ≠ b → (TX7 a).2.1 ≠ (TX7 b).2.1 := by decide +kernel
theorem tyX7_ok : ∀ k, k < 1 → parseFieldDescriptor (TX7 k).2.2.1 = some (tyX7 k) := by decide +kernel
abbrev cX7_init : ByteArray := prog_9_method_1_code
def yX7_init : MethodName := ⟨RX7, "<init>", "()V"⟩
abbrev cX7_fitting : ByteArray := prog_9_method_2_code
def yX7_fitting : MethodName := ⟨RX7, "fitting", "(LGurdyTide$Coast;LGurdyTide$State;LGurdyTide$Notes;LGurdyTide$State;)I"⟩
abbrev cX7_fits : ByteArray := prog_9_method_3_code
def yX7_fits : MethodName := ⟨RX7, "fits", "(ILGurdyTide$Coast;LGurdyTide$State;LGurdyTide$Notes;LGurdyTide$State;)Z"⟩
abbrev cX7_beginAsleep : ByteArray := prog_9_method_4_code
def yX7_beginAsleep : MethodName := ⟨RX7, "beginAsleep", "(ILGurdyTide$State;LGurdyTide$State;)V"⟩
abbrev cX7_bestMark : ByteArray := prog_9_method_5_code
def yX7_bestMark : MethodName := ⟨RX7, "bestMark", "(ILGurdyTide$Coast;LGurdyTide$State;LGurdyTide$State;)I"⟩
abbrev cX7_noteSeas : ByteArray := prog_9_method_6_code
def yX7_noteSeas : MethodName := ⟨RX7, "noteSeas", "(ILGurdyTide$Coast;LGurdyTide$State;)V"⟩
abbrev cX7_mostAlike : ByteArray := prog_9_method_7_code
def yX7_mostAlike : MethodName := ⟨RX7, "mostAlike", "(II)I"⟩
def RX8 : String := "GurdyTide$State"
def TX8 : u_T := fun k => match k with
  | 0 => ("GurdyTide$State", "hours", "I", false)
  | 1 => ("GurdyTide$State", "asleep", "I", false)
  | 2 => ("GurdyTide$State", "wound", "[I", true)
  | 3 => ("GurdyTide$State", "seat", "[I", true)
  | 4 => ("GurdyTide$State", "tired", "[I", true)
  | _ => ("GurdyTide$State", "place", "[I", true)
def tyX8 : Nat → FieldType := fun k => match k with
  | 0 => .int
  | 1 => .int
  | 2 => .array .int
  | 3 => .array .int
  | 4 => .array .int
  | _ => .array .int
abbrev wsX80 : List Cond := u_ws RX8 TX8 6
theorem nmX8 : ∀ a, a < 6 → ∀ b, b < 6 → a ≠ b → (TX8 a).2.1 ≠ (TX8 b).2.1 := by decide +kernel
theorem tyX8_ok : ∀ k, k < 6 → parseFieldDescriptor (TX8 k).2.2.1 = some (tyX8 k) := by decide +kernel
abbrev cX8_init : ByteArray := prog_10_method_1_code
def yX8_init : MethodName := ⟨RX8, "<init>", "()V"⟩
abbrev cX8_begin : ByteArray := prog_10_method_2_code
def yX8_begin : MethodName := ⟨RX8, "begin", "(LGurdyTide$Coast;)V"⟩
abbrev cX8_copy : ByteArray := prog_10_method_3_code
def yX8_copy : MethodName := ⟨RX8, "copy", "(LGurdyTide$State;)V"⟩
abbrev cX8_sleeps : ByteArray := prog_10_method_4_code
def yX8_sleeps : MethodName := ⟨RX8, "sleeps", "(I)Z"⟩
abbrev cX8_setAsleep : ByteArray := prog_10_method_5_code
def yX8_setAsleep : MethodName := ⟨RX8, "setAsleep", "(IZ)V"⟩
abbrev cX8_sitterAt : ByteArray := prog_10_method_6_code
def yX8_sitterAt : MethodName := ⟨RX8, "sitterAt", "(LGurdyTide$Coast;I)I"⟩
abbrev cX8_sitting : ByteArray := prog_10_method_7_code
def yX8_sitting : MethodName := ⟨RX8, "sitting", "(LGurdyTide$Coast;)I"⟩
abbrev cX8_passHour : ByteArray := prog_10_method_8_code
def yX8_passHour : MethodName := ⟨RX8, "passHour", "(LGurdyTide$Coast;)V"⟩
abbrev cX8_wind : ByteArray := prog_10_method_9_code
def yX8_wind : MethodName := ⟨RX8, "wind", "(LGurdyTide$Coast;)V"⟩
abbrev cX8_woundMore : ByteArray := prog_10_method_10_code
def yX8_woundMore : MethodName := ⟨RX8, "woundMore", "(III)I"⟩
abbrev cX8_sail : ByteArray := prog_10_method_11_code
def yX8_sail : MethodName := ⟨RX8, "sail", "(LGurdyTide$Coast;I)V"⟩
abbrev cX8_aground : ByteArray := prog_10_method_12_code
def yX8_aground : MethodName := ⟨RX8, "aground", "(LGurdyTide$Coast;)I"⟩
abbrev cX8_arrived : ByteArray := prog_10_method_13_code
def yX8_arrived : MethodName := ⟨RX8, "arrived", "(LGurdyTide$Coast;)I"⟩
abbrev cX8_seaAt : ByteArray := prog_10_method_14_code
def yX8_seaAt : MethodName := ⟨RX8, "seaAt", "(LGurdyTide$Coast;I)I"⟩
abbrev cX8_depthAt : ByteArray := prog_10_method_15_code
def yX8_depthAt : MethodName := ⟨RX8, "depthAt", "(LGurdyTide$Coast;I)I"⟩
abbrev cX8_wet : ByteArray := prog_10_method_16_code
def yX8_wet : MethodName := ⟨RX8, "wet", "(LGurdyTide$Coast;)I"⟩
abbrev cX8_dryGround : ByteArray := prog_10_method_17_code
def yX8_dryGround : MethodName := ⟨RX8, "dryGround", "(LGurdyTide$Coast;)I"⟩
abbrev cX8_strongest : ByteArray := prog_10_method_18_code
def yX8_strongest : MethodName := ⟨RX8, "strongest", "(LGurdyTide$Coast;I)I"⟩
abbrev cX8_steepest : ByteArray := prog_10_method_19_code
def yX8_steepest : MethodName := ⟨RX8, "steepest", "(LGurdyTide$Coast;)I"⟩
abbrev cX8_slope : ByteArray := prog_10_method_20_code
def yX8_slope : MethodName := ⟨RX8, "slope", "(LGurdyTide$Coast;)I"⟩
abbrev cX8_unlikeness : ByteArray := prog_10_method_21_code
def yX8_unlikeness : MethodName := ⟨RX8, "unlikeness", "(LGurdyTide$Coast;I)I"⟩
def RX9 : String := "GurdyTide"
def TX9 : u_T := fun k => match k with
  | 0 => ("GurdyTide", "reader", "LGurdyTide$Reader;", true)
  | 1 => ("GurdyTide", "coast", "LGurdyTide$Coast;", false)
  | 2 => ("GurdyTide", "spare", "LGurdyTide$Coast;", false)
  | 3 => ("GurdyTide", "now", "LGurdyTide$State;", true)
  | 4 => ("GurdyTide", "trial", "LGurdyTide$State;", true)
  | 5 => ("GurdyTide", "past", "LGurdyTide$Past;", true)
  | 6 => ("GurdyTide", "images", "[LGurdyTide$Image;", true)
  | 7 => ("GurdyTide", "draws", "LGurdyTide$Draws;", true)
  | 8 => ("GurdyTide", "notes", "LGurdyTide$Notes;", true)
  | 9 => ("GurdyTide", "plan", "LGurdyTide$Plan;", true)
  | 10 => ("GurdyTide", "sleepers", "LGurdyTide$Sleepers;", true)
  | _ => ("GurdyTide", "faultAt", "I", false)
def tyX9 : Nat → FieldType := fun k => match k with
  | 0 => .object "GurdyTide$Reader"
  | 1 => .object "GurdyTide$Coast"
  | 2 => .object "GurdyTide$Coast"
  | 3 => .object "GurdyTide$State"
  | 4 => .object "GurdyTide$State"
  | 5 => .object "GurdyTide$Past"
  | 6 => .array (.object "GurdyTide$Image")
  | 7 => .object "GurdyTide$Draws"
  | 8 => .object "GurdyTide$Notes"
  | 9 => .object "GurdyTide$Plan"
  | 10 => .object "GurdyTide$Sleepers"
  | _ => .int
abbrev wsX90 : List Cond := u_ws RX9 TX9 12
theorem nmX9 : ∀ a, a < 12 → ∀ b, b < 12 → a ≠ b → (TX9 a).2.1 ≠ (TX9 b).2.1 := by decide +kernel
theorem tyX9_ok : ∀ k, k < 12 → parseFieldDescriptor (TX9 k).2.2.1 = some (tyX9 k) := by decide +kernel
abbrev cX9_init : ByteArray := prog_1_method_1_code
def yX9_init : MethodName := ⟨RX9, "<init>", "()V"⟩
abbrev cX9_feed : ByteArray := prog_1_method_2_code
def yX9_feed : MethodName := ⟨RX9, "feed", "(I)I"⟩
abbrev cX9_coast : ByteArray := prog_1_method_3_code
def yX9_coast : MethodName := ⟨RX9, "coast", "()I"⟩
abbrev cX9_fault : ByteArray := prog_1_method_4_code
def yX9_fault : MethodName := ⟨RX9, "fault", "()I"⟩
abbrev cX9_told : ByteArray := prog_1_method_5_code
def yX9_told : MethodName := ⟨RX9, "told", "(I)I"⟩
abbrev cX9_cell : ByteArray := prog_1_method_6_code
def yX9_cell : MethodName := ⟨RX9, "cell", "(II)I"⟩
abbrev cX9_tower : ByteArray := prog_1_method_7_code
def yX9_tower : MethodName := ⟨RX9, "tower", "(II)I"⟩
abbrev cX9_player : ByteArray := prog_1_method_8_code
def yX9_player : MethodName := ⟨RX9, "player", "(II)I"⟩
abbrev cX9_boat : ByteArray := prog_1_method_9_code
def yX9_boat : MethodName := ⟨RX9, "boat", "(II)I"⟩
abbrev cX9_hour : ByteArray := prog_1_method_10_code
def yX9_hour : MethodName := ⟨RX9, "hour", "(I)I"⟩
abbrev cX9_sit : ByteArray := prog_1_method_11_code
def yX9_sit : MethodName := ⟨RX9, "sit", "(II)I"⟩
abbrev cX9_rest : ByteArray := prog_1_method_12_code
def yX9_rest : MethodName := ⟨RX9, "rest", "(I)I"⟩
abbrev cX9_sleep : ByteArray := prog_1_method_13_code
def yX9_sleep : MethodName := ⟨RX9, "sleep", "(IZ)I"⟩
abbrev cX9_turn : ByteArray := prog_1_method_14_code
def yX9_turn : MethodName := ⟨RX9, "turn", "(II)I"⟩
abbrev cX9_send : ByteArray := prog_1_method_15_code
def yX9_send : MethodName := ⟨RX9, "send", "(I)I"⟩
abbrev cX9_drift : ByteArray := prog_1_method_16_code
def yX9_drift : MethodName := ⟨RX9, "drift", "(I)I"⟩
abbrev cX9_undo : ByteArray := prog_1_method_17_code
def yX9_undo : MethodName := ⟨RX9, "undo", "()I"⟩
abbrev cX9_sea : ByteArray := prog_1_method_18_code
def yX9_sea : MethodName := ⟨RX9, "sea", "(III)I"⟩
abbrev cX9_deepest : ByteArray := prog_1_method_19_code
def yX9_deepest : MethodName := ⟨RX9, "deepest", "(III)I"⟩
abbrev cX9_comes : ByteArray := prog_1_method_20_code
def yX9_comes : MethodName := ⟨RX9, "comes", "(I)I"⟩
abbrev cX9_seats : ByteArray := prog_1_method_21_code
def yX9_seats : MethodName := ⟨RX9, "seats", "(IIII)I"⟩
abbrev cX9_leave : ByteArray := prog_1_method_22_code
def yX9_leave : MethodName := ⟨RX9, "leave", "(I)I"⟩
abbrev cX9_share : ByteArray := prog_1_method_23_code
def yX9_share : MethodName := ⟨RX9, "share", "(II)I"⟩
abbrev cX9_calm : ByteArray := prog_1_method_24_code
def yX9_calm : MethodName := ⟨RX9, "calm", "(II)I"⟩
abbrev cX9_mark : ByteArray := prog_1_method_25_code
def yX9_mark : MethodName := ⟨RX9, "mark", "(III)I"⟩
abbrev cX9_look : ByteArray := prog_1_method_26_code
def yX9_look : MethodName := ⟨RX9, "look", "()I"⟩
abbrev cX9_see : ByteArray := prog_1_method_27_code
def yX9_see : MethodName := ⟨RX9, "see", "(III)I"⟩
abbrev cX9_write : ByteArray := prog_1_method_28_code
def yX9_write : MethodName := ⟨RX9, "write", "(II)I"⟩
abbrev cX9_tear : ByteArray := prog_1_method_29_code
def yX9_tear : MethodName := ⟨RX9, "tear", "()I"⟩
abbrev cX9_judge : ByteArray := prog_1_method_30_code
def yX9_judge : MethodName := ⟨RX9, "judge", "()I"⟩
abbrev cX9_seed : ByteArray := prog_1_method_31_code
def yX9_seed : MethodName := ⟨RX9, "seed", "(I)I"⟩
abbrev cX9_keep : ByteArray := prog_1_method_32_code
def yX9_keep : MethodName := ⟨RX9, "keep", "(I)I"⟩
abbrev cX9_goBack : ByteArray := prog_1_method_33_code
def yX9_goBack : MethodName := ⟨RX9, "goBack", "(I)I"⟩
abbrev cX9_within : ByteArray := prog_1_method_34_code
def yX9_within : MethodName := ⟨RX9, "within", "(III)Z"⟩
abbrev cX9_refusalOfHours : ByteArray := prog_1_method_35_code
def yX9_refusalOfHours : MethodName := ⟨RX9, "refusalOfHours", "(I)I"⟩
abbrev cX9_shareOf : ByteArray := prog_1_method_36_code
def yX9_shareOf : MethodName := ⟨RX9, "shareOf", "(III)I"⟩
def RX10 : String := "GurdyTideModel"
def TX10 : u_T := fun k => match k with
  | 0 => ("GurdyTideModel", "coast", "[I", true)
  | 1 => ("GurdyTideModel", "read", "[I", true)
  | 2 => ("GurdyTideModel", "now", "[I", true)
  | 3 => ("GurdyTideModel", "aside", "[I", true)
  | 4 => ("GurdyTideModel", "past", "[I", true)
  | 5 => ("GurdyTideModel", "undos", "I", false)
  | 6 => ("GurdyTideModel", "images", "[I", true)
  | 7 => ("GurdyTideModel", "kept", "[Z", true)
  | 8 => ("GurdyTideModel", "seed", "J", false)
  | 9 => ("GurdyTideModel", "text", "[I", true)
  | 10 => ("GurdyTideModel", "size", "I", false)
  | 11 => ("GurdyTideModel", "fault", "I", false)
  | 12 => ("GurdyTideModel", "marks", "[I", true)
  | 13 => ("GurdyTideModel", "markMany", "I", false)
  | 14 => ("GurdyTideModel", "sights", "[I", true)
  | 15 => ("GurdyTideModel", "sightMany", "I", false)
  | 16 => ("GurdyTideModel", "book", "[I", true)
  | 17 => ("GurdyTideModel", "bookMany", "I", false)
  | 18 => ("GurdyTideModel", "at", "I", false)
  | 19 => ("GurdyTideModel", "begin", "I", false)
  | 20 => ("GurdyTideModel", "sign", "I", false)
  | 21 => ("GurdyTideModel", "figures", "I", false)
  | 22 => ("GurdyTideModel", "value", "I", false)
  | 23 => ("GurdyTideModel", "wrong", "I", false)
  | 24 => ("GurdyTideModel", "row", "[I", true)
  | 25 => ("GurdyTideModel", "best", "[I", true)
  | 26 => ("GurdyTideModel", "bestMany", "I", false)
  | 27 => ("GurdyTideModel", "bestArms", "I", false)
  | _ => ("GurdyTideModel", "then", "[I", true)
def tyX10 : Nat → FieldType := fun k => match k with
  | 0 => .array .int
  | 1 => .array .int
  | 2 => .array .int
  | 3 => .array .int
  | 4 => .array .int
  | 5 => .int
  | 6 => .array .int
  | 7 => .array .boolean
  | 8 => .long
  | 9 => .array .int
  | 10 => .int
  | 11 => .int
  | 12 => .array .int
  | 13 => .int
  | 14 => .array .int
  | 15 => .int
  | 16 => .array .int
  | 17 => .int
  | 18 => .int
  | 19 => .int
  | 20 => .int
  | 21 => .int
  | 22 => .int
  | 23 => .int
  | 24 => .array .int
  | 25 => .array .int
  | 26 => .int
  | 27 => .int
  | _ => .array .int
abbrev wsX100 : List Cond := u_ws RX10 TX10 29
theorem nmX10 : ∀ a, a < 29 → ∀ b, b < 29 → a ≠ b → (TX10 a).2.1 ≠ (TX10 b).2.1 := by decide +kernel
theorem tyX10_ok : ∀ k, k < 29 → parseFieldDescriptor (TX10 k).2.2.1 = some (tyX10 k) := by decide +kernel
abbrev cX10_init : ByteArray := prog_12_method_1_code
def yX10_init : MethodName := ⟨RX10, "<init>", "()V"⟩
abbrev cX10_in : ByteArray := prog_12_method_3_code
def yX10_in : MethodName := ⟨RX10, "in", "(JJJ)Z"⟩
abbrev cX10_has : ByteArray := prog_12_method_4_code
def yX10_has : MethodName := ⟨RX10, "has", "(II)Z"⟩
abbrev cX10_bits : ByteArray := prog_12_method_5_code
def yX10_bits : MethodName := ⟨RX10, "bits", "(I)I"⟩
abbrev cX10_lesser : ByteArray := prog_12_method_6_code
def yX10_lesser : MethodName := ⟨RX10, "lesser", "(II)I"⟩
abbrev cX10_greater : ByteArray := prog_12_method_7_code
def yX10_greater : MethodName := ⟨RX10, "greater", "(II)I"⟩
abbrev cX10_copies : ByteArray := prog_12_method_8_code
def yX10_copies : MethodName := ⟨RX10, "copies", "([II[III)V"⟩
abbrev cX10_begins : ByteArray := prog_12_method_9_code
def yX10_begins : MethodName := ⟨RX10, "begins", "()V"⟩
abbrev cX10_feed : ByteArray := prog_12_method_10_code
def yX10_feed : MethodName := ⟨RX10, "feed", "(I)I"⟩
abbrev cX10_here : ByteArray := prog_12_method_11_code
def yX10_here : MethodName := ⟨RX10, "here", "()I"⟩
abbrev cX10_step : ByteArray := prog_12_method_12_code
def yX10_step : MethodName := ⟨RX10, "step", "()V"⟩
abbrev cX10_fails : ByteArray := prog_12_method_13_code
def yX10_fails : MethodName := ⟨RX10, "fails", "(I)Z"⟩
abbrev cX10_number : ByteArray := prog_12_method_14_code
def yX10_number : MethodName := ⟨RX10, "number", "(III)Z"⟩
abbrev cX10_ends : ByteArray := prog_12_method_15_code
def yX10_ends : MethodName := ⟨RX10, "ends", "()Z"⟩
abbrev cX10_readsCells : ByteArray := prog_12_method_16_code
def yX10_readsCells : MethodName := ⟨RX10, "readsCells", "()Z"⟩
abbrev cX10_readsTower : ByteArray := prog_12_method_17_code
def yX10_readsTower : MethodName := ⟨RX10, "readsTower", "()Z"⟩
abbrev cX10_readsPlayer : ByteArray := prog_12_method_18_code
def yX10_readsPlayer : MethodName := ⟨RX10, "readsPlayer", "()Z"⟩
abbrev cX10_readsBoat : ByteArray := prog_12_method_19_code
def yX10_readsBoat : MethodName := ⟨RX10, "readsBoat", "()Z"⟩
abbrev cX10_readsClause : ByteArray := prog_12_method_20_code
def yX10_readsClause : MethodName := ⟨RX10, "readsClause", "()Z"⟩
abbrev cX10_coast : ByteArray := prog_12_method_21_code
def yX10_coast : MethodName := ⟨RX10, "coast", "()I"⟩
abbrev cX10_fault : ByteArray := prog_12_method_22_code
def yX10_fault : MethodName := ⟨RX10, "fault", "()I"⟩
abbrev cX10_isCell : ByteArray := prog_12_method_23_code
def yX10_isCell : MethodName := ⟨RX10, "isCell", "(I)Z"⟩
abbrev cX10_isTower : ByteArray := prog_12_method_24_code
def yX10_isTower : MethodName := ⟨RX10, "isTower", "(I)Z"⟩
abbrev cX10_isPlayer : ByteArray := prog_12_method_25_code
def yX10_isPlayer : MethodName := ⟨RX10, "isPlayer", "(I)Z"⟩
abbrev cX10_isBoat : ByteArray := prog_12_method_26_code
def yX10_isBoat : MethodName := ⟨RX10, "isBoat", "(I)Z"⟩
abbrev cX10_bears : ByteArray := prog_12_method_27_code
def yX10_bears : MethodName := ⟨RX10, "bears", "([III)I"⟩
abbrev cX10_seaOn : ByteArray := prog_12_method_28_code
def yX10_seaOn : MethodName := ⟨RX10, "seaOn", "([II)I"⟩
abbrev cX10_depthOn : ByteArray := prog_12_method_29_code
def yX10_depthOn : MethodName := ⟨RX10, "depthOn", "([II)I"⟩
abbrev cX10_unlike : ByteArray := prog_12_method_30_code
def yX10_unlike : MethodName := ⟨RX10, "unlike", "([II)I"⟩
abbrev cX10_steepest : ByteArray := prog_12_method_31_code
def yX10_steepest : MethodName := ⟨RX10, "steepest", "([I)I"⟩
abbrev cX10_slopeOn : ByteArray := prog_12_method_32_code
def yX10_slopeOn : MethodName := ⟨RX10, "slopeOn", "([I)I"⟩
abbrev cX10_wet : ByteArray := prog_12_method_33_code
def yX10_wet : MethodName := ⟨RX10, "wet", "()I"⟩
abbrev cX10_strongest : ByteArray := prog_12_method_34_code
def yX10_strongest : MethodName := ⟨RX10, "strongest", "(I)I"⟩
abbrev cX10_sitterOn : ByteArray := prog_12_method_35_code
def yX10_sitterOn : MethodName := ⟨RX10, "sitterOn", "([II)I"⟩
abbrev cX10_boats : ByteArray := prog_12_method_36_code
def yX10_boats : MethodName := ⟨RX10, "boats", "(Z)I"⟩
abbrev cX10_whoSits : ByteArray := prog_12_method_37_code
def yX10_whoSits : MethodName := ⟨RX10, "whoSits", "()I"⟩
abbrev cX10_guts : ByteArray := prog_12_method_38_code
def yX10_guts : MethodName := ⟨RX10, "guts", "()I"⟩
abbrev cX10_told : ByteArray := prog_12_method_39_code
def yX10_told : MethodName := ⟨RX10, "told", "(I)I"⟩
abbrev cX10_cell : ByteArray := prog_12_method_40_code
def yX10_cell : MethodName := ⟨RX10, "cell", "(II)I"⟩
abbrev cX10_tower : ByteArray := prog_12_method_41_code
def yX10_tower : MethodName := ⟨RX10, "tower", "(II)I"⟩
abbrev cX10_player : ByteArray := prog_12_method_42_code
def yX10_player : MethodName := ⟨RX10, "player", "(II)I"⟩
abbrev cX10_boat : ByteArray := prog_12_method_43_code
def yX10_boat : MethodName := ⟨RX10, "boat", "(II)I"⟩
abbrev cX10_winds : ByteArray := prog_12_method_44_code
def yX10_winds : MethodName := ⟨RX10, "winds", "([I)V"⟩
abbrev cX10_hourGoes : ByteArray := prog_12_method_45_code
def yX10_hourGoes : MethodName := ⟨RX10, "hourGoes", "([I)V"⟩
abbrev cX10_remember : ByteArray := prog_12_method_46_code
def yX10_remember : MethodName := ⟨RX10, "remember", "()V"⟩
abbrev cX10_refuses : ByteArray := prog_12_method_47_code
def yX10_refuses : MethodName := ⟨RX10, "refuses", "(I)I"⟩
abbrev cX10_hour : ByteArray := prog_12_method_48_code
def yX10_hour : MethodName := ⟨RX10, "hour", "(I)I"⟩
abbrev cX10_sit : ByteArray := prog_12_method_49_code
def yX10_sit : MethodName := ⟨RX10, "sit", "(II)I"⟩
abbrev cX10_rest : ByteArray := prog_12_method_50_code
def yX10_rest : MethodName := ⟨RX10, "rest", "(I)I"⟩
abbrev cX10_sleeps : ByteArray := prog_12_method_51_code
def yX10_sleeps : MethodName := ⟨RX10, "sleeps", "(IZ)V"⟩
abbrev cX10_sleep : ByteArray := prog_12_method_52_code
def yX10_sleep : MethodName := ⟨RX10, "sleep", "(IZ)I"⟩
abbrev cX10_turn : ByteArray := prog_12_method_53_code
def yX10_turn : MethodName := ⟨RX10, "turn", "(II)I"⟩
abbrev cX10_send : ByteArray := prog_12_method_54_code
def yX10_send : MethodName := ⟨RX10, "send", "(I)I"⟩
abbrev cX10_draw : ByteArray := prog_12_method_55_code
def yX10_draw : MethodName := ⟨RX10, "draw", "(I)I"⟩
abbrev cX10_draws : ByteArray := prog_12_method_56_code
def yX10_draws : MethodName := ⟨RX10, "draws", "()V"⟩
abbrev cX10_drift : ByteArray := prog_12_method_57_code
def yX10_drift : MethodName := ⟨RX10, "drift", "(I)I"⟩
abbrev cX10_undo : ByteArray := prog_12_method_58_code
def yX10_undo : MethodName := ⟨RX10, "undo", "()I"⟩
abbrev cX10_layAside : ByteArray := prog_12_method_59_code
def yX10_layAside : MethodName := ⟨RX10, "layAside", "()V"⟩
abbrev cX10_sea : ByteArray := prog_12_method_60_code
def yX10_sea : MethodName := ⟨RX10, "sea", "(III)I"⟩
abbrev cX10_deepest : ByteArray := prog_12_method_61_code
def yX10_deepest : MethodName := ⟨RX10, "deepest", "(III)I"⟩
abbrev cX10_comes : ByteArray := prog_12_method_62_code
def yX10_comes : MethodName := ⟨RX10, "comes", "(I)I"⟩
abbrev cX10_weighs : ByteArray := prog_12_method_63_code
def yX10_weighs : MethodName := ⟨RX10, "weighs", "(III)V"⟩
abbrev cX10_mayBe : ByteArray := prog_12_method_64_code
def yX10_mayBe : MethodName := ⟨RX10, "mayBe", "(I)Z"⟩
abbrev cX10_goesOn : ByteArray := prog_12_method_65_code
def yX10_goesOn : MethodName := ⟨RX10, "goesOn", "(I)I"⟩
abbrev cX10_plans : ByteArray := prog_12_method_66_code
def yX10_plans : MethodName := ⟨RX10, "plans", "(III)V"⟩
abbrev cX10_seats : ByteArray := prog_12_method_67_code
def yX10_seats : MethodName := ⟨RX10, "seats", "(IIII)I"⟩
abbrev cX10_leave : ByteArray := prog_12_method_68_code
def yX10_leave : MethodName := ⟨RX10, "leave", "(I)I"⟩
abbrev cX10_shareOf : ByteArray := prog_12_method_69_code
def yX10_shareOf : MethodName := ⟨RX10, "shareOf", "(II)I"⟩
abbrev cX10_share : ByteArray := prog_12_method_70_code
def yX10_share : MethodName := ⟨RX10, "share", "(II)I"⟩
abbrev cX10_calm : ByteArray := prog_12_method_71_code
def yX10_calm : MethodName := ⟨RX10, "calm", "(II)I"⟩
abbrev cX10_mark : ByteArray := prog_12_method_72_code
def yX10_mark : MethodName := ⟨RX10, "mark", "(III)I"⟩
abbrev cX10_layThen : ByteArray := prog_12_method_73_code
def yX10_layThen : MethodName := ⟨RX10, "layThen", "(I)V"⟩
abbrev cX10_slept : ByteArray := prog_12_method_74_code
def yX10_slept : MethodName := ⟨RX10, "slept", "()I"⟩
abbrev cX10_greatestPart : ByteArray := prog_12_method_75_code
def yX10_greatestPart : MethodName := ⟨RX10, "greatestPart", "(II)I"⟩
abbrev cX10_look : ByteArray := prog_12_method_76_code
def yX10_look : MethodName := ⟨RX10, "look", "()I"⟩
abbrev cX10_see : ByteArray := prog_12_method_77_code
def yX10_see : MethodName := ⟨RX10, "see", "(III)I"⟩
abbrev cX10_write : ByteArray := prog_12_method_78_code
def yX10_write : MethodName := ⟨RX10, "write", "(II)I"⟩
abbrev cX10_tear : ByteArray := prog_12_method_79_code
def yX10_tear : MethodName := ⟨RX10, "tear", "()I"⟩
abbrev cX10_judge : ByteArray := prog_12_method_80_code
def yX10_judge : MethodName := ⟨RX10, "judge", "()I"⟩
abbrev cX10_seed : ByteArray := prog_12_method_81_code
def yX10_seed : MethodName := ⟨RX10, "seed", "(I)I"⟩
abbrev cX10_keep : ByteArray := prog_12_method_82_code
def yX10_keep : MethodName := ⟨RX10, "keep", "(I)I"⟩
abbrev cX10_goBack : ByteArray := prog_12_method_83_code
def yX10_goBack : MethodName := ⟨RX10, "goBack", "(I)I"⟩
def RJ9 : String := "java/lang/Math"
def TJ9 : u_T := fun k => match k with
  | _ => ("", "", "", false)
def tyJ9 : Nat → FieldType := fun k => match k with
  | _ => .int
abbrev wsJ90 : List Cond := u_ws RJ9 TJ9 0
theorem nmJ9 : ∀ a, a < 0 → ∀ b, b < 0 → a ≠ b → (TJ9 a).2.1 ≠ (TJ9 b).2.1 := by decide +kernel
theorem tyJ9_ok : ∀ k, k < 0 → parseFieldDescriptor (TJ9 k).2.2.1 = some (tyJ9 k) := by decide +kernel
abbrev cJ9_abs_0f7a4 : ByteArray := prog_13_method_59_code
def yJ9_abs_0f7a4 : MethodName := ⟨RJ9, "abs", "(I)I"⟩
abbrev cJ9_max_7cf53 : ByteArray := prog_13_method_65_code
def yJ9_max_7cf53 : MethodName := ⟨RJ9, "max", "(II)I"⟩
abbrev cJ9_min_7cf53 : ByteArray := prog_13_method_69_code
def yJ9_min_7cf53 : MethodName := ⟨RJ9, "min", "(II)I"⟩
def RJ10 : String := "java/lang/System"
def TJ10 : u_T := fun k => match k with
  | _ => ("", "", "", false)
def tyJ10 : Nat → FieldType := fun k => match k with
  | _ => .int
abbrev wsJ100 : List Cond := u_ws RJ10 TJ10 0
theorem nmJ10 : ∀ a, a < 0 → ∀ b, b < 0 → a ≠ b → (TJ10 a).2.1 ≠ (TJ10 b).2.1 := by decide +kernel
theorem tyJ10_ok : ∀ k, k < 0 → parseFieldDescriptor (TJ10 k).2.2.1 = some (tyJ10 k) := by decide +kernel
def RJ7 : String := "java/util/Arrays"
def TJ7 : u_T := fun k => match k with
  | _ => ("", "", "", false)
def tyJ7 : Nat → FieldType := fun k => match k with
  | _ => .int
abbrev wsJ70 : List Cond := u_ws RJ7 TJ7 0
theorem nmJ7 : ∀ a, a < 0 → ∀ b, b < 0 → a ≠ b → (TJ7 a).2.1 ≠ (TJ7 b).2.1 := by decide +kernel
theorem tyJ7_ok : ∀ k, k < 0 → parseFieldDescriptor (TJ7 k).2.2.1 = some (tyJ7 k) := by decide +kernel
abbrev cJ7_fill_53178 : ByteArray := prog_15_method_103_code
def yJ7_fill_53178 : MethodName := ⟨RJ7, "fill", "([II)V"⟩
def RL : String := "GurdyTideLaw"
abbrev cL_law : ByteArray := code
def yL_law : MethodName := ⟨RL, "law", "([I)Z"⟩
abbrev vwCl : List vw_C := [(RX0, TX0, 11), (RX1, TX1, 1), (RX2, TX2, 3), (RX3, TX3, 11), (RX4, TX4, 3), (RX5, TX5, 6), (RX6, TX6, 5), (RX7, TX7, 1), (RX8, TX8, 6), (RX9, TX9, 12), (RX10, TX10, 29)]
end
section
/-! THE ABSTRACT MACHINE: a heap of objects numbered from 1, each at the machine's address 'first new cell + number - 1' (0: the script); a body's judgement gt_A over it, a row an instruction; a method's contract gt_C -/
abbrev gt_G : Type := va_G × (Nat → ClassId) × Nat × Heap × Nat × (Nat → Int32)
abbrev gt_Ob : Type := (Nat × (Nat → Int32)) ⊕ (Nat × (Nat → Int32)) ⊕ (Nat × Nat × (Nat → Option Nat)) ⊕ (Nat × List Value)
abbrev gt_H : Type := Nat → Option gt_Ob
abbrev oI (n : Nat) (f : Nat → Int32) : gt_Ob := .inl (n, f)
abbrev oZ (n : Nat) (f : Nat → Int32) : gt_Ob := .inr (.inl (n, f))
abbrev oR (kd n : Nat) (f : Nat → Option Nat) : gt_Ob := .inr (.inr (.inl (kd, n, f)))
abbrev oO (ci : Nat) (fs : List Value) : gt_Ob := .inr (.inr (.inr (ci, fs)))
abbrev gt_B (G : gt_G) : Nat := G.2.2.2.1.size
def gt_ad (G : gt_G) (k : Nat) : Nat := match k with
  | 0 => G.2.2.1
  | k + 1 => gt_B G + k
def gt_v (G : gt_G) (v : Value) : Value := match v with
  | .ref k => .ref (gt_ad G k)
  | v => v
def gt_e (G : gt_G) (o : gt_Ob) : va_E := match o with
  | .inl (n, f) => .inl (G.2.1 0, n, .inl f)
  | .inr (.inl (n, f)) => .inl (G.2.1 1, n, .inl f)
  | .inr (.inr (.inl (kd, n, f))) => .inl (G.2.1 kd, n, .inr (.inr (.inr (.inr (fun j => (f j).map (gt_ad G))))))
  | .inr (.inr (.inr (ci, fs))) => .inr (ci, fs.map (gt_v G))
def gt_tys (G : gt_G) : List (ClassId × FieldType) := [(G.2.1 0, .int), (G.2.1 1, .boolean), (G.2.1 2, .object "GurdyTide$State"), (G.2.1 3, .object "GurdyTide$Image"), (G.2.1 4, .array .int)]
def gt_tbl : List Cond := lw_tbl.filter goodWord
theorem gt_tbl_lw {w : Cond} (h : w ∈ gt_tbl) : w ∈ lw_tbl := (List.mem_filter.mp h).1
theorem gt_mem {w : Cond} (i : Nat) (h : tables_1[i]? = some w) (hg : goodWord w = true) : w ∈ gt_tbl := List.mem_filter.mpr ⟨List.mem_append_right _ (List.mem_of_getElem? h), hg⟩
theorem gt_memp {y : MethodName} {c : Nat} (i : Nat) (h : lw_privs[i]? = some (y, c)) : Cond.selects y.cls y y ∈ gt_tbl := List.mem_filter.mpr ⟨List.mem_append_left _ (List.mem_map.mpr ⟨(y, c), List.mem_of_getElem? h, rfl⟩), rfl⟩
theorem gt_tbl_good {y : MethodName} {cc : ByteArray} {mL : Nat} {rt : Option FieldType} (h : Cond.code y cc mL rt ∈ gt_tbl) : GoodIn gt_tbl (.code y cc mL rt :: gt_tbl) := fun w hw => by
  have hw : w ∈ gt_tbl := by
    rcases List.mem_cons.mp hw with e | e
    · rw [e]; exact h
    · exact e
  exact ⟨hw, good_of_word (List.mem_filter.mp hw).2⟩
def gt_nest : List (String × Nat × MethodName × String) := [("GurdyTide", 9, ⟨"GurdyTide$Reader", "<init>", "()V"⟩, "GurdyTide"), ("GurdyTide", 18, ⟨"GurdyTide$Coast", "<init>", "()V"⟩, "GurdyTide"), ("GurdyTide", 28, ⟨"GurdyTide$State", "<init>", "()V"⟩, "GurdyTide"), ("GurdyTide$Past", 17, ⟨"GurdyTide$State", "<init>", "()V"⟩, "GurdyTide"), ("GurdyTide", 51, ⟨"GurdyTide$Draws", "<init>", "()V"⟩, "GurdyTide"), ("GurdyTide", 58, ⟨"GurdyTide$Notes", "<init>", "()V"⟩, "GurdyTide"), ("GurdyTide", 65, ⟨"GurdyTide$Plan", "<init>", "()V"⟩, "GurdyTide"), ("GurdyTide", 72, ⟨"GurdyTide$Sleepers", "<init>", "()V"⟩, "GurdyTide"), ("GurdyTide", 81, ⟨"GurdyTide$Image", "<init>", "()V"⟩, "GurdyTide"), ("GurdyTide$Image", 9, ⟨"GurdyTide$State", "<init>", "()V"⟩, "GurdyTide")]
def gt_K (G : gt_G) (U : State) : Prop := va_K G.1 vwCl (gt_tys G) U ∧ va_X G.2.2.1 G.2.2.2.2.1 G.2.2.2.2.2 U G.2.2.2.1 ∧ G.2.2.1 < gt_B G ∧ (∀ q ∈ gt_nest, va_Nw (.methodLinkNest q.1 q.2.1 q.2.2.1 q.2.2.2) U) ∧ va_AO "GurdyTide$State" U ∧ va_AO "GurdyTide$Image" U ∧ (Cond.arrayOver (.array .int)).before #[] U = true
theorem gt_K_warm {G : gt_G} {u U : State} (hW : u.WarmedH U.vm) (h : gt_K G u) : gt_K G U := ⟨va_K.moved hW.alike h.1, va_X.moved hW.alike h.2.1, h.2.2.1, fun q hq => va_Nw.warmM hW (h.2.2.2.1 q hq), va_AO.moved hW.alike h.2.2.2.2.1, va_AO.moved hW.alike h.2.2.2.2.2.1, over_moved hW.alike h.2.2.2.2.2.2⟩
theorem gt_K_same {G : gt_G} {u U : State} (hv : u.vm = U.vm) (h : gt_K G u) : gt_K G U := by
  have ha : u.vm.Alike U.vm := by rw [hv]; exact Vm.Alike.refl _
  exact ⟨va_K.moved ha h.1, va_X.moved ha h.2.1, h.2.2.1, fun q hq => va_Nw.same rfl hv (h.2.2.2.1 q hq), va_AO.moved ha h.2.2.2.2.1, va_AO.moved ha h.2.2.2.2.2.1, over_moved ha h.2.2.2.2.2.2⟩
def gt_R (G : gt_G) (n : Nat) (h : gt_H) (H : Heap) : Prop := (∀ k o, h k = some o → k ≠ 0 ∧ k ≤ n ∧ va_at G.1 vwCl (gt_ad G k, gt_e G o) H) ∧ H.size = gt_B G + n ∧ ∀ q, q < gt_B G → H[q]? = G.2.2.2.1[q]?
def gt_X (G : gt_G) (own nm : String) (cc : ByteArray) (mL : Nat) (rt : Option FieldType) (p : Program) (s : State) (m : MethodId) (args : Array Value) (meth : Method) (c : Code) : Prop :=
  p.tables.exec = Jvm.exec ∧ c.code = cc ∧ c.maxLocals = mL ∧ meth.sig.returnType = rt ∧ meth.locks = false ∧ s.vm.findClass own = some m.cls ∧ meth.name = nm ∧ (∀ w ∈ gt_tbl, w.before args s = true) ∧ gt_K G s
def gt_lm (G : gt_G) (lv : List (Nat × Value)) : List (Nat × Value) := lv.map (fun q => (q.1, gt_v G q.2))
abbrev gt_Zt : Type := List Frame → Array Value → State → State → Prop
/-- the body at pc, locals lv, stack st, heap h comes to its end Z -/
def gt_A (l : Launch) (G : gt_G) (own nm : String) (cc : ByteArray) (mL : Nat) (rt : Option FieldType) (R : Room) (Z : gt_Zt) (N : Nat × Nat × Nat) (pc : Nat) (lv : List (Nat × Value)) (st : List Value) (h : gt_H) : Prop :=
  ∀ (p : Program) (e : Env) (s : State) (m : MethodId) (args : Array Value) (below : List Frame) (meth : Method) (c : Code) (H : Heap) (locs : List Loc) (ls : Array Slot),
    gt_X G own nm cc mL rt p s m args meth c → gt_R G N.1 h H → (∀ q ∈ locs, gt_B G ≤ q.base) → lv_has ls mL (gt_lm G lv) →
    W p l e R s m args below meth c H locs N.2.1 N.2.2 (Z below args s) (F0 m pc ls (st.map (gt_v G)))
def gt_rm (d mc ms : Nat) : Room := { frames := d, cells := mc, slots := ms, locals := 40 * d }
def gt_Q (G : gt_G) (n : Nat) (r : Option Value) (h : gt_H) : Array Value → State → Outcome → State → Prop := fun _ _ o t => o = .returned (r.map (gt_v G)) ∧ gt_R G n h t.heap
def gt_Z (G : gt_G) (n mc ms : Nat) (r : Option Value) (h : gt_H) : gt_Zt := fun below args s => MQ below (gt_Q G n r h) args s mc ms (fun q => gt_B G ≤ q)
def gt_P (G : gt_G) (n : Nat) (as : List Value) (h : gt_H) : Array Value → State → Prop := fun a U => a = (as.map (gt_v G)).toArray ∧ gt_R G n h U.heap ∧ gt_K G U
/-- a method's contract: with these arguments and this heap it answers r and leaves the heap h' -/
def gt_C (l : Launch) (G : gt_G) (y : MethodName) (cc : ByteArray) (mL : Nat) (rt : Option FieldType) (d mc ms n : Nat) (as : List Value) (h : gt_H) (r : Option Value) (h' : gt_H) : Prop :=
  Met l y (.code y cc mL rt :: gt_tbl) (gt_rm d mc ms) (gt_P G n as h) (gt_Q G (n + mc) r h') mc ms (fun q => gt_B G ≤ q)
theorem gt_P_blind (G : gt_G) (n : Nat) (as : List Value) (h : gt_H) : FrameBlind (gt_P G n as h) := fun a U g mk q => ⟨q.1, q.2.1, gt_K_same (u := U) (U := U.calling g mk a) rfl q.2.2⟩
/-- a contract out of the walk of its body -/
theorem gt_C_of {l : Launch} {G : gt_G} {y : MethodName} {own nm : String} {cc : ByteArray} {mL : Nat} {rt : Option FieldType} {d mc ms n : Nat} {as : List Value} {h h' : gt_H} {r : Option Value} (hown : y.cls = own) (hnm : y.name = nm) (hpl : plainName y.cls = true) (hlen : (lg_sl (as.map (gt_v G))).length ≤ mL)
    (body : gt_A l G own nm cc mL rt (gt_rm d mc ms) (gt_Z G (n + mc) mc ms r h') (n, 0, 0) 0 (lv_args 0 as) [] h) : gt_C l G y cc mL rt d mc ms n as h r h' := by
  refine Met.ofW (cc := cc) (maxL := mL) (ret := rt) hpl rfl ?_
  intro p e s m args below meth c s₁ B hml hv
  obtain ⟨rfl, hR, hK⟩ := hv
  have hts := atoms_spec (ws := .code y cc mL rt :: gt_tbl) B.pre
  have hX : gt_X G own nm cc mL rt p s m ((as.map (gt_v G)).toArray) meth c := ⟨B.exec, B.bytes, hml, B.returns, B.notSynchronized, by rw [← hown]; exact findClass_of_methodNamed B.named, by rw [← hnm]; exact (name_of_methodNamed B.named B.method).1, fun w hw => hts w (List.mem_cons_of_mem _ hw), hK⟩
  have hl := lv_entry (as.map (gt_v G)) (n := mL) hlen
  rw [lg_entry_eq]
  have hl2 : lv_args 0 (as.map (gt_v G)) = gt_lm G (lv_args 0 as) := by
    have key : ∀ (xs : List Value) (i : Nat), lv_args i (xs.map (gt_v G)) = gt_lm G (lv_args i xs) := by
      intro xs
      induction xs with
      | nil => intro i; rfl
      | cons x xs ih =>
        intro i
        have hc : (gt_v G x).category = x.category := by cases x <;> rfl
        show lv_args i (gt_v G x :: xs.map (gt_v G)) = gt_lm G (lv_args i (x :: xs))
        simp only [lv_args, gt_lm, List.map_cons, hc]
        rw [ih]
        rfl
    exact key as 0
  rw [hl2] at hl
  exact body p e s m _ below meth c s.heap [] _ hX hR (fun q hq => by cases hq) hl
end
section
section GA
variable {l : Launch} {G : gt_G} {own nm : String} {cc : ByteArray} {mL : Nat} {rt : Option FieldType} {R : Room} {Z : gt_Zt} {N : Nat × Nat × Nat} {pc : Nat} {lv : List (Nat × Value)} {st : List Value} {h : gt_H}
theorem gt_at {ls : Array Slot} (hl : lv_has ls mL (gt_lm G lv)) (j : Nat) {i : Nat} {v : Value} (hk : lv[j]? = some (i, v)) : ls[i]? = some (.val (gt_v G v)) := lv_at hl j (by unfold gt_lm; rw [List.getElem?_map, hk]; rfl)
/-- the locals behind a store -/
def gt_set (lv : List (Nat × Value)) (i : Nat) (v : Value) : List (Nat × Value) := if lv.any (fun q => q.1 == i) then lv.map (fun q => if q.1 == i then (i, v) else q) else lv ++ [(i, v)]
def gt_ok1 (lv : List (Nat × Value)) (i : Nat) : Bool := lv.all (fun q => !(q.1 + 1 == i && q.2.category == 2))
def gt_ok2 (lv : List (Nat × Value)) (i : Nat) : Bool := lv.all (fun q => !(q.1 == i + 1) && !(q.1 + 1 == i && q.2.category == 2))
theorem gt_set_mem {lv : List (Nat × Value)} {i : Nat} {v : Value} {q : Nat × Value} (h : q ∈ gt_set lv i v) : q = (i, v) ∨ (q ∈ lv ∧ (q.1 == i) = false) := by
  unfold gt_set at h
  by_cases ha : lv.any (fun q => q.1 == i) = true
  · rw [if_pos ha] at h
    obtain ⟨x, hx, e⟩ := List.mem_map.mp h
    by_cases hi : (x.1 == i) = true
    · rw [if_pos hi] at e; exact Or.inl e.symm
    · rw [if_neg hi] at e; subst e; exact Or.inr ⟨hx, by simpa using hi⟩
  · rw [if_neg ha] at h
    rcases List.mem_append.mp h with h | h
    · refine Or.inr ⟨h, ?_⟩
      cases hq : (q.1 == i) with
      | false => rfl
      | true => exact absurd (List.any_eq_true.mpr ⟨q, h, hq⟩) ha
    · exact Or.inl (List.mem_singleton.mp h)
theorem gt_cat (v : Value) : (gt_v G v).category = v.category := by cases v <;> rfl
theorem gt_set1 {ls : Array Slot} {i : Nat} {v : Value} (ho : gt_ok1 lv i = true) (hl : lv_has ls mL ((i, gt_v G v) :: (gt_lm G lv).filter (fun q => !(q.1 == i) && !(q.1 + 1 == i && q.2.category == 2)))) : lv_has ls mL (gt_lm G (gt_set lv i v)) := by
  refine ⟨hl.1, hl.2.1, fun q hq => hl.2.2 q ?_⟩
  obtain ⟨x, hx, rfl⟩ := List.mem_map.mp hq
  rcases gt_set_mem hx with rfl | ⟨h1, h2⟩
  · exact List.mem_cons_self
  · refine List.mem_cons_of_mem _ (List.mem_filter.mpr ⟨List.mem_map.mpr ⟨x, h1, rfl⟩, ?_⟩)
    have h3 := List.all_eq_true.mp ho x h1
    simp only [gt_cat, h2]
    simpa using h3
theorem gt_set2 {ls : Array Slot} {i : Nat} {v : Value} (ho : gt_ok2 lv i = true) (hl : lv_has ls mL ((i, gt_v G v) :: (gt_lm G lv).filter (fun q => !(q.1 == i) && (!(q.1 == i + 1) && !(q.1 + 1 == i && q.2.category == 2))))) : lv_has ls mL (gt_lm G (gt_set lv i v)) := by
  refine ⟨hl.1, hl.2.1, fun q hq => hl.2.2 q ?_⟩
  obtain ⟨x, hx, rfl⟩ := List.mem_map.mp hq
  rcases gt_set_mem hx with rfl | ⟨h1, h2⟩
  · exact List.mem_cons_self
  · refine List.mem_cons_of_mem _ (List.mem_filter.mpr ⟨List.mem_map.mpr ⟨x, h1, rfl⟩, ?_⟩)
    have h3 := List.all_eq_true.mp ho x h1
    simp only [gt_cat, h2]
    simpa using h3
/-- fewer locals: the first ones -/
theorem ga_take (n : Nat) (k : gt_A l G own nm cc mL rt R Z N pc (lv.take n) st h) : gt_A l G own nm cc mL rt R Z N pc lv st h :=
  fun p e s m args below meth c H locs ls X hR hL hl => k p e s m args below meth c H locs ls X hR hL ⟨hl.1, hl.2.1, fun q hq => hl.2.2 q (by
    obtain ⟨x, hx, e⟩ := List.mem_map.mp hq
    exact List.mem_map.mpr ⟨x, List.mem_of_mem_take hx, e⟩)⟩
/-- other locals: all of them among the old -/
theorem ga_sub {lv' : List (Nat × Value)} (hs : ∀ q ∈ lv', q ∈ lv) (k : gt_A l G own nm cc mL rt R Z N pc lv' st h) : gt_A l G own nm cc mL rt R Z N pc lv st h :=
  fun p e s m args below meth c H locs ls X hR hL hl => k p e s m args below meth c H locs ls X hR hL ⟨hl.1, hl.2.1, fun q hq => hl.2.2 q (by
    obtain ⟨x, hx, e⟩ := List.mem_map.mp hq
    exact List.mem_map.mpr ⟨x, hs x hx, e⟩)⟩
/-- another name of the heap -/
theorem ga_heap {h' : gt_H} (e : h = h') (k : gt_A l G own nm cc mL rt R Z N pc lv st h') : gt_A l G own nm cc mL rt R Z N pc lv st h := e ▸ k
/-- a heap of which less is said -/
theorem ga_weak {h' : gt_H} (e : ∀ k o, h' k = some o → h k = some o) (k : gt_A l G own nm cc mL rt R Z N pc lv st h') : gt_A l G own nm cc mL rt R Z N pc lv st h :=
  fun p e' s m args below meth c H locs ls X hR hL hl => k p e' s m args below meth c H locs ls X ⟨fun i o ho => hR.1 i o (e i o ho), hR.2⟩ hL hl

theorem ga_iadd {x y : Int32} (hd : decode cc pc = .ok (.iadd, 1)) (k : gt_A l G own nm cc mL rt R Z N (pc + 1) lv (.int (x + y) :: st) h) : gt_A l G own nm cc mL rt R Z N pc lv (.int y :: .int x :: st) h :=
  fun p e s m args below meth c H locs ls X hR hL hl => lv_iadd X.1 X.2.1 hd (k p e s m args below meth c H locs ls X hR hL hl)
theorem ga_isub {x y : Int32} (hd : decode cc pc = .ok (.isub, 1)) (k : gt_A l G own nm cc mL rt R Z N (pc + 1) lv (.int (x - y) :: st) h) : gt_A l G own nm cc mL rt R Z N pc lv (.int y :: .int x :: st) h :=
  fun p e s m args below meth c H locs ls X hR hL hl => lv_isub X.1 X.2.1 hd (k p e s m args below meth c H locs ls X hR hL hl)
theorem ga_imul {x y : Int32} (hd : decode cc pc = .ok (.imul, 1)) (k : gt_A l G own nm cc mL rt R Z N (pc + 1) lv (.int (x * y) :: st) h) : gt_A l G own nm cc mL rt R Z N pc lv (.int y :: .int x :: st) h :=
  fun p e s m args below meth c H locs ls X hR hL hl => lv_imul X.1 X.2.1 hd (k p e s m args below meth c H locs ls X hR hL hl)
theorem ga_iand {x y : Int32} (hd : decode cc pc = .ok (.iand, 1)) (k : gt_A l G own nm cc mL rt R Z N (pc + 1) lv (.int (x &&& y) :: st) h) : gt_A l G own nm cc mL rt R Z N pc lv (.int y :: .int x :: st) h :=
  fun p e s m args below meth c H locs ls X hR hL hl => lv_iand X.1 X.2.1 hd (k p e s m args below meth c H locs ls X hR hL hl)
theorem ga_ior {x y : Int32} (hd : decode cc pc = .ok (.ior, 1)) (k : gt_A l G own nm cc mL rt R Z N (pc + 1) lv (.int (x ||| y) :: st) h) : gt_A l G own nm cc mL rt R Z N pc lv (.int y :: .int x :: st) h :=
  fun p e s m args below meth c H locs ls X hR hL hl => lv_ior X.1 X.2.1 hd (k p e s m args below meth c H locs ls X hR hL hl)
theorem ga_ixor {x y : Int32} (hd : decode cc pc = .ok (.ixor, 1)) (k : gt_A l G own nm cc mL rt R Z N (pc + 1) lv (.int (x ^^^ y) :: st) h) : gt_A l G own nm cc mL rt R Z N pc lv (.int y :: .int x :: st) h :=
  fun p e s m args below meth c H locs ls X hR hL hl => lv_ixor X.1 X.2.1 hd (k p e s m args below meth c H locs ls X hR hL hl)
theorem ga_ishl {x y : Int32} (hd : decode cc pc = .ok (.ishl, 1)) (k : gt_A l G own nm cc mL rt R Z N (pc + 1) lv (.int (x <<< (y &&& 31)) :: st) h) : gt_A l G own nm cc mL rt R Z N pc lv (.int y :: .int x :: st) h :=
  fun p e s m args below meth c H locs ls X hR hL hl => lv_ishl X.1 X.2.1 hd (k p e s m args below meth c H locs ls X hR hL hl)
theorem ga_ishr {x y : Int32} (hd : decode cc pc = .ok (.ishr, 1)) (k : gt_A l G own nm cc mL rt R Z N (pc + 1) lv (.int (x >>> (y &&& 31)) :: st) h) : gt_A l G own nm cc mL rt R Z N pc lv (.int y :: .int x :: st) h :=
  fun p e s m args below meth c H locs ls X hR hL hl => lv_ishr X.1 X.2.1 hd (k p e s m args below meth c H locs ls X hR hL hl)
theorem ga_idiv {x y : Int32} (hd : decode cc pc = .ok (.idiv, 1)) (hne : ¬ y = 0) (k : gt_A l G own nm cc mL rt R Z N (pc + 1) lv (.int (x / y) :: st) h) : gt_A l G own nm cc mL rt R Z N pc lv (.int y :: .int x :: st) h :=
  fun p e s m args below meth c H locs ls X hR hL hl => lv_idiv X.1 X.2.1 hd hne (k p e s m args below meth c H locs ls X hR hL hl)
theorem ga_irem {x y : Int32} (hd : decode cc pc = .ok (.irem, 1)) (hne : ¬ y = 0) (k : gt_A l G own nm cc mL rt R Z N (pc + 1) lv (.int (x - x / y * y) :: st) h) : gt_A l G own nm cc mL rt R Z N pc lv (.int y :: .int x :: st) h :=
  fun p e s m args below meth c H locs ls X hR hL hl => lv_irem X.1 X.2.1 hd hne (k p e s m args below meth c H locs ls X hR hL hl)
theorem ga_ineg {x : Int32} (hd : decode cc pc = .ok (.ineg, 1)) (k : gt_A l G own nm cc mL rt R Z N (pc + 1) lv (.int (-x) :: st) h) : gt_A l G own nm cc mL rt R Z N pc lv (.int x :: st) h :=
  fun p e s m args below meth c H locs ls X hR hL hl => lv_ineg X.1 X.2.1 hd (k p e s m args below meth c H locs ls X hR hL hl)
theorem ga_ladd {x y : Int64} (hd : decode cc pc = .ok (.ladd, 1)) (k : gt_A l G own nm cc mL rt R Z N (pc + 1) lv (.long (x + y) :: st) h) : gt_A l G own nm cc mL rt R Z N pc lv (.long y :: .long x :: st) h :=
  fun p e s m args below meth c H locs ls X hR hL hl => lv_ladd X.1 X.2.1 hd (k p e s m args below meth c H locs ls X hR hL hl)
theorem ga_lmul {x y : Int64} (hd : decode cc pc = .ok (.lmul, 1)) (k : gt_A l G own nm cc mL rt R Z N (pc + 1) lv (.long (x * y) :: st) h) : gt_A l G own nm cc mL rt R Z N pc lv (.long y :: .long x :: st) h :=
  fun p e s m args below meth c H locs ls X hR hL hl => lv_lmul X.1 X.2.1 hd (k p e s m args below meth c H locs ls X hR hL hl)
theorem ga_land {x y : Int64} (hd : decode cc pc = .ok (.land, 1)) (k : gt_A l G own nm cc mL rt R Z N (pc + 1) lv (.long (x &&& y) :: st) h) : gt_A l G own nm cc mL rt R Z N pc lv (.long y :: .long x :: st) h :=
  fun p e s m args below meth c H locs ls X hR hL hl => lv_land X.1 X.2.1 hd (k p e s m args below meth c H locs ls X hR hL hl)
theorem ga_ldiv {x y : Int64} (hd : decode cc pc = .ok (.ldiv, 1)) (hne : ¬ y = 0) (k : gt_A l G own nm cc mL rt R Z N (pc + 1) lv (.long (x / y) :: st) h) : gt_A l G own nm cc mL rt R Z N pc lv (.long y :: .long x :: st) h :=
  fun p e s m args below meth c H locs ls X hR hL hl => lv_ldiv X.1 X.2.1 hd hne (k p e s m args below meth c H locs ls X hR hL hl)
theorem ga_lrem {x y : Int64} (hd : decode cc pc = .ok (.lrem, 1)) (hne : ¬ y = 0) (k : gt_A l G own nm cc mL rt R Z N (pc + 1) lv (.long (x - x / y * y) :: st) h) : gt_A l G own nm cc mL rt R Z N pc lv (.long y :: .long x :: st) h :=
  fun p e s m args below meth c H locs ls X hR hL hl => lv_lrem X.1 X.2.1 hd hne (k p e s m args below meth c H locs ls X hR hL hl)
theorem ga_i2l {x : Int32} (hd : decode cc pc = .ok (.i2l, 1)) (k : gt_A l G own nm cc mL rt R Z N (pc + 1) lv (.long x.toInt64 :: st) h) : gt_A l G own nm cc mL rt R Z N pc lv (.int x :: st) h :=
  fun p e s m args below meth c H locs ls X hR hL hl => lv_i2l X.1 X.2.1 hd rfl (k p e s m args below meth c H locs ls X hR hL hl)
theorem ga_l2i {x : Int64} (hd : decode cc pc = .ok (.l2i, 1)) (k : gt_A l G own nm cc mL rt R Z N (pc + 1) lv (.int x.toInt32 :: st) h) : gt_A l G own nm cc mL rt R Z N pc lv (.long x :: st) h :=
  fun p e s m args below meth c H locs ls X hR hL hl => lv_l2i X.1 X.2.1 hd rfl (k p e s m args below meth c H locs ls X hR hL hl)
theorem ga_lcmp {x y : Int64} (hd : decode cc pc = .ok (.lcmp, 1)) (k : gt_A l G own nm cc mL rt R Z N (pc + 1) lv (.int (lg_cmp x y) :: st) h) : gt_A l G own nm cc mL rt R Z N pc lv (.long y :: .long x :: st) h :=
  fun p e s m args below meth c H locs ls X hR hL hl => W.lcmp X.1 X.2.1 hd (k p e s m args below meth c H locs ls X hR hL hl)
theorem ga_iconst {n : Int} (v : Int32) (hd : decode cc pc = .ok (.iconst n, 1)) (hv : Int32.ofInt n = v) (k : gt_A l G own nm cc mL rt R Z N (pc + 1) lv (.int v :: st) h) : gt_A l G own nm cc mL rt R Z N pc lv st h :=
  fun p e s m args below meth c H locs ls X hR hL hl => lv_iconst X.1 X.2.1 hd hv (k p e s m args below meth c H locs ls X hR hL hl)
theorem ga_bipush {n : Int} (v : Int32) (hd : decode cc pc = .ok (.bipush n, 2)) (hv : (Int8.ofInt n).toInt32 = v) (k : gt_A l G own nm cc mL rt R Z N (pc + 2) lv (.int v :: st) h) : gt_A l G own nm cc mL rt R Z N pc lv st h :=
  fun p e s m args below meth c H locs ls X hR hL hl => lv_bipush X.1 X.2.1 hd hv (k p e s m args below meth c H locs ls X hR hL hl)
theorem ga_sipush {n : Int} (v : Int32) (hd : decode cc pc = .ok (.sipush n, 3)) (hv : (Int16.ofInt n).toInt32 = v) (k : gt_A l G own nm cc mL rt R Z N (pc + 3) lv (.int v :: st) h) : gt_A l G own nm cc mL rt R Z N pc lv st h :=
  fun p e s m args below meth c H locs ls X hR hL hl => lv_sipush X.1 X.2.1 hd hv (k p e s m args below meth c H locs ls X hR hL hl)
theorem ga_lconst {n : Fin 2} (v : Int64) (hd : decode cc pc = .ok (.lconst n, 1)) (hv : Int64.ofNat (n : Nat) = v) (k : gt_A l G own nm cc mL rt R Z N (pc + 1) lv (.long v :: st) h) : gt_A l G own nm cc mL rt R Z N pc lv st h :=
  fun p e s m args below meth c H locs ls X hR hL hl => lv_lconst X.1 X.2.1 hd hv (k p e s m args below meth c H locs ls X hR hL hl)
theorem ga_ldc {idx : Nat} {v : Int32} (hc : Cond.constant own idx v ∈ gt_tbl) (hd : decode cc pc = .ok (.ldc idx, 2)) (k : gt_A l G own nm cc mL rt R Z N (pc + 2) lv (.int v :: st) h) : gt_A l G own nm cc mL rt R Z N pc lv st h :=
  fun p e s m args below meth c H locs ls X hR hL hl => lv_ldc X.1 X.2.1 X.2.2.2.2.2.1 (X.2.2.2.2.2.2.2.1 _ hc) hd (k p e s m args below meth c H locs ls X hR hL hl)
theorem ga_ldc_w {idx : Nat} {v : Int32} (hc : Cond.constant own idx v ∈ gt_tbl) (hd : decode cc pc = .ok (.ldc_w idx, 3)) (k : gt_A l G own nm cc mL rt R Z N (pc + 3) lv (.int v :: st) h) : gt_A l G own nm cc mL rt R Z N pc lv st h :=
  fun p e s m args below meth c H locs ls X hR hL hl => lv_ldcw X.1 X.2.1 X.2.2.2.2.2.1 (X.2.2.2.2.2.2.2.1 _ hc) hd (k p e s m args below meth c H locs ls X hR hL hl)
theorem ga_ldc2_w {idx : Nat} {v : Int64} (hc : Cond.constantLong own idx v ∈ gt_tbl) (hd : decode cc pc = .ok (.ldc2_w idx, 3)) (k : gt_A l G own nm cc mL rt R Z N (pc + 3) lv (.long v :: st) h) : gt_A l G own nm cc mL rt R Z N pc lv st h :=
  fun p e s m args below meth c H locs ls X hR hL hl => lv_ldc2 X.1 X.2.1 X.2.2.2.2.2.1 (X.2.2.2.2.2.2.2.1 _ hc) hd (k p e s m args below meth c H locs ls X hR hL hl)
theorem ga_dup {v : Value} (hd : decode cc pc = .ok (.dup, 1)) (hv : v.category = 1) (k : gt_A l G own nm cc mL rt R Z N (pc + 1) lv (v :: v :: st) h) : gt_A l G own nm cc mL rt R Z N pc lv (v :: st) h :=
  fun p e s m args below meth c H locs ls X hR hL hl => lv_dup X.1 X.2.1 hd (by rw [gt_cat]; exact hv) (k p e s m args below meth c H locs ls X hR hL hl)
theorem ga_pop {v : Value} (hd : decode cc pc = .ok (.pop, 1)) (hv : v.category = 1) (k : gt_A l G own nm cc mL rt R Z N (pc + 1) lv st h) : gt_A l G own nm cc mL rt R Z N pc lv (v :: st) h :=
  fun p e s m args below meth c H locs ls X hR hL hl => lv_pop X.1 X.2.1 hd (by rw [gt_cat]; exact hv) (k p e s m args below meth c H locs ls X hR hL hl)
theorem ga_dup2 {v w : Value} (hd : decode cc pc = .ok (.dup2, 1)) (hv : v.category = 1) (hw : w.category = 1) (k : gt_A l G own nm cc mL rt R Z N (pc + 1) lv (v :: w :: v :: w :: st) h) : gt_A l G own nm cc mL rt R Z N pc lv (v :: w :: st) h :=
  fun p e s m args below meth c H locs ls X hR hL hl => lv_dup2_11 X.1 X.2.1 hd (by rw [gt_cat]; exact hv) (by rw [gt_cat]; exact hw) (k p e s m args below meth c H locs ls X hR hL hl)
theorem ga_iload (j : Nat) {i : Nat} {x : Int32} (hd : decode cc pc = .ok (.iload i, 2)) (hk : lv[j]? = some (i, .int x)) (k : gt_A l G own nm cc mL rt R Z N (pc + 2) lv (.int x :: st) h) : gt_A l G own nm cc mL rt R Z N pc lv st h :=
  fun p e s m args below meth c H locs ls X hR hL hl => lv_iload X.1 X.2.1 hd (gt_at hl j hk) (k p e s m args below meth c H locs ls X hR hL hl)
theorem ga_iload_n (j : Nat) {f : Fin 4} {x : Int32} (hd : decode cc pc = .ok (.iload_n f, 1)) (hk : lv[j]? = some ((f : Nat), .int x)) (k : gt_A l G own nm cc mL rt R Z N (pc + 1) lv (.int x :: st) h) : gt_A l G own nm cc mL rt R Z N pc lv st h :=
  fun p e s m args below meth c H locs ls X hR hL hl => lv_iload_n X.1 X.2.1 hd rfl (gt_at hl j hk) (k p e s m args below meth c H locs ls X hR hL hl)
theorem ga_istore {i : Nat} {x : Int32} (hd : decode cc pc = .ok (.istore i, 2)) (hn : i < mL) (ho : gt_ok1 lv i = true) (k : gt_A l G own nm cc mL rt R Z N (pc + 2) (gt_set lv i (.int x)) st h) : gt_A l G own nm cc mL rt R Z N pc lv (.int x :: st) h :=
  fun p e s m args below meth c H locs ls X hR hL hl => lv_istore X.1 X.2.1 hd hl hn rfl (fun ls' hl' => k p e s m args below meth c H locs ls' X hR hL (gt_set1 (v := .int x) ho hl'))
theorem ga_istore_n {f : Fin 4} {x : Int32} (hd : decode cc pc = .ok (.istore_n f, 1)) (hn : (f : Nat) < mL) (ho : gt_ok1 lv f = true) (k : gt_A l G own nm cc mL rt R Z N (pc + 1) (gt_set lv f (.int x)) st h) : gt_A l G own nm cc mL rt R Z N pc lv (.int x :: st) h :=
  fun p e s m args below meth c H locs ls X hR hL hl => lv_istore_n X.1 X.2.1 hd rfl hl hn rfl (fun ls' hl' => k p e s m args below meth c H locs ls' X hR hL (gt_set1 (v := .int x) ho hl'))
theorem ga_lload (j : Nat) {i : Nat} {x : Int64} (hd : decode cc pc = .ok (.lload i, 2)) (hk : lv[j]? = some (i, .long x)) (k : gt_A l G own nm cc mL rt R Z N (pc + 2) lv (.long x :: st) h) : gt_A l G own nm cc mL rt R Z N pc lv st h :=
  fun p e s m args below meth c H locs ls X hR hL hl => lv_lload X.1 X.2.1 hd (gt_at hl j hk) (k p e s m args below meth c H locs ls X hR hL hl)
theorem ga_lload_n (j : Nat) {f : Fin 4} {x : Int64} (hd : decode cc pc = .ok (.lload_n f, 1)) (hk : lv[j]? = some ((f : Nat), .long x)) (k : gt_A l G own nm cc mL rt R Z N (pc + 1) lv (.long x :: st) h) : gt_A l G own nm cc mL rt R Z N pc lv st h :=
  fun p e s m args below meth c H locs ls X hR hL hl => lv_lload_n X.1 X.2.1 hd rfl (gt_at hl j hk) (k p e s m args below meth c H locs ls X hR hL hl)
theorem ga_lstore {i : Nat} {x : Int64} (hd : decode cc pc = .ok (.lstore i, 2)) (hn : i + 1 < mL) (ho : gt_ok2 lv i = true) (k : gt_A l G own nm cc mL rt R Z N (pc + 2) (gt_set lv i (.long x)) st h) : gt_A l G own nm cc mL rt R Z N pc lv (.long x :: st) h :=
  fun p e s m args below meth c H locs ls X hR hL hl => lv_lstore X.1 X.2.1 hd hl hn rfl (fun ls' hl' => k p e s m args below meth c H locs ls' X hR hL (gt_set2 (v := .long x) ho hl'))
theorem ga_lstore_n {f : Fin 4} {x : Int64} (hd : decode cc pc = .ok (.lstore_n f, 1)) (hn : (f : Nat) + 1 < mL) (ho : gt_ok2 lv f = true) (k : gt_A l G own nm cc mL rt R Z N (pc + 1) (gt_set lv f (.long x)) st h) : gt_A l G own nm cc mL rt R Z N pc lv (.long x :: st) h :=
  fun p e s m args below meth c H locs ls X hR hL hl => lv_lstore_n X.1 X.2.1 hd rfl hl hn rfl (fun ls' hl' => k p e s m args below meth c H locs ls' X hR hL (gt_set2 (v := .long x) ho hl'))
theorem ga_aload (j : Nat) {i : Nat} {x : Nat} (hd : decode cc pc = .ok (.aload i, 2)) (hk : lv[j]? = some (i, .ref x)) (k : gt_A l G own nm cc mL rt R Z N (pc + 2) lv (.ref x :: st) h) : gt_A l G own nm cc mL rt R Z N pc lv st h :=
  fun p e s m args below meth c H locs ls X hR hL hl => lv_aload X.1 X.2.1 hd (gt_at hl j hk) (k p e s m args below meth c H locs ls X hR hL hl)
theorem ga_aload_n (j : Nat) {f : Fin 4} {x : Nat} (hd : decode cc pc = .ok (.aload_n f, 1)) (hk : lv[j]? = some ((f : Nat), .ref x)) (k : gt_A l G own nm cc mL rt R Z N (pc + 1) lv (.ref x :: st) h) : gt_A l G own nm cc mL rt R Z N pc lv st h :=
  fun p e s m args below meth c H locs ls X hR hL hl => lv_aload_n X.1 X.2.1 hd rfl (gt_at hl j hk) (k p e s m args below meth c H locs ls X hR hL hl)
theorem ga_astore {i : Nat} {x : Nat} (hd : decode cc pc = .ok (.astore i, 2)) (hn : i < mL) (ho : gt_ok1 lv i = true) (k : gt_A l G own nm cc mL rt R Z N (pc + 2) (gt_set lv i (.ref x)) st h) : gt_A l G own nm cc mL rt R Z N pc lv (.ref x :: st) h :=
  fun p e s m args below meth c H locs ls X hR hL hl => lv_astore X.1 X.2.1 hd hl hn rfl (fun ls' hl' => k p e s m args below meth c H locs ls' X hR hL (gt_set1 (v := .ref x) ho hl'))
theorem ga_astore_n {f : Fin 4} {x : Nat} (hd : decode cc pc = .ok (.astore_n f, 1)) (hn : (f : Nat) < mL) (ho : gt_ok1 lv f = true) (k : gt_A l G own nm cc mL rt R Z N (pc + 1) (gt_set lv f (.ref x)) st h) : gt_A l G own nm cc mL rt R Z N pc lv (.ref x :: st) h :=
  fun p e s m args below meth c H locs ls X hR hL hl => lv_astore_n X.1 X.2.1 hd rfl hl hn rfl (fun ls' hl' => k p e s m args below meth c H locs ls' X hR hL (gt_set1 (v := .ref x) ho hl'))
theorem ga_iinc (j : Nat) {i : Nat} {n : Int} {x : Int32} (v : Int32) (hd : decode cc pc = .ok (.iinc i n, 3)) (hk : lv[j]? = some (i, .int x)) (hv : Int32.ofInt n = v) (hn : i < mL) (ho : gt_ok1 lv i = true) (k : gt_A l G own nm cc mL rt R Z N (pc + 3) (gt_set lv i (.int (x + v))) st h) : gt_A l G own nm cc mL rt R Z N pc lv st h :=
  fun p e s m args below meth c H locs ls X hR hL hl => lv_iinc (v := x + v) X.1 X.2.1 hd hl (k := j) (by unfold gt_lm; rw [List.getElem?_map, hk]; rfl) (by rw [hv]) hn rfl (fun ls' hl' => k p e s m args below meth c H locs ls' X hR hL (gt_set1 (v := .int (x + v)) ho hl'))
theorem ga_if_eq {x : Int32} {off : Int} (tgt : Nat) (hd : decode cc pc = .ok (.ifCond .eq off, 3)) (ht : (pc : Int) + off = (tgt : Int)) (kt : x = 0 → gt_A l G own nm cc mL rt R Z N tgt lv st h) (kf : ¬ x = 0 → gt_A l G own nm cc mL rt R Z N (pc + 3) lv st h) : gt_A l G own nm cc mL rt R Z N pc lv (.int x :: st) h :=
  fun p e s m args below meth c H locs ls X hR hL hl => lv_if_eq X.1 X.2.1 hd ht (fun q => kt q p e s m args below meth c H locs ls X hR hL hl) (fun q => kf q p e s m args below meth c H locs ls X hR hL hl)
theorem ga_if_ne {x : Int32} {off : Int} (tgt : Nat) (hd : decode cc pc = .ok (.ifCond .ne off, 3)) (ht : (pc : Int) + off = (tgt : Int)) (kt : ¬ x = 0 → gt_A l G own nm cc mL rt R Z N tgt lv st h) (kf : x = 0 → gt_A l G own nm cc mL rt R Z N (pc + 3) lv st h) : gt_A l G own nm cc mL rt R Z N pc lv (.int x :: st) h :=
  fun p e s m args below meth c H locs ls X hR hL hl => lv_if_ne X.1 X.2.1 hd ht (fun q => kt q p e s m args below meth c H locs ls X hR hL hl) (fun q => kf q p e s m args below meth c H locs ls X hR hL hl)
theorem ga_if_lt {x : Int32} {off : Int} (tgt : Nat) (hd : decode cc pc = .ok (.ifCond .lt off, 3)) (ht : (pc : Int) + off = (tgt : Int)) (kt : x < 0 → gt_A l G own nm cc mL rt R Z N tgt lv st h) (kf : ¬ x < 0 → gt_A l G own nm cc mL rt R Z N (pc + 3) lv st h) : gt_A l G own nm cc mL rt R Z N pc lv (.int x :: st) h :=
  fun p e s m args below meth c H locs ls X hR hL hl => lv_if_lt X.1 X.2.1 hd ht (fun q => kt q p e s m args below meth c H locs ls X hR hL hl) (fun q => kf q p e s m args below meth c H locs ls X hR hL hl)
theorem ga_if_ge {x : Int32} {off : Int} (tgt : Nat) (hd : decode cc pc = .ok (.ifCond .ge off, 3)) (ht : (pc : Int) + off = (tgt : Int)) (kt : 0 ≤ x → gt_A l G own nm cc mL rt R Z N tgt lv st h) (kf : ¬ 0 ≤ x → gt_A l G own nm cc mL rt R Z N (pc + 3) lv st h) : gt_A l G own nm cc mL rt R Z N pc lv (.int x :: st) h :=
  fun p e s m args below meth c H locs ls X hR hL hl => lv_if_ge X.1 X.2.1 hd ht (fun q => kt q p e s m args below meth c H locs ls X hR hL hl) (fun q => kf q p e s m args below meth c H locs ls X hR hL hl)
theorem ga_if_gt {x : Int32} {off : Int} (tgt : Nat) (hd : decode cc pc = .ok (.ifCond .gt off, 3)) (ht : (pc : Int) + off = (tgt : Int)) (kt : 0 < x → gt_A l G own nm cc mL rt R Z N tgt lv st h) (kf : ¬ 0 < x → gt_A l G own nm cc mL rt R Z N (pc + 3) lv st h) : gt_A l G own nm cc mL rt R Z N pc lv (.int x :: st) h :=
  fun p e s m args below meth c H locs ls X hR hL hl => lv_if_gt X.1 X.2.1 hd ht (fun q => kt q p e s m args below meth c H locs ls X hR hL hl) (fun q => kf q p e s m args below meth c H locs ls X hR hL hl)
theorem ga_if_le {x : Int32} {off : Int} (tgt : Nat) (hd : decode cc pc = .ok (.ifCond .le off, 3)) (ht : (pc : Int) + off = (tgt : Int)) (kt : x ≤ 0 → gt_A l G own nm cc mL rt R Z N tgt lv st h) (kf : ¬ x ≤ 0 → gt_A l G own nm cc mL rt R Z N (pc + 3) lv st h) : gt_A l G own nm cc mL rt R Z N pc lv (.int x :: st) h :=
  fun p e s m args below meth c H locs ls X hR hL hl => lv_if_le X.1 X.2.1 hd ht (fun q => kt q p e s m args below meth c H locs ls X hR hL hl) (fun q => kf q p e s m args below meth c H locs ls X hR hL hl)
theorem ga_icmp_eq {x y : Int32} {off : Int} (tgt : Nat) (hd : decode cc pc = .ok (.if_icmp .eq off, 3)) (ht : (pc : Int) + off = (tgt : Int)) (kt : x = y → gt_A l G own nm cc mL rt R Z N tgt lv st h) (kf : ¬ x = y → gt_A l G own nm cc mL rt R Z N (pc + 3) lv st h) : gt_A l G own nm cc mL rt R Z N pc lv (.int y :: .int x :: st) h :=
  fun p e s m args below meth c H locs ls X hR hL hl => lv_icmp_eq X.1 X.2.1 hd ht (fun q => kt q p e s m args below meth c H locs ls X hR hL hl) (fun q => kf q p e s m args below meth c H locs ls X hR hL hl)
theorem ga_icmp_ne {x y : Int32} {off : Int} (tgt : Nat) (hd : decode cc pc = .ok (.if_icmp .ne off, 3)) (ht : (pc : Int) + off = (tgt : Int)) (kt : ¬ x = y → gt_A l G own nm cc mL rt R Z N tgt lv st h) (kf : x = y → gt_A l G own nm cc mL rt R Z N (pc + 3) lv st h) : gt_A l G own nm cc mL rt R Z N pc lv (.int y :: .int x :: st) h :=
  fun p e s m args below meth c H locs ls X hR hL hl => lv_icmp_ne X.1 X.2.1 hd ht (fun q => kt q p e s m args below meth c H locs ls X hR hL hl) (fun q => kf q p e s m args below meth c H locs ls X hR hL hl)
theorem ga_icmp_lt {x y : Int32} {off : Int} (tgt : Nat) (hd : decode cc pc = .ok (.if_icmp .lt off, 3)) (ht : (pc : Int) + off = (tgt : Int)) (kt : x < y → gt_A l G own nm cc mL rt R Z N tgt lv st h) (kf : ¬ x < y → gt_A l G own nm cc mL rt R Z N (pc + 3) lv st h) : gt_A l G own nm cc mL rt R Z N pc lv (.int y :: .int x :: st) h :=
  fun p e s m args below meth c H locs ls X hR hL hl => lv_icmp_lt X.1 X.2.1 hd ht (fun q => kt q p e s m args below meth c H locs ls X hR hL hl) (fun q => kf q p e s m args below meth c H locs ls X hR hL hl)
theorem ga_icmp_ge {x y : Int32} {off : Int} (tgt : Nat) (hd : decode cc pc = .ok (.if_icmp .ge off, 3)) (ht : (pc : Int) + off = (tgt : Int)) (kt : y ≤ x → gt_A l G own nm cc mL rt R Z N tgt lv st h) (kf : ¬ y ≤ x → gt_A l G own nm cc mL rt R Z N (pc + 3) lv st h) : gt_A l G own nm cc mL rt R Z N pc lv (.int y :: .int x :: st) h :=
  fun p e s m args below meth c H locs ls X hR hL hl => lv_icmp_ge X.1 X.2.1 hd ht (fun q => kt q p e s m args below meth c H locs ls X hR hL hl) (fun q => kf q p e s m args below meth c H locs ls X hR hL hl)
theorem ga_icmp_gt {x y : Int32} {off : Int} (tgt : Nat) (hd : decode cc pc = .ok (.if_icmp .gt off, 3)) (ht : (pc : Int) + off = (tgt : Int)) (kt : y < x → gt_A l G own nm cc mL rt R Z N tgt lv st h) (kf : ¬ y < x → gt_A l G own nm cc mL rt R Z N (pc + 3) lv st h) : gt_A l G own nm cc mL rt R Z N pc lv (.int y :: .int x :: st) h :=
  fun p e s m args below meth c H locs ls X hR hL hl => lv_icmp_gt X.1 X.2.1 hd ht (fun q => kt q p e s m args below meth c H locs ls X hR hL hl) (fun q => kf q p e s m args below meth c H locs ls X hR hL hl)
theorem ga_icmp_le {x y : Int32} {off : Int} (tgt : Nat) (hd : decode cc pc = .ok (.if_icmp .le off, 3)) (ht : (pc : Int) + off = (tgt : Int)) (kt : x ≤ y → gt_A l G own nm cc mL rt R Z N tgt lv st h) (kf : ¬ x ≤ y → gt_A l G own nm cc mL rt R Z N (pc + 3) lv st h) : gt_A l G own nm cc mL rt R Z N pc lv (.int y :: .int x :: st) h :=
  fun p e s m args below meth c H locs ls X hR hL hl => lv_icmp_le X.1 X.2.1 hd ht (fun q => kt q p e s m args below meth c H locs ls X hR hL hl) (fun q => kf q p e s m args below meth c H locs ls X hR hL hl)
theorem ga_goto {off : Int} (tgt : Nat) (hd : decode cc pc = .ok (.goto off, 3)) (ht : (pc : Int) + off = (tgt : Int)) (k : gt_A l G own nm cc mL rt R Z N tgt lv st h) : gt_A l G own nm cc mL rt R Z N pc lv st h :=
  fun p e s m args below meth c H locs ls X hR hL hl => lv_goto X.1 X.2.1 hd ht (k p e s m args below meth c H locs ls X hR hL hl)
theorem ga_tableIn {dflt lo hi : Int} {offs : Array Int} {len : Nat} {x : Int32} {off : Int} (tgt : Nat) (hd : decode cc pc = .ok (.tableswitch dflt lo hi offs, len)) (h1 : ¬ x.toInt < lo) (h2 : ¬ hi < x.toInt) (ho : offs[(x.toInt - lo).toNat]? = some off) (ht : (pc : Int) + off = (tgt : Int)) (k : gt_A l G own nm cc mL rt R Z N tgt lv st h) : gt_A l G own nm cc mL rt R Z N pc lv (.int x :: st) h :=
  fun p e s m args below meth c H locs ls X hR hL hl => lv_tableIn X.1 X.2.1 hd h1 h2 ho ht (k p e s m args below meth c H locs ls X hR hL hl)
theorem ga_tableOut {dflt lo hi : Int} {offs : Array Int} {len : Nat} {x : Int32} (tgt : Nat) (hd : decode cc pc = .ok (.tableswitch dflt lo hi offs, len)) (hq : x.toInt < lo ∨ hi < x.toInt) (ht : (pc : Int) + dflt = (tgt : Int)) (k : gt_A l G own nm cc mL rt R Z N tgt lv st h) : gt_A l G own nm cc mL rt R Z N pc lv (.int x :: st) h :=
  fun p e s m args below meth c H locs ls X hR hL hl => lv_tableOut X.1 X.2.1 hd hq ht (k p e s m args below meth c H locs ls X hR hL hl)
theorem ga_lookup {dflt : Int} {ps : Array (Int × Int)} {len : Nat} {x : Int32} {off : Int} (tgt : Nat) (hd : decode cc pc = .ok (.lookupswitch dflt ps, len)) (hp : (ps.toList.zip (ps.toList.drop 1)).all (fun (a, next) => a.1 < next.1) = true) (ho : Op.lookupswitch.offset ps.toList dflt x.toInt = off) (ht : (pc : Int) + off = (tgt : Int)) (k : gt_A l G own nm cc mL rt R Z N tgt lv st h) : gt_A l G own nm cc mL rt R Z N pc lv (.int x :: st) h :=
  fun p e s m args below meth c H locs ls X hR hL hl => lv_lookup X.1 X.2.1 hd hp ho ht (k p e s m args below meth c H locs ls X hR hL hl)
theorem ga_iret {n mc ms : Nat} {r : Option Value} {h' : gt_H} {v : Int32} (hd : decode cc pc = .ok (.ireturn, 1)) (hr : r = some (.int v)) (hh : h' = h) : gt_A l G own nm cc mL (some .int) R (gt_Z G n mc ms r h') (n, mc, ms) pc lv [.int v] h :=
  fun p e s m args below meth c H locs ls X hR hL hl => by
    subst hr; subst hh
    exact W.iret (Qc := gt_Q G n (some (.int v)) h') X.1 X.2.1 X.2.2.2.1 (fun t ht _ => ⟨rfl, by rw [ht]; exact hR⟩) hL hd X.2.2.2.2.1
theorem ga_zret {n mc ms : Nat} {r : Option Value} {h' : gt_H} {v : Int32} (hd : decode cc pc = .ok (.ireturn, 1)) (hn : narrow .boolean (.int v) = .int v) (hr : r = some (.int v)) (hh : h' = h) : gt_A l G own nm cc mL (some .boolean) R (gt_Z G n mc ms r h') (n, mc, ms) pc lv [.int v] h :=
  fun p e s m args below meth c H locs ls X hR hL hl => by
    subst hr; subst hh
    exact W.zret (Qc := gt_Q G n (some (.int v)) h') X.1 X.2.1 X.2.2.2.1 hn (fun t ht _ => ⟨rfl, by rw [ht]; exact hR⟩) hL hd X.2.2.2.2.1
theorem ga_vret {n mc ms : Nat} {r : Option Value} {h' : gt_H} (hd : decode cc pc = .ok (.return_, 1)) (hr : r = none) (hh : ∀ k o, h' k = some o → h k = some o) : gt_A l G own nm cc mL none R (gt_Z G n mc ms r h') (n, mc, ms) pc lv [] h :=
  fun p e s m args below meth c H locs ls X hR hL hl => by
    subst hr
    exact W.vret (Qc := gt_Q G n none h') X.1 X.2.1 X.2.2.2.1 (fun t ht _ => ⟨rfl, by rw [ht]; exact ⟨fun i o ho => hR.1 i o (hh i o ho), hR.2⟩⟩) hL hd X.2.2.2.2.1
end GA
end
