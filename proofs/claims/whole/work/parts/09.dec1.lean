theorem dX0_init_0 : decode cX0_init 0 = .ok (.aload_n 0, 1) := by decide +kernel
theorem dX0_init_1 : decode cX0_init 1 = .ok (.invokespecial 3, 3) := by decide +kernel
theorem dX0_init_4 : decode cX0_init 4 = .ok (.aload_n 0, 1) := by decide +kernel
theorem dX0_init_5 : decode cX0_init 5 = .ok (.bipush 10, 2) := by decide +kernel
theorem dX0_init_7 : decode cX0_init 7 = .ok (.newarray .int, 2) := by decide +kernel
theorem dX0_init_9 : decode cX0_init 9 = .ok (.putfield 9, 3) := by decide +kernel
theorem dX0_init_12 : decode cX0_init 12 = .ok (.aload_n 0, 1) := by decide +kernel
theorem dX0_init_13 : decode cX0_init 13 = .ok (.bipush 6, 2) := by decide +kernel
theorem dX0_init_15 : decode cX0_init 15 = .ok (.newarray .int, 2) := by decide +kernel
theorem dX0_init_17 : decode cX0_init 17 = .ok (.putfield 15, 3) := by decide +kernel
theorem dX0_init_20 : decode cX0_init 20 = .ok (.aload_n 0, 1) := by decide +kernel
theorem dX0_init_21 : decode cX0_init 21 = .ok (.bipush 6, 2) := by decide +kernel
theorem dX0_init_23 : decode cX0_init 23 = .ok (.newarray .int, 2) := by decide +kernel
theorem dX0_init_25 : decode cX0_init 25 = .ok (.putfield 18, 3) := by decide +kernel
theorem dX0_init_28 : decode cX0_init 28 = .ok (.aload_n 0, 1) := by decide +kernel
theorem dX0_init_29 : decode cX0_init 29 = .ok (.bipush 6, 2) := by decide +kernel
theorem dX0_init_31 : decode cX0_init 31 = .ok (.newarray .int, 2) := by decide +kernel
theorem dX0_init_33 : decode cX0_init 33 = .ok (.putfield 21, 3) := by decide +kernel
theorem dX0_init_36 : decode cX0_init 36 = .ok (.aload_n 0, 1) := by decide +kernel
theorem dX0_init_37 : decode cX0_init 37 = .ok (.iconst 4, 1) := by decide +kernel
theorem dX0_init_38 : decode cX0_init 38 = .ok (.newarray .int, 2) := by decide +kernel
theorem dX0_init_40 : decode cX0_init 40 = .ok (.putfield 24, 3) := by decide +kernel
theorem dX0_init_43 : decode cX0_init 43 = .ok (.aload_n 0, 1) := by decide +kernel
theorem dX0_init_44 : decode cX0_init 44 = .ok (.iconst 4, 1) := by decide +kernel
theorem dX0_init_45 : decode cX0_init 45 = .ok (.newarray .int, 2) := by decide +kernel
theorem dX0_init_47 : decode cX0_init 47 = .ok (.putfield 27, 3) := by decide +kernel
theorem dX0_init_50 : decode cX0_init 50 = .ok (.aload_n 0, 1) := by decide +kernel
theorem dX0_init_51 : decode cX0_init 51 = .ok (.iconst 4, 1) := by decide +kernel
theorem dX0_init_52 : decode cX0_init 52 = .ok (.newarray .int, 2) := by decide +kernel
theorem dX0_init_54 : decode cX0_init 54 = .ok (.putfield 30, 3) := by decide +kernel
theorem dX0_init_57 : decode cX0_init 57 = .ok (.return_, 1) := by decide +kernel
theorem dX0_clear_0 : decode cX0_clear 0 = .ok (.aload_n 0, 1) := by decide +kernel
theorem dX0_clear_1 : decode cX0_clear 1 = .ok (.iconst 0, 1) := by decide +kernel
theorem dX0_clear_2 : decode cX0_clear 2 = .ok (.putfield 33, 3) := by decide +kernel
theorem dX0_clear_5 : decode cX0_clear 5 = .ok (.aload_n 0, 1) := by decide +kernel
theorem dX0_clear_6 : decode cX0_clear 6 = .ok (.iconst 0, 1) := by decide +kernel
theorem dX0_clear_7 : decode cX0_clear 7 = .ok (.putfield 37, 3) := by decide +kernel
theorem dX0_clear_10 : decode cX0_clear 10 = .ok (.aload_n 0, 1) := by decide +kernel
theorem dX0_clear_11 : decode cX0_clear 11 = .ok (.iconst 0, 1) := by decide +kernel
theorem dX0_clear_12 : decode cX0_clear 12 = .ok (.putfield 40, 3) := by decide +kernel
theorem dX0_clear_15 : decode cX0_clear 15 = .ok (.aload_n 0, 1) := by decide +kernel
theorem dX0_clear_16 : decode cX0_clear 16 = .ok (.iconst 0, 1) := by decide +kernel
theorem dX0_clear_17 : decode cX0_clear 17 = .ok (.putfield 43, 3) := by decide +kernel
theorem dX0_clear_20 : decode cX0_clear 20 = .ok (.return_, 1) := by decide +kernel
theorem dX0_hasCell_0 : decode cX0_hasCell 0 = .ok (.iload_n 1, 1) := by decide +kernel
theorem dX0_hasCell_1 : decode cX0_hasCell 1 = .ok (.ifCond .lt 15, 3) := by decide +kernel
theorem dX0_hasCell_4 : decode cX0_hasCell 4 = .ok (.iload_n 1, 1) := by decide +kernel
theorem dX0_hasCell_5 : decode cX0_hasCell 5 = .ok (.aload_n 0, 1) := by decide +kernel
theorem dX0_hasCell_6 : decode cX0_hasCell 6 = .ok (.getfield 33, 3) := by decide +kernel
theorem dX0_hasCell_9 : decode cX0_hasCell 9 = .ok (.if_icmp .ge 7, 3) := by decide +kernel
theorem dX0_hasCell_12 : decode cX0_hasCell 12 = .ok (.iconst 1, 1) := by decide +kernel
theorem dX0_hasCell_13 : decode cX0_hasCell 13 = .ok (.goto 4, 3) := by decide +kernel
theorem dX0_hasCell_16 : decode cX0_hasCell 16 = .ok (.iconst 0, 1) := by decide +kernel
theorem dX0_hasCell_17 : decode cX0_hasCell 17 = .ok (.ireturn, 1) := by decide +kernel
theorem dX0_hasTower_0 : decode cX0_hasTower 0 = .ok (.iload_n 1, 1) := by decide +kernel
theorem dX0_hasTower_1 : decode cX0_hasTower 1 = .ok (.ifCond .lt 15, 3) := by decide +kernel
theorem dX0_hasTower_4 : decode cX0_hasTower 4 = .ok (.iload_n 1, 1) := by decide +kernel
theorem dX0_hasTower_5 : decode cX0_hasTower 5 = .ok (.aload_n 0, 1) := by decide +kernel
theorem dX0_hasTower_6 : decode cX0_hasTower 6 = .ok (.getfield 37, 3) := by decide +kernel
theorem dX0_hasTower_9 : decode cX0_hasTower 9 = .ok (.if_icmp .ge 7, 3) := by decide +kernel
theorem dX0_hasTower_12 : decode cX0_hasTower 12 = .ok (.iconst 1, 1) := by decide +kernel
theorem dX0_hasTower_13 : decode cX0_hasTower 13 = .ok (.goto 4, 3) := by decide +kernel
theorem dX0_hasTower_16 : decode cX0_hasTower 16 = .ok (.iconst 0, 1) := by decide +kernel
theorem dX0_hasTower_17 : decode cX0_hasTower 17 = .ok (.ireturn, 1) := by decide +kernel
theorem dX0_hasPlayer_0 : decode cX0_hasPlayer 0 = .ok (.iload_n 1, 1) := by decide +kernel
theorem dX0_hasPlayer_1 : decode cX0_hasPlayer 1 = .ok (.ifCond .lt 15, 3) := by decide +kernel
theorem dX0_hasPlayer_4 : decode cX0_hasPlayer 4 = .ok (.iload_n 1, 1) := by decide +kernel
theorem dX0_hasPlayer_5 : decode cX0_hasPlayer 5 = .ok (.aload_n 0, 1) := by decide +kernel
theorem dX0_hasPlayer_6 : decode cX0_hasPlayer 6 = .ok (.getfield 40, 3) := by decide +kernel
theorem dX0_hasPlayer_9 : decode cX0_hasPlayer 9 = .ok (.if_icmp .ge 7, 3) := by decide +kernel
theorem dX0_hasPlayer_12 : decode cX0_hasPlayer 12 = .ok (.iconst 1, 1) := by decide +kernel
theorem dX0_hasPlayer_13 : decode cX0_hasPlayer 13 = .ok (.goto 4, 3) := by decide +kernel
theorem dX0_hasPlayer_16 : decode cX0_hasPlayer 16 = .ok (.iconst 0, 1) := by decide +kernel
theorem dX0_hasPlayer_17 : decode cX0_hasPlayer 17 = .ok (.ireturn, 1) := by decide +kernel
theorem dX0_hasBoat_0 : decode cX0_hasBoat 0 = .ok (.iload_n 1, 1) := by decide +kernel
theorem dX0_hasBoat_1 : decode cX0_hasBoat 1 = .ok (.ifCond .lt 15, 3) := by decide +kernel
theorem dX0_hasBoat_4 : decode cX0_hasBoat 4 = .ok (.iload_n 1, 1) := by decide +kernel
theorem dX0_hasBoat_5 : decode cX0_hasBoat 5 = .ok (.aload_n 0, 1) := by decide +kernel
theorem dX0_hasBoat_6 : decode cX0_hasBoat 6 = .ok (.getfield 43, 3) := by decide +kernel
theorem dX0_hasBoat_9 : decode cX0_hasBoat 9 = .ok (.if_icmp .ge 7, 3) := by decide +kernel
theorem dX0_hasBoat_12 : decode cX0_hasBoat 12 = .ok (.iconst 1, 1) := by decide +kernel
theorem dX0_hasBoat_13 : decode cX0_hasBoat 13 = .ok (.goto 4, 3) := by decide +kernel
theorem dX0_hasBoat_16 : decode cX0_hasBoat 16 = .ok (.iconst 0, 1) := by decide +kernel
theorem dX0_hasBoat_17 : decode cX0_hasBoat 17 = .ok (.ireturn, 1) := by decide +kernel
theorem dX0_bears_0 : decode cX0_bears 0 = .ok (.iconst 0, 1) := by decide +kernel
theorem dX0_bears_1 : decode cX0_bears 1 = .ok (.iload_n 2, 1) := by decide +kernel
theorem dX0_bears_2 : decode cX0_bears 2 = .ok (.aload_n 0, 1) := by decide +kernel
theorem dX0_bears_3 : decode cX0_bears 3 = .ok (.getfield 18, 3) := by decide +kernel
theorem dX0_bears_6 : decode cX0_bears 6 = .ok (.iload_n 1, 1) := by decide +kernel
theorem dX0_bears_7 : decode cX0_bears 7 = .ok (.iaload, 1) := by decide +kernel
theorem dX0_bears_8 : decode cX0_bears 8 = .ok (.iload_n 3, 1) := by decide +kernel
theorem dX0_bears_9 : decode cX0_bears 9 = .ok (.aload_n 0, 1) := by decide +kernel
theorem dX0_bears_10 : decode cX0_bears 10 = .ok (.getfield 15, 3) := by decide +kernel
theorem dX0_bears_13 : decode cX0_bears 13 = .ok (.iload_n 1, 1) := by decide +kernel
theorem dX0_bears_14 : decode cX0_bears 14 = .ok (.iaload, 1) := by decide +kernel
theorem dX0_bears_15 : decode cX0_bears 15 = .ok (.isub, 1) := by decide +kernel
theorem dX0_bears_16 : decode cX0_bears 16 = .ok (.invokestatic 46, 3) := by decide +kernel
theorem dX0_bears_19 : decode cX0_bears 19 = .ok (.imul, 1) := by decide +kernel
theorem dX0_bears_20 : decode cX0_bears 20 = .ok (.isub, 1) := by decide +kernel
theorem dX0_bears_21 : decode cX0_bears 21 = .ok (.invokestatic 52, 3) := by decide +kernel
theorem dX0_bears_24 : decode cX0_bears 24 = .ok (.ireturn, 1) := by decide +kernel
theorem dX1_init_0 : decode cX1_init 0 = .ok (.aload_n 0, 1) := by decide +kernel
theorem dX1_init_1 : decode cX1_init 1 = .ok (.invokespecial 3, 3) := by decide +kernel
theorem dX1_init_4 : decode cX1_init 4 = .ok (.return_, 1) := by decide +kernel
theorem dX1_next_0 : decode cX1_next 0 = .ok (.aload_n 0, 1) := by decide +kernel
theorem dX1_next_1 : decode cX1_next 1 = .ok (.aload_n 0, 1) := by decide +kernel
theorem dX1_next_2 : decode cX1_next 2 = .ok (.getfield 9, 3) := by decide +kernel
theorem dX1_next_5 : decode cX1_next 5 = .ok (.i2l, 1) := by decide +kernel
theorem dX1_next_6 : decode cX1_next 6 = .ok (.ldc2_w 15, 3) := by decide +kernel
theorem dX1_next_9 : decode cX1_next 9 = .ok (.lmul, 1) := by decide +kernel
theorem dX1_next_10 : decode cX1_next 10 = .ok (.ldc2_w 17, 3) := by decide +kernel
theorem dX1_next_13 : decode cX1_next 13 = .ok (.ladd, 1) := by decide +kernel
theorem dX1_next_14 : decode cX1_next 14 = .ok (.ldc2_w 19, 3) := by decide +kernel
theorem dX1_next_17 : decode cX1_next 17 = .ok (.land, 1) := by decide +kernel
theorem dX1_next_18 : decode cX1_next 18 = .ok (.l2i, 1) := by decide +kernel
theorem dX1_next_19 : decode cX1_next 19 = .ok (.putfield 9, 3) := by decide +kernel
theorem dX1_next_22 : decode cX1_next 22 = .ok (.iload_n 1, 1) := by decide +kernel
theorem dX1_next_23 : decode cX1_next 23 = .ok (.ifCond .gt 7, 3) := by decide +kernel
theorem dX1_next_26 : decode cX1_next 26 = .ok (.iconst 0, 1) := by decide +kernel
theorem dX1_next_27 : decode cX1_next 27 = .ok (.goto 12, 3) := by decide +kernel
theorem dX1_next_30 : decode cX1_next 30 = .ok (.aload_n 0, 1) := by decide +kernel
theorem dX1_next_31 : decode cX1_next 31 = .ok (.getfield 9, 3) := by decide +kernel
theorem dX1_next_34 : decode cX1_next 34 = .ok (.ldc 21, 2) := by decide +kernel
theorem dX1_next_36 : decode cX1_next 36 = .ok (.idiv, 1) := by decide +kernel
theorem dX1_next_37 : decode cX1_next 37 = .ok (.iload_n 1, 1) := by decide +kernel
theorem dX1_next_38 : decode cX1_next 38 = .ok (.irem, 1) := by decide +kernel
theorem dX1_next_39 : decode cX1_next 39 = .ok (.ireturn, 1) := by decide +kernel
theorem dX1_stir_0 : decode cX1_stir 0 = .ok (.aload_n 1, 1) := by decide +kernel
theorem dX1_stir_1 : decode cX1_stir 1 = .ok (.getfield 22, 3) := by decide +kernel
theorem dX1_stir_4 : decode cX1_stir 4 = .ok (.ifCond .ne 4, 3) := by decide +kernel
theorem dX1_stir_7 : decode cX1_stir 7 = .ok (.return_, 1) := by decide +kernel
theorem dX1_stir_8 : decode cX1_stir 8 = .ok (.aload_n 0, 1) := by decide +kernel
theorem dX1_stir_9 : decode cX1_stir 9 = .ok (.aload_n 1, 1) := by decide +kernel
theorem dX1_stir_10 : decode cX1_stir 10 = .ok (.getfield 22, 3) := by decide +kernel
theorem dX1_stir_13 : decode cX1_stir 13 = .ok (.invokevirtual 27, 3) := by decide +kernel
theorem dX1_stir_16 : decode cX1_stir 16 = .ok (.istore_n 3, 1) := by decide +kernel
theorem dX1_stir_17 : decode cX1_stir 17 = .ok (.aload_n 0, 1) := by decide +kernel
theorem dX1_stir_18 : decode cX1_stir 18 = .ok (.bipush 6, 2) := by decide +kernel
theorem dX1_stir_20 : decode cX1_stir 20 = .ok (.invokevirtual 27, 3) := by decide +kernel
theorem dX1_stir_23 : decode cX1_stir 23 = .ok (.tableswitch 67 0 3 #[29, 38, 47, 57], 29) := by decide +kernel
theorem dX1_stir_52 : decode cX1_stir 52 = .ok (.aload_n 2, 1) := by decide +kernel
theorem dX1_stir_53 : decode cX1_stir 53 = .ok (.iload_n 3, 1) := by decide +kernel
theorem dX1_stir_54 : decode cX1_stir 54 = .ok (.iconst 1, 1) := by decide +kernel
theorem dX1_stir_55 : decode cX1_stir 55 = .ok (.invokevirtual 31, 3) := by decide +kernel
theorem dX1_stir_58 : decode cX1_stir 58 = .ok (.goto 32, 3) := by decide +kernel
theorem dX1_stir_61 : decode cX1_stir 61 = .ok (.aload_n 2, 1) := by decide +kernel
theorem dX1_stir_62 : decode cX1_stir 62 = .ok (.iload_n 3, 1) := by decide +kernel
theorem dX1_stir_63 : decode cX1_stir 63 = .ok (.iconst 0, 1) := by decide +kernel
theorem dX1_stir_64 : decode cX1_stir 64 = .ok (.invokevirtual 31, 3) := by decide +kernel
theorem dX1_stir_67 : decode cX1_stir 67 = .ok (.goto 23, 3) := by decide +kernel
theorem dX1_stir_70 : decode cX1_stir 70 = .ok (.aload_n 2, 1) := by decide +kernel
theorem dX1_stir_71 : decode cX1_stir 71 = .ok (.getfield 37, 3) := by decide +kernel
theorem dX1_stir_74 : decode cX1_stir 74 = .ok (.iload_n 3, 1) := by decide +kernel
theorem dX1_stir_75 : decode cX1_stir 75 = .ok (.iconst (-1), 1) := by decide +kernel
theorem dX1_stir_76 : decode cX1_stir 76 = .ok (.iastore, 1) := by decide +kernel
theorem dX1_stir_77 : decode cX1_stir 77 = .ok (.goto 13, 3) := by decide +kernel
theorem dX1_stir_80 : decode cX1_stir 80 = .ok (.aload_n 0, 1) := by decide +kernel
theorem dX1_stir_81 : decode cX1_stir 81 = .ok (.aload_n 1, 1) := by decide +kernel
theorem dX1_stir_82 : decode cX1_stir 82 = .ok (.aload_n 2, 1) := by decide +kernel
theorem dX1_stir_83 : decode cX1_stir 83 = .ok (.iload_n 3, 1) := by decide +kernel
theorem dX1_stir_84 : decode cX1_stir 84 = .ok (.invokevirtual 41, 3) := by decide +kernel
theorem dX1_stir_87 : decode cX1_stir 87 = .ok (.goto 3, 3) := by decide +kernel
theorem dX1_stir_90 : decode cX1_stir 90 = .ok (.return_, 1) := by decide +kernel
theorem dX1_sitByDraw_0 : decode cX1_sitByDraw 0 = .ok (.aload_n 1, 1) := by decide +kernel
theorem dX1_sitByDraw_1 : decode cX1_sitByDraw 1 = .ok (.getfield 45, 3) := by decide +kernel
theorem dX1_sitByDraw_4 : decode cX1_sitByDraw 4 = .ok (.ifCond .ne 4, 3) := by decide +kernel
theorem dX1_sitByDraw_7 : decode cX1_sitByDraw 7 = .ok (.return_, 1) := by decide +kernel
theorem dX1_sitByDraw_8 : decode cX1_sitByDraw 8 = .ok (.aload_n 0, 1) := by decide +kernel
theorem dX1_sitByDraw_9 : decode cX1_sitByDraw 9 = .ok (.aload_n 1, 1) := by decide +kernel
theorem dX1_sitByDraw_10 : decode cX1_sitByDraw 10 = .ok (.getfield 45, 3) := by decide +kernel
theorem dX1_sitByDraw_13 : decode cX1_sitByDraw 13 = .ok (.invokevirtual 27, 3) := by decide +kernel
theorem dX1_sitByDraw_16 : decode cX1_sitByDraw 16 = .ok (.istore 4, 2) := by decide +kernel
theorem dX1_sitByDraw_18 : decode cX1_sitByDraw 18 = .ok (.aload_n 2, 1) := by decide +kernel
theorem dX1_sitByDraw_19 : decode cX1_sitByDraw 19 = .ok (.aload_n 1, 1) := by decide +kernel
theorem dX1_sitByDraw_20 : decode cX1_sitByDraw 20 = .ok (.iload 4, 2) := by decide +kernel
theorem dX1_sitByDraw_22 : decode cX1_sitByDraw 22 = .ok (.invokevirtual 48, 3) := by decide +kernel
theorem dX1_sitByDraw_25 : decode cX1_sitByDraw 25 = .ok (.iconst (-1), 1) := by decide +kernel
theorem dX1_sitByDraw_26 : decode cX1_sitByDraw 26 = .ok (.if_icmp .ne 11, 3) := by decide +kernel
theorem dX1_sitByDraw_29 : decode cX1_sitByDraw 29 = .ok (.aload_n 2, 1) := by decide +kernel
theorem dX1_sitByDraw_30 : decode cX1_sitByDraw 30 = .ok (.getfield 37, 3) := by decide +kernel
theorem dX1_sitByDraw_33 : decode cX1_sitByDraw 33 = .ok (.iload_n 3, 1) := by decide +kernel
theorem dX1_sitByDraw_34 : decode cX1_sitByDraw 34 = .ok (.iload 4, 2) := by decide +kernel
theorem dX1_sitByDraw_36 : decode cX1_sitByDraw 36 = .ok (.iastore, 1) := by decide +kernel
theorem dX1_sitByDraw_37 : decode cX1_sitByDraw 37 = .ok (.return_, 1) := by decide +kernel
theorem dX2_init_0 : decode cX2_init 0 = .ok (.aload_n 0, 1) := by decide +kernel
theorem dX2_init_1 : decode cX2_init 1 = .ok (.invokespecial 1, 3) := by decide +kernel
theorem dX2_init_4 : decode cX2_init 4 = .ok (.aload_n 0, 1) := by decide +kernel
theorem dX2_init_5 : decode cX2_init 5 = .ok (.new 7, 3) := by decide +kernel
theorem dX2_init_8 : decode cX2_init 8 = .ok (.dup, 1) := by decide +kernel
theorem dX2_init_9 : decode cX2_init 9 = .ok (.invokespecial 9, 3) := by decide +kernel
theorem dX2_init_12 : decode cX2_init 12 = .ok (.putfield 10, 3) := by decide +kernel
theorem dX2_init_15 : decode cX2_init 15 = .ok (.return_, 1) := by decide +kernel
theorem dX3_init_0 : decode cX3_init 0 = .ok (.aload_n 0, 1) := by decide +kernel
theorem dX3_init_1 : decode cX3_init 1 = .ok (.invokespecial 3, 3) := by decide +kernel
theorem dX3_init_4 : decode cX3_init 4 = .ok (.aload_n 0, 1) := by decide +kernel
theorem dX3_init_5 : decode cX3_init 5 = .ok (.bipush 6, 2) := by decide +kernel
theorem dX3_init_7 : decode cX3_init 7 = .ok (.newarray .int, 2) := by decide +kernel
theorem dX3_init_9 : decode cX3_init 9 = .ok (.putfield 9, 3) := by decide +kernel
theorem dX3_init_12 : decode cX3_init 12 = .ok (.aload_n 0, 1) := by decide +kernel
theorem dX3_init_13 : decode cX3_init 13 = .ok (.bipush 6, 2) := by decide +kernel
theorem dX3_init_15 : decode cX3_init 15 = .ok (.newarray .int, 2) := by decide +kernel
theorem dX3_init_17 : decode cX3_init 17 = .ok (.putfield 15, 3) := by decide +kernel
theorem dX3_init_20 : decode cX3_init 20 = .ok (.aload_n 0, 1) := by decide +kernel
theorem dX3_init_21 : decode cX3_init 21 = .ok (.bipush 6, 2) := by decide +kernel
theorem dX3_init_23 : decode cX3_init 23 = .ok (.newarray .int, 2) := by decide +kernel
theorem dX3_init_25 : decode cX3_init 25 = .ok (.putfield 18, 3) := by decide +kernel
theorem dX3_init_28 : decode cX3_init 28 = .ok (.aload_n 0, 1) := by decide +kernel
theorem dX3_init_29 : decode cX3_init 29 = .ok (.bipush 6, 2) := by decide +kernel
theorem dX3_init_31 : decode cX3_init 31 = .ok (.newarray .int, 2) := by decide +kernel
theorem dX3_init_33 : decode cX3_init 33 = .ok (.putfield 21, 3) := by decide +kernel
theorem dX3_init_36 : decode cX3_init 36 = .ok (.aload_n 0, 1) := by decide +kernel
theorem dX3_init_37 : decode cX3_init 37 = .ok (.bipush 6, 2) := by decide +kernel
theorem dX3_init_39 : decode cX3_init 39 = .ok (.newarray .int, 2) := by decide +kernel
theorem dX3_init_41 : decode cX3_init 41 = .ok (.putfield 24, 3) := by decide +kernel
theorem dX3_init_44 : decode cX3_init 44 = .ok (.aload_n 0, 1) := by decide +kernel
theorem dX3_init_45 : decode cX3_init 45 = .ok (.bipush 6, 2) := by decide +kernel
theorem dX3_init_47 : decode cX3_init 47 = .ok (.newarray .int, 2) := by decide +kernel
theorem dX3_init_49 : decode cX3_init 49 = .ok (.putfield 27, 3) := by decide +kernel
theorem dX3_init_52 : decode cX3_init 52 = .ok (.aload_n 0, 1) := by decide +kernel
theorem dX3_init_53 : decode cX3_init 53 = .ok (.bipush 15, 2) := by decide +kernel
theorem dX3_init_55 : decode cX3_init 55 = .ok (.newarray .int, 2) := by decide +kernel
theorem dX3_init_57 : decode cX3_init 57 = .ok (.putfield 30, 3) := by decide +kernel
theorem dX3_init_60 : decode cX3_init 60 = .ok (.aload_n 0, 1) := by decide +kernel
theorem dX3_init_61 : decode cX3_init 61 = .ok (.bipush 15, 2) := by decide +kernel
theorem dX3_init_63 : decode cX3_init 63 = .ok (.newarray .int, 2) := by decide +kernel
theorem dX3_init_65 : decode cX3_init 65 = .ok (.putfield 33, 3) := by decide +kernel
theorem dX3_init_68 : decode cX3_init 68 = .ok (.return_, 1) := by decide +kernel
theorem dX3_clear_0 : decode cX3_clear 0 = .ok (.aload_n 0, 1) := by decide +kernel
theorem dX3_clear_1 : decode cX3_clear 1 = .ok (.iconst 0, 1) := by decide +kernel
theorem dX3_clear_2 : decode cX3_clear 2 = .ok (.putfield 36, 3) := by decide +kernel
theorem dX3_clear_5 : decode cX3_clear 5 = .ok (.aload_n 0, 1) := by decide +kernel
theorem dX3_clear_6 : decode cX3_clear 6 = .ok (.iconst 0, 1) := by decide +kernel
theorem dX3_clear_7 : decode cX3_clear 7 = .ok (.putfield 40, 3) := by decide +kernel
theorem dX3_clear_10 : decode cX3_clear 10 = .ok (.aload_n 0, 1) := by decide +kernel
theorem dX3_clear_11 : decode cX3_clear 11 = .ok (.iconst 0, 1) := by decide +kernel
theorem dX3_clear_12 : decode cX3_clear 12 = .ok (.putfield 43, 3) := by decide +kernel
theorem dX3_clear_15 : decode cX3_clear 15 = .ok (.return_, 1) := by decide +kernel
theorem dX3_addMark_0 : decode cX3_addMark 0 = .ok (.aload_n 0, 1) := by decide +kernel
theorem dX3_addMark_1 : decode cX3_addMark 1 = .ok (.getfield 36, 3) := by decide +kernel
theorem dX3_addMark_4 : decode cX3_addMark 4 = .ok (.bipush 6, 2) := by decide +kernel
theorem dX3_addMark_6 : decode cX3_addMark 6 = .ok (.if_icmp .lt 6, 3) := by decide +kernel
theorem dX3_addMark_9 : decode cX3_addMark 9 = .ok (.ldc 46, 2) := by decide +kernel
theorem dX3_addMark_11 : decode cX3_addMark 11 = .ok (.ireturn, 1) := by decide +kernel
theorem dX3_addMark_12 : decode cX3_addMark 12 = .ok (.aload_n 0, 1) := by decide +kernel
theorem dX3_addMark_13 : decode cX3_addMark 13 = .ok (.getfield 9, 3) := by decide +kernel
theorem dX3_addMark_16 : decode cX3_addMark 16 = .ok (.aload_n 0, 1) := by decide +kernel
theorem dX3_addMark_17 : decode cX3_addMark 17 = .ok (.getfield 36, 3) := by decide +kernel
theorem dX3_addMark_20 : decode cX3_addMark 20 = .ok (.iload_n 1, 1) := by decide +kernel
theorem dX3_addMark_21 : decode cX3_addMark 21 = .ok (.iastore, 1) := by decide +kernel
theorem dX3_addMark_22 : decode cX3_addMark 22 = .ok (.aload_n 0, 1) := by decide +kernel
theorem dX3_addMark_23 : decode cX3_addMark 23 = .ok (.getfield 15, 3) := by decide +kernel
theorem dX3_addMark_26 : decode cX3_addMark 26 = .ok (.aload_n 0, 1) := by decide +kernel
theorem dX3_addMark_27 : decode cX3_addMark 27 = .ok (.getfield 36, 3) := by decide +kernel
theorem dX3_addMark_30 : decode cX3_addMark 30 = .ok (.iload_n 2, 1) := by decide +kernel
theorem dX3_addMark_31 : decode cX3_addMark 31 = .ok (.iastore, 1) := by decide +kernel
theorem dX3_addMark_32 : decode cX3_addMark 32 = .ok (.aload_n 0, 1) := by decide +kernel
theorem dX3_addMark_33 : decode cX3_addMark 33 = .ok (.getfield 18, 3) := by decide +kernel
theorem dX3_addMark_36 : decode cX3_addMark 36 = .ok (.aload_n 0, 1) := by decide +kernel
theorem dX3_addMark_37 : decode cX3_addMark 37 = .ok (.getfield 36, 3) := by decide +kernel
theorem dX3_addMark_40 : decode cX3_addMark 40 = .ok (.iload_n 3, 1) := by decide +kernel
theorem dX3_addMark_41 : decode cX3_addMark 41 = .ok (.iastore, 1) := by decide +kernel
theorem dX3_addMark_42 : decode cX3_addMark 42 = .ok (.aload_n 0, 1) := by decide +kernel
theorem dX3_addMark_43 : decode cX3_addMark 43 = .ok (.dup, 1) := by decide +kernel
theorem dX3_addMark_44 : decode cX3_addMark 44 = .ok (.getfield 36, 3) := by decide +kernel
theorem dX3_addMark_47 : decode cX3_addMark 47 = .ok (.iconst 1, 1) := by decide +kernel
theorem dX3_addMark_48 : decode cX3_addMark 48 = .ok (.iadd, 1) := by decide +kernel
theorem dX3_addMark_49 : decode cX3_addMark 49 = .ok (.putfield 36, 3) := by decide +kernel
theorem dX3_addMark_52 : decode cX3_addMark 52 = .ok (.aload_n 0, 1) := by decide +kernel
theorem dX3_addMark_53 : decode cX3_addMark 53 = .ok (.getfield 36, 3) := by decide +kernel
theorem dX3_addMark_56 : decode cX3_addMark 56 = .ok (.ireturn, 1) := by decide +kernel
theorem dX3_addSeen_0 : decode cX3_addSeen 0 = .ok (.aload_n 0, 1) := by decide +kernel
theorem dX3_addSeen_1 : decode cX3_addSeen 1 = .ok (.getfield 40, 3) := by decide +kernel
theorem dX3_addSeen_4 : decode cX3_addSeen 4 = .ok (.bipush 6, 2) := by decide +kernel
theorem dX3_addSeen_6 : decode cX3_addSeen 6 = .ok (.if_icmp .lt 6, 3) := by decide +kernel
theorem dX3_addSeen_9 : decode cX3_addSeen 9 = .ok (.ldc 46, 2) := by decide +kernel
theorem dX3_addSeen_11 : decode cX3_addSeen 11 = .ok (.ireturn, 1) := by decide +kernel
theorem dX3_addSeen_12 : decode cX3_addSeen 12 = .ok (.aload_n 0, 1) := by decide +kernel
theorem dX3_addSeen_13 : decode cX3_addSeen 13 = .ok (.getfield 21, 3) := by decide +kernel
theorem dX3_addSeen_16 : decode cX3_addSeen 16 = .ok (.aload_n 0, 1) := by decide +kernel
theorem dX3_addSeen_17 : decode cX3_addSeen 17 = .ok (.getfield 40, 3) := by decide +kernel
theorem dX3_addSeen_20 : decode cX3_addSeen 20 = .ok (.iload_n 1, 1) := by decide +kernel
theorem dX3_addSeen_21 : decode cX3_addSeen 21 = .ok (.iastore, 1) := by decide +kernel
theorem dX3_addSeen_22 : decode cX3_addSeen 22 = .ok (.aload_n 0, 1) := by decide +kernel
theorem dX3_addSeen_23 : decode cX3_addSeen 23 = .ok (.getfield 24, 3) := by decide +kernel
theorem dX3_addSeen_26 : decode cX3_addSeen 26 = .ok (.aload_n 0, 1) := by decide +kernel
theorem dX3_addSeen_27 : decode cX3_addSeen 27 = .ok (.getfield 40, 3) := by decide +kernel
theorem dX3_addSeen_30 : decode cX3_addSeen 30 = .ok (.iload_n 2, 1) := by decide +kernel
theorem dX3_addSeen_31 : decode cX3_addSeen 31 = .ok (.iastore, 1) := by decide +kernel
theorem dX3_addSeen_32 : decode cX3_addSeen 32 = .ok (.aload_n 0, 1) := by decide +kernel
theorem dX3_addSeen_33 : decode cX3_addSeen 33 = .ok (.getfield 27, 3) := by decide +kernel
theorem dX3_addSeen_36 : decode cX3_addSeen 36 = .ok (.aload_n 0, 1) := by decide +kernel
theorem dX3_addSeen_37 : decode cX3_addSeen 37 = .ok (.getfield 40, 3) := by decide +kernel
theorem dX3_addSeen_40 : decode cX3_addSeen 40 = .ok (.iload_n 3, 1) := by decide +kernel
theorem dX3_addSeen_41 : decode cX3_addSeen 41 = .ok (.iastore, 1) := by decide +kernel
theorem dX3_addSeen_42 : decode cX3_addSeen 42 = .ok (.aload_n 0, 1) := by decide +kernel
theorem dX3_addSeen_43 : decode cX3_addSeen 43 = .ok (.dup, 1) := by decide +kernel
theorem dX3_addSeen_44 : decode cX3_addSeen 44 = .ok (.getfield 40, 3) := by decide +kernel
theorem dX3_addSeen_47 : decode cX3_addSeen 47 = .ok (.iconst 1, 1) := by decide +kernel
theorem dX3_addSeen_48 : decode cX3_addSeen 48 = .ok (.iadd, 1) := by decide +kernel
theorem dX3_addSeen_49 : decode cX3_addSeen 49 = .ok (.putfield 40, 3) := by decide +kernel
theorem dX3_addSeen_52 : decode cX3_addSeen 52 = .ok (.aload_n 0, 1) := by decide +kernel
theorem dX3_addSeen_53 : decode cX3_addSeen 53 = .ok (.getfield 40, 3) := by decide +kernel
theorem dX3_addSeen_56 : decode cX3_addSeen 56 = .ok (.ireturn, 1) := by decide +kernel
theorem dX3_addEntry_0 : decode cX3_addEntry 0 = .ok (.aload_n 0, 1) := by decide +kernel
theorem dX3_addEntry_1 : decode cX3_addEntry 1 = .ok (.getfield 43, 3) := by decide +kernel
theorem dX3_addEntry_4 : decode cX3_addEntry 4 = .ok (.bipush 15, 2) := by decide +kernel
theorem dX3_addEntry_6 : decode cX3_addEntry 6 = .ok (.if_icmp .lt 6, 3) := by decide +kernel
theorem dX3_addEntry_9 : decode cX3_addEntry 9 = .ok (.ldc 46, 2) := by decide +kernel
theorem dX3_addEntry_11 : decode cX3_addEntry 11 = .ok (.ireturn, 1) := by decide +kernel
theorem dX3_addEntry_12 : decode cX3_addEntry 12 = .ok (.aload_n 0, 1) := by decide +kernel
theorem dX3_addEntry_13 : decode cX3_addEntry 13 = .ok (.getfield 30, 3) := by decide +kernel
theorem dX3_addEntry_16 : decode cX3_addEntry 16 = .ok (.aload_n 0, 1) := by decide +kernel
theorem dX3_addEntry_17 : decode cX3_addEntry 17 = .ok (.getfield 43, 3) := by decide +kernel
theorem dX3_addEntry_20 : decode cX3_addEntry 20 = .ok (.iload_n 1, 1) := by decide +kernel
theorem dX3_addEntry_21 : decode cX3_addEntry 21 = .ok (.iastore, 1) := by decide +kernel
theorem dX3_addEntry_22 : decode cX3_addEntry 22 = .ok (.aload_n 0, 1) := by decide +kernel
theorem dX3_addEntry_23 : decode cX3_addEntry 23 = .ok (.getfield 33, 3) := by decide +kernel
theorem dX3_addEntry_26 : decode cX3_addEntry 26 = .ok (.aload_n 0, 1) := by decide +kernel
theorem dX3_addEntry_27 : decode cX3_addEntry 27 = .ok (.getfield 43, 3) := by decide +kernel
theorem dX3_addEntry_30 : decode cX3_addEntry 30 = .ok (.iload_n 2, 1) := by decide +kernel
theorem dX3_addEntry_31 : decode cX3_addEntry 31 = .ok (.iastore, 1) := by decide +kernel
theorem dX3_addEntry_32 : decode cX3_addEntry 32 = .ok (.aload_n 0, 1) := by decide +kernel
theorem dX3_addEntry_33 : decode cX3_addEntry 33 = .ok (.dup, 1) := by decide +kernel
theorem dX3_addEntry_34 : decode cX3_addEntry 34 = .ok (.getfield 43, 3) := by decide +kernel
theorem dX3_addEntry_37 : decode cX3_addEntry 37 = .ok (.iconst 1, 1) := by decide +kernel
theorem dX3_addEntry_38 : decode cX3_addEntry 38 = .ok (.iadd, 1) := by decide +kernel
theorem dX3_addEntry_39 : decode cX3_addEntry 39 = .ok (.putfield 43, 3) := by decide +kernel
theorem dX3_addEntry_42 : decode cX3_addEntry 42 = .ok (.aload_n 0, 1) := by decide +kernel
theorem dX3_addEntry_43 : decode cX3_addEntry 43 = .ok (.getfield 43, 3) := by decide +kernel
theorem dX3_addEntry_46 : decode cX3_addEntry 46 = .ok (.ireturn, 1) := by decide +kernel
theorem dX3_lastMark_0 : decode cX3_lastMark 0 = .ok (.iconst 0, 1) := by decide +kernel
theorem dX3_lastMark_1 : decode cX3_lastMark 1 = .ok (.istore_n 1, 1) := by decide +kernel
theorem dX3_lastMark_2 : decode cX3_lastMark 2 = .ok (.iconst 0, 1) := by decide +kernel
theorem dX3_lastMark_3 : decode cX3_lastMark 3 = .ok (.istore_n 2, 1) := by decide +kernel
theorem dX3_lastMark_4 : decode cX3_lastMark 4 = .ok (.iload_n 2, 1) := by decide +kernel
theorem dX3_lastMark_5 : decode cX3_lastMark 5 = .ok (.aload_n 0, 1) := by decide +kernel
theorem dX3_lastMark_6 : decode cX3_lastMark 6 = .ok (.getfield 36, 3) := by decide +kernel
theorem dX3_lastMark_9 : decode cX3_lastMark 9 = .ok (.if_icmp .ge 20, 3) := by decide +kernel
theorem dX3_lastMark_12 : decode cX3_lastMark 12 = .ok (.iload_n 1, 1) := by decide +kernel
theorem dX3_lastMark_13 : decode cX3_lastMark 13 = .ok (.aload_n 0, 1) := by decide +kernel
theorem dX3_lastMark_14 : decode cX3_lastMark 14 = .ok (.getfield 15, 3) := by decide +kernel
theorem dX3_lastMark_17 : decode cX3_lastMark 17 = .ok (.iload_n 2, 1) := by decide +kernel
theorem dX3_lastMark_18 : decode cX3_lastMark 18 = .ok (.iaload, 1) := by decide +kernel
theorem dX3_lastMark_19 : decode cX3_lastMark 19 = .ok (.invokestatic 47, 3) := by decide +kernel
theorem dX3_lastMark_22 : decode cX3_lastMark 22 = .ok (.istore_n 1, 1) := by decide +kernel
theorem dX3_lastMark_23 : decode cX3_lastMark 23 = .ok (.iinc 2 1, 3) := by decide +kernel
theorem dX3_lastMark_26 : decode cX3_lastMark 26 = .ok (.goto (-22), 3) := by decide +kernel
theorem dX3_lastMark_29 : decode cX3_lastMark 29 = .ok (.iload_n 1, 1) := by decide +kernel
theorem dX3_lastMark_30 : decode cX3_lastMark 30 = .ok (.ireturn, 1) := by decide +kernel
theorem dX3_marksAreSo_0 : decode cX3_marksAreSo 0 = .ok (.iconst 0, 1) := by decide +kernel
theorem dX3_marksAreSo_1 : decode cX3_marksAreSo 1 = .ok (.istore 4, 2) := by decide +kernel
theorem dX3_marksAreSo_3 : decode cX3_marksAreSo 3 = .ok (.iload 4, 2) := by decide +kernel
theorem dX3_marksAreSo_5 : decode cX3_marksAreSo 5 = .ok (.aload_n 0, 1) := by decide +kernel
theorem dX3_marksAreSo_6 : decode cX3_marksAreSo 6 = .ok (.getfield 36, 3) := by decide +kernel
theorem dX3_marksAreSo_9 : decode cX3_marksAreSo 9 = .ok (.if_icmp .ge 44, 3) := by decide +kernel
theorem dX3_marksAreSo_12 : decode cX3_marksAreSo 12 = .ok (.aload_n 0, 1) := by decide +kernel
theorem dX3_marksAreSo_13 : decode cX3_marksAreSo 13 = .ok (.getfield 15, 3) := by decide +kernel
theorem dX3_marksAreSo_16 : decode cX3_marksAreSo 16 = .ok (.iload 4, 2) := by decide +kernel
theorem dX3_marksAreSo_18 : decode cX3_marksAreSo 18 = .ok (.iaload, 1) := by decide +kernel
theorem dX3_marksAreSo_19 : decode cX3_marksAreSo 19 = .ok (.iload_n 1, 1) := by decide +kernel
theorem dX3_marksAreSo_20 : decode cX3_marksAreSo 20 = .ok (.if_icmp .ne 27, 3) := by decide +kernel
theorem dX3_marksAreSo_23 : decode cX3_marksAreSo 23 = .ok (.aload_n 3, 1) := by decide +kernel
theorem dX3_marksAreSo_24 : decode cX3_marksAreSo 24 = .ok (.aload_n 2, 1) := by decide +kernel
theorem dX3_marksAreSo_25 : decode cX3_marksAreSo 25 = .ok (.aload_n 0, 1) := by decide +kernel
theorem dX3_marksAreSo_26 : decode cX3_marksAreSo 26 = .ok (.getfield 9, 3) := by decide +kernel
theorem dX3_marksAreSo_29 : decode cX3_marksAreSo 29 = .ok (.iload 4, 2) := by decide +kernel
theorem dX3_marksAreSo_31 : decode cX3_marksAreSo 31 = .ok (.iaload, 1) := by decide +kernel
theorem dX3_marksAreSo_32 : decode cX3_marksAreSo 32 = .ok (.invokevirtual 53, 3) := by decide +kernel
theorem dX3_marksAreSo_35 : decode cX3_marksAreSo 35 = .ok (.aload_n 0, 1) := by decide +kernel
theorem dX3_marksAreSo_36 : decode cX3_marksAreSo 36 = .ok (.getfield 18, 3) := by decide +kernel
theorem dX3_marksAreSo_39 : decode cX3_marksAreSo 39 = .ok (.iload 4, 2) := by decide +kernel
theorem dX3_marksAreSo_41 : decode cX3_marksAreSo 41 = .ok (.iaload, 1) := by decide +kernel
theorem dX3_marksAreSo_42 : decode cX3_marksAreSo 42 = .ok (.if_icmp .eq 5, 3) := by decide +kernel
theorem dX3_marksAreSo_45 : decode cX3_marksAreSo 45 = .ok (.iconst 0, 1) := by decide +kernel
theorem dX3_marksAreSo_46 : decode cX3_marksAreSo 46 = .ok (.ireturn, 1) := by decide +kernel
theorem dX3_marksAreSo_47 : decode cX3_marksAreSo 47 = .ok (.iinc 4 1, 3) := by decide +kernel
theorem dX3_marksAreSo_50 : decode cX3_marksAreSo 50 = .ok (.goto (-47), 3) := by decide +kernel
theorem dX3_marksAreSo_53 : decode cX3_marksAreSo 53 = .ok (.iconst 1, 1) := by decide +kernel
theorem dX3_marksAreSo_54 : decode cX3_marksAreSo 54 = .ok (.ireturn, 1) := by decide +kernel
theorem dX3_guts_0 : decode cX3_guts 0 = .ok (.iconst 0, 1) := by decide +kernel
theorem dX3_guts_1 : decode cX3_guts 1 = .ok (.istore_n 1, 1) := by decide +kernel
theorem dX3_guts_2 : decode cX3_guts 2 = .ok (.iconst 1, 1) := by decide +kernel
theorem dX3_guts_3 : decode cX3_guts 3 = .ok (.istore_n 2, 1) := by decide +kernel
theorem dX3_guts_4 : decode cX3_guts 4 = .ok (.iload_n 2, 1) := by decide +kernel
theorem dX3_guts_5 : decode cX3_guts 5 = .ok (.bipush 20, 2) := by decide +kernel
theorem dX3_guts_7 : decode cX3_guts 7 = .ok (.if_icmp .gt 23, 3) := by decide +kernel
theorem dX3_guts_10 : decode cX3_guts 10 = .ok (.aload_n 0, 1) := by decide +kernel
theorem dX3_guts_11 : decode cX3_guts 11 = .ok (.iload_n 2, 1) := by decide +kernel
theorem dX3_guts_12 : decode cX3_guts 12 = .ok (.invokevirtual 59, 3) := by decide +kernel
theorem dX3_guts_15 : decode cX3_guts 15 = .ok (.ifCond .eq 9, 3) := by decide +kernel
theorem dX3_guts_18 : decode cX3_guts 18 = .ok (.iload_n 1, 1) := by decide +kernel
theorem dX3_guts_19 : decode cX3_guts 19 = .ok (.iconst 1, 1) := by decide +kernel
theorem dX3_guts_20 : decode cX3_guts 20 = .ok (.iload_n 2, 1) := by decide +kernel
theorem dX3_guts_21 : decode cX3_guts 21 = .ok (.ishl, 1) := by decide +kernel
theorem dX3_guts_22 : decode cX3_guts 22 = .ok (.ior, 1) := by decide +kernel
theorem dX3_guts_23 : decode cX3_guts 23 = .ok (.istore_n 1, 1) := by decide +kernel
theorem dX3_guts_24 : decode cX3_guts 24 = .ok (.iinc 2 1, 3) := by decide +kernel
theorem dX3_guts_27 : decode cX3_guts 27 = .ok (.goto (-23), 3) := by decide +kernel
theorem dX3_guts_30 : decode cX3_guts 30 = .ok (.iload_n 1, 1) := by decide +kernel
theorem dX3_guts_31 : decode cX3_guts 31 = .ok (.ireturn, 1) := by decide +kernel
theorem dX3_seenIsSo_0 : decode cX3_seenIsSo 0 = .ok (.iconst 0, 1) := by decide +kernel
theorem dX3_seenIsSo_1 : decode cX3_seenIsSo 1 = .ok (.istore_n 2, 1) := by decide +kernel
theorem dX3_seenIsSo_2 : decode cX3_seenIsSo 2 = .ok (.iload_n 2, 1) := by decide +kernel
theorem dX3_seenIsSo_3 : decode cX3_seenIsSo 3 = .ok (.aload_n 0, 1) := by decide +kernel
theorem dX3_seenIsSo_4 : decode cX3_seenIsSo 4 = .ok (.getfield 40, 3) := by decide +kernel
theorem dX3_seenIsSo_7 : decode cX3_seenIsSo 7 = .ok (.if_icmp .ge 39, 3) := by decide +kernel
theorem dX3_seenIsSo_10 : decode cX3_seenIsSo 10 = .ok (.iconst 0, 1) := by decide +kernel
theorem dX3_seenIsSo_11 : decode cX3_seenIsSo 11 = .ok (.aload_n 0, 1) := by decide +kernel
theorem dX3_seenIsSo_12 : decode cX3_seenIsSo 12 = .ok (.getfield 21, 3) := by decide +kernel
theorem dX3_seenIsSo_15 : decode cX3_seenIsSo 15 = .ok (.iload_n 2, 1) := by decide +kernel
theorem dX3_seenIsSo_16 : decode cX3_seenIsSo 16 = .ok (.iaload, 1) := by decide +kernel
theorem dX3_seenIsSo_17 : decode cX3_seenIsSo 17 = .ok (.iload_n 1, 1) := by decide +kernel
theorem dX3_seenIsSo_18 : decode cX3_seenIsSo 18 = .ok (.aload_n 0, 1) := by decide +kernel
theorem dX3_seenIsSo_19 : decode cX3_seenIsSo 19 = .ok (.getfield 24, 3) := by decide +kernel
theorem dX3_seenIsSo_22 : decode cX3_seenIsSo 22 = .ok (.iload_n 2, 1) := by decide +kernel
theorem dX3_seenIsSo_23 : decode cX3_seenIsSo 23 = .ok (.iaload, 1) := by decide +kernel
theorem dX3_seenIsSo_24 : decode cX3_seenIsSo 24 = .ok (.imul, 1) := by decide +kernel
theorem dX3_seenIsSo_25 : decode cX3_seenIsSo 25 = .ok (.isub, 1) := by decide +kernel
theorem dX3_seenIsSo_26 : decode cX3_seenIsSo 26 = .ok (.invokestatic 47, 3) := by decide +kernel
theorem dX3_seenIsSo_29 : decode cX3_seenIsSo 29 = .ok (.aload_n 0, 1) := by decide +kernel
theorem dX3_seenIsSo_30 : decode cX3_seenIsSo 30 = .ok (.getfield 27, 3) := by decide +kernel
theorem dX3_seenIsSo_33 : decode cX3_seenIsSo 33 = .ok (.iload_n 2, 1) := by decide +kernel
theorem dX3_seenIsSo_34 : decode cX3_seenIsSo 34 = .ok (.iaload, 1) := by decide +kernel
theorem dX3_seenIsSo_35 : decode cX3_seenIsSo 35 = .ok (.if_icmp .eq 5, 3) := by decide +kernel
theorem dX3_seenIsSo_38 : decode cX3_seenIsSo 38 = .ok (.iconst 0, 1) := by decide +kernel
theorem dX3_seenIsSo_39 : decode cX3_seenIsSo 39 = .ok (.ireturn, 1) := by decide +kernel
theorem dX3_seenIsSo_40 : decode cX3_seenIsSo 40 = .ok (.iinc 2 1, 3) := by decide +kernel
theorem dX3_seenIsSo_43 : decode cX3_seenIsSo 43 = .ok (.goto (-41), 3) := by decide +kernel
theorem dX3_seenIsSo_46 : decode cX3_seenIsSo 46 = .ok (.iconst 1, 1) := by decide +kernel
theorem dX3_seenIsSo_47 : decode cX3_seenIsSo 47 = .ok (.ireturn, 1) := by decide +kernel
theorem dX3_firstWrong_0 : decode cX3_firstWrong 0 = .ok (.iconst 0, 1) := by decide +kernel
theorem dX3_firstWrong_1 : decode cX3_firstWrong 1 = .ok (.istore_n 3, 1) := by decide +kernel
theorem dX3_firstWrong_2 : decode cX3_firstWrong 2 = .ok (.iload_n 3, 1) := by decide +kernel
theorem dX3_firstWrong_3 : decode cX3_firstWrong 3 = .ok (.aload_n 0, 1) := by decide +kernel
theorem dX3_firstWrong_4 : decode cX3_firstWrong 4 = .ok (.getfield 43, 3) := by decide +kernel
theorem dX3_firstWrong_7 : decode cX3_firstWrong 7 = .ok (.if_icmp .ge 31, 3) := by decide +kernel
theorem dX3_firstWrong_10 : decode cX3_firstWrong 10 = .ok (.aload_n 2, 1) := by decide +kernel
theorem dX3_firstWrong_11 : decode cX3_firstWrong 11 = .ok (.aload_n 1, 1) := by decide +kernel
theorem dX3_firstWrong_12 : decode cX3_firstWrong 12 = .ok (.aload_n 0, 1) := by decide +kernel
theorem dX3_firstWrong_13 : decode cX3_firstWrong 13 = .ok (.getfield 30, 3) := by decide +kernel
theorem dX3_firstWrong_16 : decode cX3_firstWrong 16 = .ok (.iload_n 3, 1) := by decide +kernel
theorem dX3_firstWrong_17 : decode cX3_firstWrong 17 = .ok (.iaload, 1) := by decide +kernel
theorem dX3_firstWrong_18 : decode cX3_firstWrong 18 = .ok (.invokevirtual 53, 3) := by decide +kernel
theorem dX3_firstWrong_21 : decode cX3_firstWrong 21 = .ok (.aload_n 0, 1) := by decide +kernel
theorem dX3_firstWrong_22 : decode cX3_firstWrong 22 = .ok (.getfield 33, 3) := by decide +kernel
theorem dX3_firstWrong_25 : decode cX3_firstWrong 25 = .ok (.iload_n 3, 1) := by decide +kernel
theorem dX3_firstWrong_26 : decode cX3_firstWrong 26 = .ok (.iaload, 1) := by decide +kernel
theorem dX3_firstWrong_27 : decode cX3_firstWrong 27 = .ok (.if_icmp .eq 5, 3) := by decide +kernel
theorem dX3_firstWrong_30 : decode cX3_firstWrong 30 = .ok (.iload_n 3, 1) := by decide +kernel
theorem dX3_firstWrong_31 : decode cX3_firstWrong 31 = .ok (.ireturn, 1) := by decide +kernel
theorem dX3_firstWrong_32 : decode cX3_firstWrong 32 = .ok (.iinc 3 1, 3) := by decide +kernel
theorem dX3_firstWrong_35 : decode cX3_firstWrong 35 = .ok (.goto (-33), 3) := by decide +kernel
theorem dX3_firstWrong_38 : decode cX3_firstWrong 38 = .ok (.iconst (-1), 1) := by decide +kernel
theorem dX3_firstWrong_39 : decode cX3_firstWrong 39 = .ok (.ireturn, 1) := by decide +kernel
theorem dX4_init_0 : decode cX4_init 0 = .ok (.aload_n 0, 1) := by decide +kernel
theorem dX4_init_1 : decode cX4_init 1 = .ok (.invokespecial 3, 3) := by decide +kernel
theorem dX4_init_4 : decode cX4_init 4 = .ok (.aload_n 0, 1) := by decide +kernel
theorem dX4_init_5 : decode cX4_init 5 = .ok (.bipush 16, 2) := by decide +kernel
theorem dX4_init_7 : decode cX4_init 7 = .ok (.anewarray 9, 3) := by decide +kernel
theorem dX4_init_10 : decode cX4_init 10 = .ok (.putfield 11, 3) := by decide +kernel
theorem dX4_init_13 : decode cX4_init 13 = .ok (.iconst 0, 1) := by decide +kernel
theorem dX4_init_14 : decode cX4_init 14 = .ok (.istore_n 1, 1) := by decide +kernel
theorem dX4_init_15 : decode cX4_init 15 = .ok (.iload_n 1, 1) := by decide +kernel
theorem dX4_init_16 : decode cX4_init 16 = .ok (.bipush 16, 2) := by decide +kernel
theorem dX4_init_18 : decode cX4_init 18 = .ok (.if_icmp .ge 22, 3) := by decide +kernel
theorem dX4_init_21 : decode cX4_init 21 = .ok (.aload_n 0, 1) := by decide +kernel
theorem dX4_init_22 : decode cX4_init 22 = .ok (.getfield 11, 3) := by decide +kernel
theorem dX4_init_25 : decode cX4_init 25 = .ok (.iload_n 1, 1) := by decide +kernel
theorem dX4_init_26 : decode cX4_init 26 = .ok (.new 9, 3) := by decide +kernel
theorem dX4_init_29 : decode cX4_init 29 = .ok (.dup, 1) := by decide +kernel
theorem dX4_init_30 : decode cX4_init 30 = .ok (.invokespecial 17, 3) := by decide +kernel
theorem dX4_init_33 : decode cX4_init 33 = .ok (.aastore, 1) := by decide +kernel
theorem dX4_init_34 : decode cX4_init 34 = .ok (.iinc 1 1, 3) := by decide +kernel
theorem dX4_init_37 : decode cX4_init 37 = .ok (.goto (-22), 3) := by decide +kernel
theorem dX4_init_40 : decode cX4_init 40 = .ok (.return_, 1) := by decide +kernel
theorem dX4_remember_0 : decode cX4_remember 0 = .ok (.aload_n 0, 1) := by decide +kernel
theorem dX4_remember_1 : decode cX4_remember 1 = .ok (.getfield 11, 3) := by decide +kernel
theorem dX4_remember_4 : decode cX4_remember 4 = .ok (.aload_n 0, 1) := by decide +kernel
theorem dX4_remember_5 : decode cX4_remember 5 = .ok (.getfield 18, 3) := by decide +kernel
theorem dX4_remember_8 : decode cX4_remember 8 = .ok (.aaload, 1) := by decide +kernel
theorem dX4_remember_9 : decode cX4_remember 9 = .ok (.aload_n 1, 1) := by decide +kernel
theorem dX4_remember_10 : decode cX4_remember 10 = .ok (.invokevirtual 22, 3) := by decide +kernel
theorem dX4_remember_13 : decode cX4_remember 13 = .ok (.aload_n 0, 1) := by decide +kernel
theorem dX4_remember_14 : decode cX4_remember 14 = .ok (.aload_n 0, 1) := by decide +kernel
theorem dX4_remember_15 : decode cX4_remember 15 = .ok (.getfield 18, 3) := by decide +kernel
theorem dX4_remember_18 : decode cX4_remember 18 = .ok (.iconst 1, 1) := by decide +kernel
theorem dX4_remember_19 : decode cX4_remember 19 = .ok (.iadd, 1) := by decide +kernel
theorem dX4_remember_20 : decode cX4_remember 20 = .ok (.bipush 16, 2) := by decide +kernel
theorem dX4_remember_22 : decode cX4_remember 22 = .ok (.irem, 1) := by decide +kernel
theorem dX4_remember_23 : decode cX4_remember 23 = .ok (.putfield 18, 3) := by decide +kernel
theorem dX4_remember_26 : decode cX4_remember 26 = .ok (.aload_n 0, 1) := by decide +kernel
theorem dX4_remember_27 : decode cX4_remember 27 = .ok (.bipush 16, 2) := by decide +kernel
theorem dX4_remember_29 : decode cX4_remember 29 = .ok (.aload_n 0, 1) := by decide +kernel
theorem dX4_remember_30 : decode cX4_remember 30 = .ok (.getfield 26, 3) := by decide +kernel
theorem dX4_remember_33 : decode cX4_remember 33 = .ok (.iconst 1, 1) := by decide +kernel
theorem dX4_remember_34 : decode cX4_remember 34 = .ok (.iadd, 1) := by decide +kernel
theorem dX4_remember_35 : decode cX4_remember 35 = .ok (.invokestatic 29, 3) := by decide +kernel
theorem dX4_remember_38 : decode cX4_remember 38 = .ok (.putfield 26, 3) := by decide +kernel
theorem dX4_remember_41 : decode cX4_remember 41 = .ok (.return_, 1) := by decide +kernel
theorem dX4_recall_0 : decode cX4_recall 0 = .ok (.aload_n 0, 1) := by decide +kernel
theorem dX4_recall_1 : decode cX4_recall 1 = .ok (.aload_n 0, 1) := by decide +kernel
theorem dX4_recall_2 : decode cX4_recall 2 = .ok (.getfield 18, 3) := by decide +kernel
theorem dX4_recall_5 : decode cX4_recall 5 = .ok (.bipush 16, 2) := by decide +kernel
theorem dX4_recall_7 : decode cX4_recall 7 = .ok (.iadd, 1) := by decide +kernel
theorem dX4_recall_8 : decode cX4_recall 8 = .ok (.iconst 1, 1) := by decide +kernel
theorem dX4_recall_9 : decode cX4_recall 9 = .ok (.isub, 1) := by decide +kernel
theorem dX4_recall_10 : decode cX4_recall 10 = .ok (.bipush 16, 2) := by decide +kernel
theorem dX4_recall_12 : decode cX4_recall 12 = .ok (.irem, 1) := by decide +kernel
theorem dX4_recall_13 : decode cX4_recall 13 = .ok (.putfield 18, 3) := by decide +kernel
theorem dX4_recall_16 : decode cX4_recall 16 = .ok (.aload_n 0, 1) := by decide +kernel
theorem dX4_recall_17 : decode cX4_recall 17 = .ok (.dup, 1) := by decide +kernel
theorem dX4_recall_18 : decode cX4_recall 18 = .ok (.getfield 26, 3) := by decide +kernel
theorem dX4_recall_21 : decode cX4_recall 21 = .ok (.iconst 1, 1) := by decide +kernel
theorem dX4_recall_22 : decode cX4_recall 22 = .ok (.isub, 1) := by decide +kernel
theorem dX4_recall_23 : decode cX4_recall 23 = .ok (.putfield 26, 3) := by decide +kernel
theorem dX4_recall_26 : decode cX4_recall 26 = .ok (.aload_n 1, 1) := by decide +kernel
theorem dX4_recall_27 : decode cX4_recall 27 = .ok (.aload_n 0, 1) := by decide +kernel
theorem dX4_recall_28 : decode cX4_recall 28 = .ok (.getfield 11, 3) := by decide +kernel
theorem dX4_recall_31 : decode cX4_recall 31 = .ok (.aload_n 0, 1) := by decide +kernel
theorem dX4_recall_32 : decode cX4_recall 32 = .ok (.getfield 18, 3) := by decide +kernel
theorem dX4_recall_35 : decode cX4_recall 35 = .ok (.aaload, 1) := by decide +kernel
theorem dX4_recall_36 : decode cX4_recall 36 = .ok (.invokevirtual 22, 3) := by decide +kernel
theorem dX4_recall_39 : decode cX4_recall 39 = .ok (.return_, 1) := by decide +kernel
theorem dX4_forget_0 : decode cX4_forget 0 = .ok (.aload_n 0, 1) := by decide +kernel
theorem dX4_forget_1 : decode cX4_forget 1 = .ok (.iconst 0, 1) := by decide +kernel
theorem dX4_forget_2 : decode cX4_forget 2 = .ok (.putfield 26, 3) := by decide +kernel
theorem dX4_forget_5 : decode cX4_forget 5 = .ok (.return_, 1) := by decide +kernel
theorem dX5_init_0 : decode cX5_init 0 = .ok (.aload_n 0, 1) := by decide +kernel
theorem dX5_init_1 : decode cX5_init 1 = .ok (.invokespecial 3, 3) := by decide +kernel
theorem dX5_init_4 : decode cX5_init 4 = .ok (.aload_n 0, 1) := by decide +kernel
theorem dX5_init_5 : decode cX5_init 5 = .ok (.bipush 6, 2) := by decide +kernel
theorem dX5_init_7 : decode cX5_init 7 = .ok (.newarray .int, 2) := by decide +kernel
theorem dX5_init_9 : decode cX5_init 9 = .ok (.putfield 9, 3) := by decide +kernel
theorem dX5_init_12 : decode cX5_init 12 = .ok (.aload_n 0, 1) := by decide +kernel
theorem dX5_init_13 : decode cX5_init 13 = .ok (.bipush 6, 2) := by decide +kernel
theorem dX5_init_15 : decode cX5_init 15 = .ok (.newarray .int, 2) := by decide +kernel
theorem dX5_init_17 : decode cX5_init 17 = .ok (.putfield 15, 3) := by decide +kernel
theorem dX5_init_20 : decode cX5_init 20 = .ok (.aload_n 0, 1) := by decide +kernel
theorem dX5_init_21 : decode cX5_init 21 = .ok (.bipush 6, 2) := by decide +kernel
theorem dX5_init_23 : decode cX5_init 23 = .ok (.bipush 6, 2) := by decide +kernel
theorem dX5_init_25 : decode cX5_init 25 = .ok (.multianewarray 18 2, 4) := by decide +kernel
theorem dX5_init_29 : decode cX5_init 29 = .ok (.putfield 20, 3) := by decide +kernel
theorem dX5_init_32 : decode cX5_init 32 = .ok (.aload_n 0, 1) := by decide +kernel
theorem dX5_init_33 : decode cX5_init 33 = .ok (.bipush 7, 2) := by decide +kernel
theorem dX5_init_35 : decode cX5_init 35 = .ok (.bipush 7, 2) := by decide +kernel
theorem dX5_init_37 : decode cX5_init 37 = .ok (.multianewarray 18 2, 4) := by decide +kernel
theorem dX5_init_41 : decode cX5_init 41 = .ok (.putfield 23, 3) := by decide +kernel
theorem dX5_init_44 : decode cX5_init 44 = .ok (.return_, 1) := by decide +kernel
theorem dX5_search_0 : decode cX5_search 0 = .ok (.aload_n 0, 1) := by decide +kernel
theorem dX5_search_1 : decode cX5_search 1 = .ok (.iload 4, 2) := by decide +kernel
theorem dX5_search_3 : decode cX5_search 3 = .ok (.ifCond .ne 7, 3) := by decide +kernel
theorem dX5_search_6 : decode cX5_search 6 = .ok (.iconst 0, 1) := by decide +kernel
theorem dX5_search_7 : decode cX5_search 7 = .ok (.goto 22, 3) := by decide +kernel
theorem dX5_search_10 : decode cX5_search 10 = .ok (.iload 4, 2) := by decide +kernel
theorem dX5_search_12 : decode cX5_search 12 = .ok (.aload_n 1, 1) := by decide +kernel
theorem dX5_search_13 : decode cX5_search 13 = .ok (.getfield 26, 3) := by decide +kernel
theorem dX5_search_16 : decode cX5_search 16 = .ok (.iload_n 3, 1) := by decide +kernel
theorem dX5_search_17 : decode cX5_search 17 = .ok (.iaload, 1) := by decide +kernel
theorem dX5_search_18 : decode cX5_search 18 = .ok (.iadd, 1) := by decide +kernel
theorem dX5_search_19 : decode cX5_search 19 = .ok (.aload_n 0, 1) := by decide +kernel
theorem dX5_search_20 : decode cX5_search 20 = .ok (.aload_n 1, 1) := by decide +kernel
theorem dX5_search_21 : decode cX5_search 21 = .ok (.aload_n 2, 1) := by decide +kernel
theorem dX5_search_22 : decode cX5_search 22 = .ok (.iload_n 3, 1) := by decide +kernel
theorem dX5_search_23 : decode cX5_search 23 = .ok (.iload 5, 2) := by decide +kernel
theorem dX5_search_25 : decode cX5_search 25 = .ok (.invokevirtual 31, 3) := by decide +kernel
theorem dX5_search_28 : decode cX5_search 28 = .ok (.isub, 1) := by decide +kernel
theorem dX5_search_29 : decode cX5_search 29 = .ok (.putfield 35, 3) := by decide +kernel
theorem dX5_search_32 : decode cX5_search 32 = .ok (.aload_n 0, 1) := by decide +kernel
theorem dX5_search_33 : decode cX5_search 33 = .ok (.aload_n 1, 1) := by decide +kernel
theorem dX5_search_34 : decode cX5_search 34 = .ok (.aload_n 2, 1) := by decide +kernel
theorem dX5_search_35 : decode cX5_search 35 = .ok (.iload_n 3, 1) := by decide +kernel
theorem dX5_search_36 : decode cX5_search 36 = .ok (.iload 5, 2) := by decide +kernel
theorem dX5_search_38 : decode cX5_search 38 = .ok (.invokevirtual 39, 3) := by decide +kernel
theorem dX5_search_41 : decode cX5_search 41 = .ok (.aload_n 0, 1) := by decide +kernel
theorem dX5_search_42 : decode cX5_search 42 = .ok (.bipush 55, 2) := by decide +kernel
theorem dX5_search_44 : decode cX5_search 44 = .ok (.putfield 43, 3) := by decide +kernel
theorem dX5_search_47 : decode cX5_search 47 = .ok (.aload_n 1, 1) := by decide +kernel
theorem dX5_search_48 : decode cX5_search 48 = .ok (.getfield 46, 3) := by decide +kernel
theorem dX5_search_51 : decode cX5_search 51 = .ok (.aload_n 1, 1) := by decide +kernel
theorem dX5_search_52 : decode cX5_search 52 = .ok (.getfield 49, 3) := by decide +kernel
theorem dX5_search_55 : decode cX5_search 55 = .ok (.invokestatic 52, 3) := by decide +kernel
theorem dX5_search_58 : decode cX5_search 58 = .ok (.istore 6, 2) := by decide +kernel
theorem dX5_search_60 : decode cX5_search 60 = .ok (.iconst 0, 1) := by decide +kernel
theorem dX5_search_61 : decode cX5_search 61 = .ok (.istore 7, 2) := by decide +kernel
theorem dX5_search_63 : decode cX5_search 63 = .ok (.iload 7, 2) := by decide +kernel
theorem dX5_search_65 : decode cX5_search 65 = .ok (.iload 6, 2) := by decide +kernel
theorem dX5_search_67 : decode cX5_search 67 = .ok (.if_icmp .gt 32, 3) := by decide +kernel
theorem dX5_search_70 : decode cX5_search 70 = .ok (.aload_n 0, 1) := by decide +kernel
theorem dX5_search_71 : decode cX5_search 71 = .ok (.aload_n 1, 1) := by decide +kernel
theorem dX5_search_72 : decode cX5_search 72 = .ok (.iconst 0, 1) := by decide +kernel
theorem dX5_search_73 : decode cX5_search 73 = .ok (.iconst 0, 1) := by decide +kernel
theorem dX5_search_74 : decode cX5_search 74 = .ok (.iload 7, 2) := by decide +kernel
theorem dX5_search_76 : decode cX5_search 76 = .ok (.iconst 0, 1) := by decide +kernel
theorem dX5_search_77 : decode cX5_search 77 = .ok (.iconst 0, 1) := by decide +kernel
theorem dX5_search_78 : decode cX5_search 78 = .ok (.invokestatic 58, 3) := by decide +kernel
theorem dX5_search_81 : decode cX5_search 81 = .ok (.aload_n 0, 1) := by decide +kernel
theorem dX5_search_82 : decode cX5_search 82 = .ok (.getfield 43, 3) := by decide +kernel
theorem dX5_search_85 : decode cX5_search 85 = .ok (.bipush 55, 2) := by decide +kernel
theorem dX5_search_87 : decode cX5_search 87 = .ok (.if_icmp .eq 6, 3) := by decide +kernel
theorem dX5_search_90 : decode cX5_search 90 = .ok (.iload 7, 2) := by decide +kernel
theorem dX5_search_92 : decode cX5_search 92 = .ok (.ireturn, 1) := by decide +kernel
theorem dX5_search_93 : decode cX5_search 93 = .ok (.iinc 7 1, 3) := by decide +kernel
theorem dX5_search_96 : decode cX5_search 96 = .ok (.goto (-33), 3) := by decide +kernel
theorem dX5_search_99 : decode cX5_search 99 = .ok (.iconst (-1), 1) := by decide +kernel
theorem dX5_search_100 : decode cX5_search 100 = .ok (.ireturn, 1) := by decide +kernel
theorem dX5_seaIfAllRest_0 : decode cX5_seaIfAllRest 0 = .ok (.iconst 0, 1) := by decide +kernel
theorem dX5_seaIfAllRest_1 : decode cX5_seaIfAllRest 1 = .ok (.istore 5, 2) := by decide +kernel
theorem dX5_seaIfAllRest_3 : decode cX5_seaIfAllRest 3 = .ok (.iconst 0, 1) := by decide +kernel
theorem dX5_seaIfAllRest_4 : decode cX5_seaIfAllRest 4 = .ok (.istore 6, 2) := by decide +kernel
theorem dX5_seaIfAllRest_6 : decode cX5_seaIfAllRest 6 = .ok (.iload 6, 2) := by decide +kernel
theorem dX5_seaIfAllRest_8 : decode cX5_seaIfAllRest 8 = .ok (.aload_n 1, 1) := by decide +kernel
theorem dX5_seaIfAllRest_9 : decode cX5_seaIfAllRest 9 = .ok (.getfield 49, 3) := by decide +kernel
theorem dX5_seaIfAllRest_12 : decode cX5_seaIfAllRest 12 = .ok (.if_icmp .ge 33, 3) := by decide +kernel
theorem dX5_seaIfAllRest_15 : decode cX5_seaIfAllRest 15 = .ok (.iload 5, 2) := by decide +kernel
theorem dX5_seaIfAllRest_17 : decode cX5_seaIfAllRest 17 = .ok (.aload_n 1, 1) := by decide +kernel
theorem dX5_seaIfAllRest_18 : decode cX5_seaIfAllRest 18 = .ok (.iload 6, 2) := by decide +kernel
theorem dX5_seaIfAllRest_20 : decode cX5_seaIfAllRest 20 = .ok (.aload_n 2, 1) := by decide +kernel
theorem dX5_seaIfAllRest_21 : decode cX5_seaIfAllRest 21 = .ok (.getfield 62, 3) := by decide +kernel
theorem dX5_seaIfAllRest_24 : decode cX5_seaIfAllRest 24 = .ok (.iload 6, 2) := by decide +kernel
theorem dX5_seaIfAllRest_26 : decode cX5_seaIfAllRest 26 = .ok (.iaload, 1) := by decide +kernel
theorem dX5_seaIfAllRest_27 : decode cX5_seaIfAllRest 27 = .ok (.iload 4, 2) := by decide +kernel
theorem dX5_seaIfAllRest_29 : decode cX5_seaIfAllRest 29 = .ok (.invokestatic 67, 3) := by decide +kernel
theorem dX5_seaIfAllRest_32 : decode cX5_seaIfAllRest 32 = .ok (.iload_n 3, 1) := by decide +kernel
theorem dX5_seaIfAllRest_33 : decode cX5_seaIfAllRest 33 = .ok (.invokevirtual 70, 3) := by decide +kernel
theorem dX5_seaIfAllRest_36 : decode cX5_seaIfAllRest 36 = .ok (.iadd, 1) := by decide +kernel
theorem dX5_seaIfAllRest_37 : decode cX5_seaIfAllRest 37 = .ok (.istore 5, 2) := by decide +kernel
theorem dX5_seaIfAllRest_39 : decode cX5_seaIfAllRest 39 = .ok (.iinc 6 1, 3) := by decide +kernel
theorem dX5_seaIfAllRest_42 : decode cX5_seaIfAllRest 42 = .ok (.goto (-36), 3) := by decide +kernel
theorem dX5_seaIfAllRest_45 : decode cX5_seaIfAllRest 45 = .ok (.iload 5, 2) := by decide +kernel
theorem dX5_seaIfAllRest_47 : decode cX5_seaIfAllRest 47 = .ok (.ireturn, 1) := by decide +kernel
theorem dX5_letDown_0 : decode cX5_letDown 0 = .ok (.iconst 0, 1) := by decide +kernel
theorem dX5_letDown_1 : decode cX5_letDown 1 = .ok (.iload_n 0, 1) := by decide +kernel
theorem dX5_letDown_2 : decode cX5_letDown 2 = .ok (.iconst 3, 1) := by decide +kernel
theorem dX5_letDown_3 : decode cX5_letDown 3 = .ok (.iload_n 1, 1) := by decide +kernel
theorem dX5_letDown_4 : decode cX5_letDown 4 = .ok (.imul, 1) := by decide +kernel
theorem dX5_letDown_5 : decode cX5_letDown 5 = .ok (.isub, 1) := by decide +kernel
theorem dX5_letDown_6 : decode cX5_letDown 6 = .ok (.invokestatic 74, 3) := by decide +kernel
theorem dX5_letDown_9 : decode cX5_letDown 9 = .ok (.ireturn, 1) := by decide +kernel
theorem dX5_noteGains_0 : decode cX5_noteGains 0 = .ok (.aload_n 0, 1) := by decide +kernel
theorem dX5_noteGains_1 : decode cX5_noteGains 1 = .ok (.getfield 23, 3) := by decide +kernel
theorem dX5_noteGains_4 : decode cX5_noteGains 4 = .ok (.aload_n 1, 1) := by decide +kernel
theorem dX5_noteGains_5 : decode cX5_noteGains 5 = .ok (.getfield 46, 3) := by decide +kernel
theorem dX5_noteGains_8 : decode cX5_noteGains 8 = .ok (.aaload, 1) := by decide +kernel
theorem dX5_noteGains_9 : decode cX5_noteGains 9 = .ok (.iconst 0, 1) := by decide +kernel
theorem dX5_noteGains_10 : decode cX5_noteGains 10 = .ok (.invokestatic 77, 3) := by decide +kernel
theorem dX5_noteGains_13 : decode cX5_noteGains 13 = .ok (.aload_n 1, 1) := by decide +kernel
theorem dX5_noteGains_14 : decode cX5_noteGains 14 = .ok (.getfield 46, 3) := by decide +kernel
theorem dX5_noteGains_17 : decode cX5_noteGains 17 = .ok (.iconst 1, 1) := by decide +kernel
theorem dX5_noteGains_18 : decode cX5_noteGains 18 = .ok (.isub, 1) := by decide +kernel
theorem dX5_noteGains_19 : decode cX5_noteGains 19 = .ok (.istore 5, 2) := by decide +kernel
theorem dX5_noteGains_21 : decode cX5_noteGains 21 = .ok (.iload 5, 2) := by decide +kernel
theorem dX5_noteGains_23 : decode cX5_noteGains 23 = .ok (.ifCond .lt 107, 3) := by decide +kernel
theorem dX5_noteGains_26 : decode cX5_noteGains 26 = .ok (.iconst 0, 1) := by decide +kernel
theorem dX5_noteGains_27 : decode cX5_noteGains 27 = .ok (.istore 6, 2) := by decide +kernel
theorem dX5_noteGains_29 : decode cX5_noteGains 29 = .ok (.iconst 0, 1) := by decide +kernel
theorem dX5_noteGains_30 : decode cX5_noteGains 30 = .ok (.istore 7, 2) := by decide +kernel
theorem dX5_noteGains_32 : decode cX5_noteGains 32 = .ok (.iload 7, 2) := by decide +kernel
theorem dX5_noteGains_34 : decode cX5_noteGains 34 = .ok (.aload_n 1, 1) := by decide +kernel
theorem dX5_noteGains_35 : decode cX5_noteGains 35 = .ok (.getfield 49, 3) := by decide +kernel
theorem dX5_noteGains_38 : decode cX5_noteGains 38 = .ok (.if_icmp .ge 78, 3) := by decide +kernel
theorem dX5_noteGains_41 : decode cX5_noteGains 41 = .ok (.aload_n 1, 1) := by decide +kernel
theorem dX5_noteGains_42 : decode cX5_noteGains 42 = .ok (.iload 7, 2) := by decide +kernel
theorem dX5_noteGains_44 : decode cX5_noteGains 44 = .ok (.aload_n 2, 1) := by decide +kernel
theorem dX5_noteGains_45 : decode cX5_noteGains 45 = .ok (.getfield 62, 3) := by decide +kernel
theorem dX5_noteGains_48 : decode cX5_noteGains 48 = .ok (.iload 7, 2) := by decide +kernel
theorem dX5_noteGains_50 : decode cX5_noteGains 50 = .ok (.iaload, 1) := by decide +kernel
theorem dX5_noteGains_51 : decode cX5_noteGains 51 = .ok (.iload 4, 2) := by decide +kernel
theorem dX5_noteGains_53 : decode cX5_noteGains 53 = .ok (.invokestatic 67, 3) := by decide +kernel
theorem dX5_noteGains_56 : decode cX5_noteGains 56 = .ok (.iload_n 3, 1) := by decide +kernel
theorem dX5_noteGains_57 : decode cX5_noteGains 57 = .ok (.invokevirtual 70, 3) := by decide +kernel
theorem dX5_noteGains_60 : decode cX5_noteGains 60 = .ok (.istore 8, 2) := by decide +kernel
theorem dX5_noteGains_62 : decode cX5_noteGains 62 = .ok (.aload_n 0, 1) := by decide +kernel
theorem dX5_noteGains_63 : decode cX5_noteGains 63 = .ok (.getfield 20, 3) := by decide +kernel
theorem dX5_noteGains_66 : decode cX5_noteGains 66 = .ok (.iload 5, 2) := by decide +kernel
theorem dX5_noteGains_68 : decode cX5_noteGains 68 = .ok (.aaload, 1) := by decide +kernel
theorem dX5_noteGains_69 : decode cX5_noteGains 69 = .ok (.iload 7, 2) := by decide +kernel
theorem dX5_noteGains_71 : decode cX5_noteGains 71 = .ok (.aload_n 1, 1) := by decide +kernel
theorem dX5_noteGains_72 : decode cX5_noteGains 72 = .ok (.iload 7, 2) := by decide +kernel
theorem dX5_noteGains_74 : decode cX5_noteGains 74 = .ok (.aload_n 1, 1) := by decide +kernel
theorem dX5_noteGains_75 : decode cX5_noteGains 75 = .ok (.aload_n 2, 1) := by decide +kernel
theorem dX5_noteGains_76 : decode cX5_noteGains 76 = .ok (.iload 5, 2) := by decide +kernel
theorem dX5_noteGains_78 : decode cX5_noteGains 78 = .ok (.iload 7, 2) := by decide +kernel
theorem dX5_noteGains_80 : decode cX5_noteGains 80 = .ok (.iload 4, 2) := by decide +kernel
theorem dX5_noteGains_82 : decode cX5_noteGains 82 = .ok (.invokestatic 83, 3) := by decide +kernel
theorem dX5_noteGains_85 : decode cX5_noteGains 85 = .ok (.iload_n 3, 1) := by decide +kernel
theorem dX5_noteGains_86 : decode cX5_noteGains 86 = .ok (.invokevirtual 70, 3) := by decide +kernel
theorem dX5_noteGains_89 : decode cX5_noteGains 89 = .ok (.iload 8, 2) := by decide +kernel
theorem dX5_noteGains_91 : decode cX5_noteGains 91 = .ok (.isub, 1) := by decide +kernel
theorem dX5_noteGains_92 : decode cX5_noteGains 92 = .ok (.iastore, 1) := by decide +kernel
theorem dX5_noteGains_93 : decode cX5_noteGains 93 = .ok (.iload 6, 2) := by decide +kernel
theorem dX5_noteGains_95 : decode cX5_noteGains 95 = .ok (.aload_n 0, 1) := by decide +kernel
theorem dX5_noteGains_96 : decode cX5_noteGains 96 = .ok (.getfield 20, 3) := by decide +kernel
theorem dX5_noteGains_99 : decode cX5_noteGains 99 = .ok (.iload 5, 2) := by decide +kernel
theorem dX5_noteGains_101 : decode cX5_noteGains 101 = .ok (.aaload, 1) := by decide +kernel
theorem dX5_noteGains_102 : decode cX5_noteGains 102 = .ok (.iload 7, 2) := by decide +kernel
theorem dX5_noteGains_104 : decode cX5_noteGains 104 = .ok (.iaload, 1) := by decide +kernel
theorem dX5_noteGains_105 : decode cX5_noteGains 105 = .ok (.invokestatic 74, 3) := by decide +kernel
theorem dX5_noteGains_108 : decode cX5_noteGains 108 = .ok (.istore 6, 2) := by decide +kernel
theorem dX5_noteGains_110 : decode cX5_noteGains 110 = .ok (.iinc 7 1, 3) := by decide +kernel
theorem dX5_noteGains_113 : decode cX5_noteGains 113 = .ok (.goto (-81), 3) := by decide +kernel
theorem dX5_noteGains_116 : decode cX5_noteGains 116 = .ok (.aload_n 0, 1) := by decide +kernel
theorem dX5_noteGains_117 : decode cX5_noteGains 117 = .ok (.iload 5, 2) := by decide +kernel
theorem dX5_noteGains_119 : decode cX5_noteGains 119 = .ok (.iload 6, 2) := by decide +kernel
theorem dX5_noteGains_121 : decode cX5_noteGains 121 = .ok (.invokevirtual 87, 3) := by decide +kernel
theorem dX5_noteGains_124 : decode cX5_noteGains 124 = .ok (.iinc 5 (-1), 3) := by decide +kernel
theorem dX5_noteGains_127 : decode cX5_noteGains 127 = .ok (.goto (-106), 3) := by decide +kernel
theorem dX5_noteGains_130 : decode cX5_noteGains 130 = .ok (.return_, 1) := by decide +kernel
theorem dX5_noteMostGain_0 : decode cX5_noteMostGain 0 = .ok (.aload_n 0, 1) := by decide +kernel
theorem dX5_noteMostGain_1 : decode cX5_noteMostGain 1 = .ok (.getfield 23, 3) := by decide +kernel
theorem dX5_noteMostGain_4 : decode cX5_noteMostGain 4 = .ok (.iload_n 1, 1) := by decide +kernel
theorem dX5_noteMostGain_5 : decode cX5_noteMostGain 5 = .ok (.aaload, 1) := by decide +kernel
theorem dX5_noteMostGain_6 : decode cX5_noteMostGain 6 = .ok (.iconst 0, 1) := by decide +kernel
theorem dX5_noteMostGain_7 : decode cX5_noteMostGain 7 = .ok (.iconst 0, 1) := by decide +kernel
theorem dX5_noteMostGain_8 : decode cX5_noteMostGain 8 = .ok (.iastore, 1) := by decide +kernel
theorem dX5_noteMostGain_9 : decode cX5_noteMostGain 9 = .ok (.iconst 1, 1) := by decide +kernel
theorem dX5_noteMostGain_10 : decode cX5_noteMostGain 10 = .ok (.istore_n 3, 1) := by decide +kernel
theorem dX5_noteMostGain_11 : decode cX5_noteMostGain 11 = .ok (.iload_n 3, 1) := by decide +kernel
theorem dX5_noteMostGain_12 : decode cX5_noteMostGain 12 = .ok (.bipush 6, 2) := by decide +kernel
theorem dX5_noteMostGain_14 : decode cX5_noteMostGain 14 = .ok (.if_icmp .gt 44, 3) := by decide +kernel
theorem dX5_noteMostGain_17 : decode cX5_noteMostGain 17 = .ok (.aload_n 0, 1) := by decide +kernel
theorem dX5_noteMostGain_18 : decode cX5_noteMostGain 18 = .ok (.getfield 23, 3) := by decide +kernel
theorem dX5_noteMostGain_21 : decode cX5_noteMostGain 21 = .ok (.iload_n 1, 1) := by decide +kernel
theorem dX5_noteMostGain_22 : decode cX5_noteMostGain 22 = .ok (.aaload, 1) := by decide +kernel
theorem dX5_noteMostGain_23 : decode cX5_noteMostGain 23 = .ok (.iload_n 3, 1) := by decide +kernel
theorem dX5_noteMostGain_24 : decode cX5_noteMostGain 24 = .ok (.aload_n 0, 1) := by decide +kernel
theorem dX5_noteMostGain_25 : decode cX5_noteMostGain 25 = .ok (.getfield 23, 3) := by decide +kernel
theorem dX5_noteMostGain_28 : decode cX5_noteMostGain 28 = .ok (.iload_n 1, 1) := by decide +kernel
theorem dX5_noteMostGain_29 : decode cX5_noteMostGain 29 = .ok (.iconst 1, 1) := by decide +kernel
theorem dX5_noteMostGain_30 : decode cX5_noteMostGain 30 = .ok (.iadd, 1) := by decide +kernel
theorem dX5_noteMostGain_31 : decode cX5_noteMostGain 31 = .ok (.aaload, 1) := by decide +kernel
theorem dX5_noteMostGain_32 : decode cX5_noteMostGain 32 = .ok (.iload_n 3, 1) := by decide +kernel
theorem dX5_noteMostGain_33 : decode cX5_noteMostGain 33 = .ok (.iaload, 1) := by decide +kernel
theorem dX5_noteMostGain_34 : decode cX5_noteMostGain 34 = .ok (.aload_n 0, 1) := by decide +kernel
theorem dX5_noteMostGain_35 : decode cX5_noteMostGain 35 = .ok (.getfield 23, 3) := by decide +kernel
theorem dX5_noteMostGain_38 : decode cX5_noteMostGain 38 = .ok (.iload_n 1, 1) := by decide +kernel
theorem dX5_noteMostGain_39 : decode cX5_noteMostGain 39 = .ok (.iconst 1, 1) := by decide +kernel
theorem dX5_noteMostGain_40 : decode cX5_noteMostGain 40 = .ok (.iadd, 1) := by decide +kernel
theorem dX5_noteMostGain_41 : decode cX5_noteMostGain 41 = .ok (.aaload, 1) := by decide +kernel
theorem dX5_noteMostGain_42 : decode cX5_noteMostGain 42 = .ok (.iload_n 3, 1) := by decide +kernel
theorem dX5_noteMostGain_43 : decode cX5_noteMostGain 43 = .ok (.iconst 1, 1) := by decide +kernel
theorem dX5_noteMostGain_44 : decode cX5_noteMostGain 44 = .ok (.isub, 1) := by decide +kernel
theorem dX5_noteMostGain_45 : decode cX5_noteMostGain 45 = .ok (.iaload, 1) := by decide +kernel
theorem dX5_noteMostGain_46 : decode cX5_noteMostGain 46 = .ok (.iload_n 2, 1) := by decide +kernel
theorem dX5_noteMostGain_47 : decode cX5_noteMostGain 47 = .ok (.iadd, 1) := by decide +kernel
theorem dX5_noteMostGain_48 : decode cX5_noteMostGain 48 = .ok (.invokestatic 74, 3) := by decide +kernel
theorem dX5_noteMostGain_51 : decode cX5_noteMostGain 51 = .ok (.iastore, 1) := by decide +kernel
theorem dX5_noteMostGain_52 : decode cX5_noteMostGain 52 = .ok (.iinc 3 1, 3) := by decide +kernel
theorem dX5_noteMostGain_55 : decode cX5_noteMostGain 55 = .ok (.goto (-44), 3) := by decide +kernel
theorem dX5_noteMostGain_58 : decode cX5_noteMostGain 58 = .ok (.return_, 1) := by decide +kernel
theorem dX5_woundBy_0 : decode cX5_woundBy 0 = .ok (.aload_n 1, 1) := by decide +kernel
theorem dX5_woundBy_1 : decode cX5_woundBy 1 = .ok (.iload_n 2, 1) := by decide +kernel
theorem dX5_woundBy_2 : decode cX5_woundBy 2 = .ok (.invokevirtual 91, 3) := by decide +kernel
theorem dX5_woundBy_5 : decode cX5_woundBy 5 = .ok (.ifCond .eq 15, 3) := by decide +kernel
theorem dX5_woundBy_8 : decode cX5_woundBy 8 = .ok (.aload_n 1, 1) := by decide +kernel
theorem dX5_woundBy_9 : decode cX5_woundBy 9 = .ok (.getfield 62, 3) := by decide +kernel
theorem dX5_woundBy_12 : decode cX5_woundBy 12 = .ok (.iload_n 3, 1) := by decide +kernel
theorem dX5_woundBy_13 : decode cX5_woundBy 13 = .ok (.iaload, 1) := by decide +kernel
theorem dX5_woundBy_14 : decode cX5_woundBy 14 = .ok (.iload 4, 2) := by decide +kernel
theorem dX5_woundBy_16 : decode cX5_woundBy 16 = .ok (.invokestatic 67, 3) := by decide +kernel
theorem dX5_woundBy_19 : decode cX5_woundBy 19 = .ok (.ireturn, 1) := by decide +kernel
theorem dX5_woundBy_20 : decode cX5_woundBy 20 = .ok (.aload_n 1, 1) := by decide +kernel
theorem dX5_woundBy_21 : decode cX5_woundBy 21 = .ok (.getfield 62, 3) := by decide +kernel
theorem dX5_woundBy_24 : decode cX5_woundBy 24 = .ok (.iload_n 3, 1) := by decide +kernel
theorem dX5_woundBy_25 : decode cX5_woundBy 25 = .ok (.iaload, 1) := by decide +kernel
theorem dX5_woundBy_26 : decode cX5_woundBy 26 = .ok (.istore 5, 2) := by decide +kernel
theorem dX5_woundBy_28 : decode cX5_woundBy 28 = .ok (.iconst 0, 1) := by decide +kernel
theorem dX5_woundBy_29 : decode cX5_woundBy 29 = .ok (.istore 6, 2) := by decide +kernel
theorem dX5_woundBy_31 : decode cX5_woundBy 31 = .ok (.iload 6, 2) := by decide +kernel
theorem dX5_woundBy_33 : decode cX5_woundBy 33 = .ok (.iload 4, 2) := by decide +kernel
theorem dX5_woundBy_35 : decode cX5_woundBy 35 = .ok (.if_icmp .ge 36, 3) := by decide +kernel
theorem dX5_woundBy_38 : decode cX5_woundBy 38 = .ok (.iload 5, 2) := by decide +kernel
theorem dX5_woundBy_40 : decode cX5_woundBy 40 = .ok (.aload_n 0, 1) := by decide +kernel
theorem dX5_woundBy_41 : decode cX5_woundBy 41 = .ok (.getfield 95, 3) := by decide +kernel
theorem dX5_woundBy_44 : decode cX5_woundBy 44 = .ok (.iload_n 2, 1) := by decide +kernel
theorem dX5_woundBy_45 : decode cX5_woundBy 45 = .ok (.iaload, 1) := by decide +kernel
theorem dX5_woundBy_46 : decode cX5_woundBy 46 = .ok (.bipush 99, 2) := by decide +kernel
theorem dX5_woundBy_48 : decode cX5_woundBy 48 = .ok (.aload_n 1, 1) := by decide +kernel
theorem dX5_woundBy_49 : decode cX5_woundBy 49 = .ok (.getfield 98, 3) := by decide +kernel
theorem dX5_woundBy_52 : decode cX5_woundBy 52 = .ok (.iload_n 2, 1) := by decide +kernel
theorem dX5_woundBy_53 : decode cX5_woundBy 53 = .ok (.iaload, 1) := by decide +kernel
theorem dX5_woundBy_54 : decode cX5_woundBy 54 = .ok (.iload 6, 2) := by decide +kernel
theorem dX5_woundBy_56 : decode cX5_woundBy 56 = .ok (.iadd, 1) := by decide +kernel
theorem dX5_woundBy_57 : decode cX5_woundBy 57 = .ok (.invokestatic 52, 3) := by decide +kernel
theorem dX5_woundBy_60 : decode cX5_woundBy 60 = .ok (.invokestatic 101, 3) := by decide +kernel
theorem dX5_woundBy_63 : decode cX5_woundBy 63 = .ok (.istore 5, 2) := by decide +kernel
theorem dX5_woundBy_65 : decode cX5_woundBy 65 = .ok (.iinc 6 1, 3) := by decide +kernel
theorem dX5_woundBy_68 : decode cX5_woundBy 68 = .ok (.goto (-37), 3) := by decide +kernel
theorem dX5_woundBy_71 : decode cX5_woundBy 71 = .ok (.iload 5, 2) := by decide +kernel
theorem dX5_woundBy_73 : decode cX5_woundBy 73 = .ok (.ireturn, 1) := by decide +kernel
theorem dX5_seatFrom_0 : decode cX5_seatFrom 0 = .ok (.iload 5, 2) := by decide +kernel
theorem dX5_seatFrom_2 : decode cX5_seatFrom 2 = .ok (.aload_n 0, 1) := by decide +kernel
theorem dX5_seatFrom_3 : decode cX5_seatFrom 3 = .ok (.getfield 43, 3) := by decide +kernel
theorem dX5_seatFrom_6 : decode cX5_seatFrom 6 = .ok (.if_icmp .ge 22, 3) := by decide +kernel
theorem dX5_seatFrom_9 : decode cX5_seatFrom 9 = .ok (.iload 6, 2) := by decide +kernel
theorem dX5_seatFrom_11 : decode cX5_seatFrom 11 = .ok (.aload_n 0, 1) := by decide +kernel
theorem dX5_seatFrom_12 : decode cX5_seatFrom 12 = .ok (.getfield 23, 3) := by decide +kernel
theorem dX5_seatFrom_15 : decode cX5_seatFrom 15 = .ok (.iload_n 2, 1) := by decide +kernel
theorem dX5_seatFrom_16 : decode cX5_seatFrom 16 = .ok (.aaload, 1) := by decide +kernel
theorem dX5_seatFrom_17 : decode cX5_seatFrom 17 = .ok (.iload 4, 2) := by decide +kernel
theorem dX5_seatFrom_19 : decode cX5_seatFrom 19 = .ok (.iaload, 1) := by decide +kernel
theorem dX5_seatFrom_20 : decode cX5_seatFrom 20 = .ok (.iadd, 1) := by decide +kernel
theorem dX5_seatFrom_21 : decode cX5_seatFrom 21 = .ok (.aload_n 0, 1) := by decide +kernel
theorem dX5_seatFrom_22 : decode cX5_seatFrom 22 = .ok (.getfield 35, 3) := by decide +kernel
theorem dX5_seatFrom_25 : decode cX5_seatFrom 25 = .ok (.if_icmp .ge 4, 3) := by decide +kernel
theorem dX5_seatFrom_28 : decode cX5_seatFrom 28 = .ok (.return_, 1) := by decide +kernel
theorem dX5_seatFrom_29 : decode cX5_seatFrom 29 = .ok (.iload 4, 2) := by decide +kernel
theorem dX5_seatFrom_31 : decode cX5_seatFrom 31 = .ok (.ifCond .ne 11, 3) := by decide +kernel
theorem dX5_seatFrom_34 : decode cX5_seatFrom 34 = .ok (.aload_n 0, 1) := by decide +kernel
theorem dX5_seatFrom_35 : decode cX5_seatFrom 35 = .ok (.iload_n 2, 1) := by decide +kernel
theorem dX5_seatFrom_36 : decode cX5_seatFrom 36 = .ok (.iload 5, 2) := by decide +kernel
theorem dX5_seatFrom_38 : decode cX5_seatFrom 38 = .ok (.invokevirtual 104, 3) := by decide +kernel
theorem dX5_seatFrom_41 : decode cX5_seatFrom 41 = .ok (.return_, 1) := by decide +kernel
theorem dX5_seatFrom_42 : decode cX5_seatFrom 42 = .ok (.iload_n 2, 1) := by decide +kernel
theorem dX5_seatFrom_43 : decode cX5_seatFrom 43 = .ok (.aload_n 1, 1) := by decide +kernel
theorem dX5_seatFrom_44 : decode cX5_seatFrom 44 = .ok (.getfield 46, 3) := by decide +kernel
theorem dX5_seatFrom_47 : decode cX5_seatFrom 47 = .ok (.if_icmp .lt 4, 3) := by decide +kernel
theorem dX5_seatFrom_50 : decode cX5_seatFrom 50 = .ok (.return_, 1) := by decide +kernel
theorem dX5_seatFrom_51 : decode cX5_seatFrom 51 = .ok (.iconst 0, 1) := by decide +kernel
theorem dX5_seatFrom_52 : decode cX5_seatFrom 52 = .ok (.istore 7, 2) := by decide +kernel
theorem dX5_seatFrom_54 : decode cX5_seatFrom 54 = .ok (.iload 7, 2) := by decide +kernel
theorem dX5_seatFrom_56 : decode cX5_seatFrom 56 = .ok (.aload_n 1, 1) := by decide +kernel
theorem dX5_seatFrom_57 : decode cX5_seatFrom 57 = .ok (.getfield 49, 3) := by decide +kernel
theorem dX5_seatFrom_60 : decode cX5_seatFrom 60 = .ok (.if_icmp .ge 77, 3) := by decide +kernel
theorem dX5_seatFrom_63 : decode cX5_seatFrom 63 = .ok (.iload_n 3, 1) := by decide +kernel
theorem dX5_seatFrom_64 : decode cX5_seatFrom 64 = .ok (.iload 7, 2) := by decide +kernel
theorem dX5_seatFrom_66 : decode cX5_seatFrom 66 = .ok (.ishr, 1) := by decide +kernel
theorem dX5_seatFrom_67 : decode cX5_seatFrom 67 = .ok (.iconst 1, 1) := by decide +kernel
theorem dX5_seatFrom_68 : decode cX5_seatFrom 68 = .ok (.iand, 1) := by decide +kernel
theorem dX5_seatFrom_69 : decode cX5_seatFrom 69 = .ok (.ifCond .ne 62, 3) := by decide +kernel
theorem dX5_seatFrom_72 : decode cX5_seatFrom 72 = .ok (.aload_n 0, 1) := by decide +kernel
theorem dX5_seatFrom_73 : decode cX5_seatFrom 73 = .ok (.getfield 20, 3) := by decide +kernel
theorem dX5_seatFrom_76 : decode cX5_seatFrom 76 = .ok (.iload_n 2, 1) := by decide +kernel
theorem dX5_seatFrom_77 : decode cX5_seatFrom 77 = .ok (.aaload, 1) := by decide +kernel
theorem dX5_seatFrom_78 : decode cX5_seatFrom 78 = .ok (.iload 7, 2) := by decide +kernel
theorem dX5_seatFrom_80 : decode cX5_seatFrom 80 = .ok (.iaload, 1) := by decide +kernel
theorem dX5_seatFrom_81 : decode cX5_seatFrom 81 = .ok (.ifCond .le 50, 3) := by decide +kernel
theorem dX5_seatFrom_84 : decode cX5_seatFrom 84 = .ok (.aload_n 0, 1) := by decide +kernel
theorem dX5_seatFrom_85 : decode cX5_seatFrom 85 = .ok (.getfield 15, 3) := by decide +kernel
theorem dX5_seatFrom_88 : decode cX5_seatFrom 88 = .ok (.iload_n 2, 1) := by decide +kernel
theorem dX5_seatFrom_89 : decode cX5_seatFrom 89 = .ok (.iload 7, 2) := by decide +kernel
theorem dX5_seatFrom_91 : decode cX5_seatFrom 91 = .ok (.iastore, 1) := by decide +kernel
theorem dX5_seatFrom_92 : decode cX5_seatFrom 92 = .ok (.aload_n 0, 1) := by decide +kernel
theorem dX5_seatFrom_93 : decode cX5_seatFrom 93 = .ok (.aload_n 1, 1) := by decide +kernel
theorem dX5_seatFrom_94 : decode cX5_seatFrom 94 = .ok (.iload_n 2, 1) := by decide +kernel
theorem dX5_seatFrom_95 : decode cX5_seatFrom 95 = .ok (.iconst 1, 1) := by decide +kernel
theorem dX5_seatFrom_96 : decode cX5_seatFrom 96 = .ok (.iadd, 1) := by decide +kernel
theorem dX5_seatFrom_97 : decode cX5_seatFrom 97 = .ok (.iload_n 3, 1) := by decide +kernel
theorem dX5_seatFrom_98 : decode cX5_seatFrom 98 = .ok (.iconst 1, 1) := by decide +kernel
theorem dX5_seatFrom_99 : decode cX5_seatFrom 99 = .ok (.iload 7, 2) := by decide +kernel
theorem dX5_seatFrom_101 : decode cX5_seatFrom 101 = .ok (.ishl, 1) := by decide +kernel
theorem dX5_seatFrom_102 : decode cX5_seatFrom 102 = .ok (.ior, 1) := by decide +kernel
theorem dX5_seatFrom_103 : decode cX5_seatFrom 103 = .ok (.iload 4, 2) := by decide +kernel
theorem dX5_seatFrom_105 : decode cX5_seatFrom 105 = .ok (.iconst 1, 1) := by decide +kernel
theorem dX5_seatFrom_106 : decode cX5_seatFrom 106 = .ok (.isub, 1) := by decide +kernel
theorem dX5_seatFrom_107 : decode cX5_seatFrom 107 = .ok (.iload 5, 2) := by decide +kernel
theorem dX5_seatFrom_109 : decode cX5_seatFrom 109 = .ok (.aload_n 1, 1) := by decide +kernel
theorem dX5_seatFrom_110 : decode cX5_seatFrom 110 = .ok (.getfield 95, 3) := by decide +kernel
theorem dX5_seatFrom_113 : decode cX5_seatFrom 113 = .ok (.iload_n 2, 1) := by decide +kernel
theorem dX5_seatFrom_114 : decode cX5_seatFrom 114 = .ok (.iaload, 1) := by decide +kernel
theorem dX5_seatFrom_115 : decode cX5_seatFrom 115 = .ok (.iadd, 1) := by decide +kernel
theorem dX5_seatFrom_116 : decode cX5_seatFrom 116 = .ok (.iload 6, 2) := by decide +kernel
theorem dX5_seatFrom_118 : decode cX5_seatFrom 118 = .ok (.aload_n 0, 1) := by decide +kernel
theorem dX5_seatFrom_119 : decode cX5_seatFrom 119 = .ok (.getfield 20, 3) := by decide +kernel
theorem dX5_seatFrom_122 : decode cX5_seatFrom 122 = .ok (.iload_n 2, 1) := by decide +kernel
theorem dX5_seatFrom_123 : decode cX5_seatFrom 123 = .ok (.aaload, 1) := by decide +kernel
theorem dX5_seatFrom_124 : decode cX5_seatFrom 124 = .ok (.iload 7, 2) := by decide +kernel
theorem dX5_seatFrom_126 : decode cX5_seatFrom 126 = .ok (.iaload, 1) := by decide +kernel
theorem dX5_seatFrom_127 : decode cX5_seatFrom 127 = .ok (.iadd, 1) := by decide +kernel
theorem dX5_seatFrom_128 : decode cX5_seatFrom 128 = .ok (.invokestatic 58, 3) := by decide +kernel
theorem dX5_seatFrom_131 : decode cX5_seatFrom 131 = .ok (.iinc 7 1, 3) := by decide +kernel
theorem dX5_seatFrom_134 : decode cX5_seatFrom 134 = .ok (.goto (-80), 3) := by decide +kernel
theorem dX5_seatFrom_137 : decode cX5_seatFrom 137 = .ok (.aload_n 0, 1) := by decide +kernel
theorem dX5_seatFrom_138 : decode cX5_seatFrom 138 = .ok (.getfield 15, 3) := by decide +kernel
theorem dX5_seatFrom_141 : decode cX5_seatFrom 141 = .ok (.iload_n 2, 1) := by decide +kernel
theorem dX5_seatFrom_142 : decode cX5_seatFrom 142 = .ok (.iconst (-1), 1) := by decide +kernel
theorem dX5_seatFrom_143 : decode cX5_seatFrom 143 = .ok (.iastore, 1) := by decide +kernel
theorem dX5_seatFrom_144 : decode cX5_seatFrom 144 = .ok (.aload_n 0, 1) := by decide +kernel
theorem dX5_seatFrom_145 : decode cX5_seatFrom 145 = .ok (.aload_n 1, 1) := by decide +kernel
theorem dX5_seatFrom_146 : decode cX5_seatFrom 146 = .ok (.iload_n 2, 1) := by decide +kernel
theorem dX5_seatFrom_147 : decode cX5_seatFrom 147 = .ok (.iconst 1, 1) := by decide +kernel
theorem dX5_seatFrom_148 : decode cX5_seatFrom 148 = .ok (.iadd, 1) := by decide +kernel
theorem dX5_seatFrom_149 : decode cX5_seatFrom 149 = .ok (.iload_n 3, 1) := by decide +kernel
theorem dX5_seatFrom_150 : decode cX5_seatFrom 150 = .ok (.iload 4, 2) := by decide +kernel
theorem dX5_seatFrom_152 : decode cX5_seatFrom 152 = .ok (.iload 5, 2) := by decide +kernel
theorem dX5_seatFrom_154 : decode cX5_seatFrom 154 = .ok (.iload 6, 2) := by decide +kernel
theorem dX5_seatFrom_156 : decode cX5_seatFrom 156 = .ok (.invokestatic 58, 3) := by decide +kernel
theorem dX5_seatFrom_159 : decode cX5_seatFrom 159 = .ok (.return_, 1) := by decide +kernel
theorem dX5_take_0 : decode cX5_take 0 = .ok (.aload_n 0, 1) := by decide +kernel
theorem dX5_take_1 : decode cX5_take 1 = .ok (.iload_n 2, 1) := by decide +kernel
theorem dX5_take_2 : decode cX5_take 2 = .ok (.putfield 43, 3) := by decide +kernel
theorem dX5_take_5 : decode cX5_take 5 = .ok (.aload_n 0, 1) := by decide +kernel
theorem dX5_take_6 : decode cX5_take 6 = .ok (.getfield 9, 3) := by decide +kernel
theorem dX5_take_9 : decode cX5_take 9 = .ok (.iconst (-1), 1) := by decide +kernel
theorem dX5_take_10 : decode cX5_take 10 = .ok (.invokestatic 77, 3) := by decide +kernel
theorem dX5_take_13 : decode cX5_take 13 = .ok (.aload_n 0, 1) := by decide +kernel
theorem dX5_take_14 : decode cX5_take 14 = .ok (.getfield 15, 3) := by decide +kernel
theorem dX5_take_17 : decode cX5_take 17 = .ok (.iconst 0, 1) := by decide +kernel
theorem dX5_take_18 : decode cX5_take 18 = .ok (.aload_n 0, 1) := by decide +kernel
theorem dX5_take_19 : decode cX5_take 19 = .ok (.getfield 9, 3) := by decide +kernel
theorem dX5_take_22 : decode cX5_take 22 = .ok (.iconst 0, 1) := by decide +kernel
theorem dX5_take_23 : decode cX5_take 23 = .ok (.iload_n 1, 1) := by decide +kernel
theorem dX5_take_24 : decode cX5_take 24 = .ok (.invokestatic 107, 3) := by decide +kernel
theorem dX5_take_27 : decode cX5_take 27 = .ok (.return_, 1) := by decide +kernel
theorem dX6_init_0 : decode cX6_init 0 = .ok (.aload_n 0, 1) := by decide +kernel
theorem dX6_init_1 : decode cX6_init 1 = .ok (.invokespecial 3, 3) := by decide +kernel
theorem dX6_init_4 : decode cX6_init 4 = .ok (.aload_n 0, 1) := by decide +kernel
theorem dX6_init_5 : decode cX6_init 5 = .ok (.sipush 240, 3) := by decide +kernel
theorem dX6_init_8 : decode cX6_init 8 = .ok (.newarray .int, 2) := by decide +kernel
theorem dX6_init_10 : decode cX6_init 10 = .ok (.putfield 9, 3) := by decide +kernel
theorem dX6_init_13 : decode cX6_init 13 = .ok (.aload_n 0, 1) := by decide +kernel
theorem dX6_init_14 : decode cX6_init 14 = .ok (.iconst (-1), 1) := by decide +kernel
theorem dX6_init_15 : decode cX6_init 15 = .ok (.putfield 15, 3) := by decide +kernel
theorem dX6_init_18 : decode cX6_init 18 = .ok (.return_, 1) := by decide +kernel
theorem dX6_letters_0 : decode cX6_letters 0 = .ok (.aload_n 0, 1) := by decide +kernel
theorem dX6_letters_1 : decode cX6_letters 1 = .ok (.getfield 19, 3) := by decide +kernel
theorem dX6_letters_4 : decode cX6_letters 4 = .ok (.ireturn, 1) := by decide +kernel
theorem dX6_faultPlace_0 : decode cX6_faultPlace 0 = .ok (.aload_n 0, 1) := by decide +kernel
theorem dX6_faultPlace_1 : decode cX6_faultPlace 1 = .ok (.getfield 15, 3) := by decide +kernel
theorem dX6_faultPlace_4 : decode cX6_faultPlace 4 = .ok (.ireturn, 1) := by decide +kernel
theorem dX6_add_0 : decode cX6_add 0 = .ok (.aload_n 0, 1) := by decide +kernel
theorem dX6_add_1 : decode cX6_add 1 = .ok (.getfield 19, 3) := by decide +kernel
theorem dX6_add_4 : decode cX6_add 4 = .ok (.sipush 240, 3) := by decide +kernel
theorem dX6_add_7 : decode cX6_add 7 = .ok (.if_icmp .lt 6, 3) := by decide +kernel
theorem dX6_add_10 : decode cX6_add 10 = .ok (.ldc 22, 2) := by decide +kernel
theorem dX6_add_12 : decode cX6_add 12 = .ok (.ireturn, 1) := by decide +kernel
theorem dX6_add_13 : decode cX6_add 13 = .ok (.aload_n 0, 1) := by decide +kernel
theorem dX6_add_14 : decode cX6_add 14 = .ok (.getfield 9, 3) := by decide +kernel
theorem dX6_add_17 : decode cX6_add 17 = .ok (.aload_n 0, 1) := by decide +kernel
theorem dX6_add_18 : decode cX6_add 18 = .ok (.getfield 19, 3) := by decide +kernel
theorem dX6_add_21 : decode cX6_add 21 = .ok (.iload_n 1, 1) := by decide +kernel
theorem dX6_add_22 : decode cX6_add 22 = .ok (.iastore, 1) := by decide +kernel
theorem dX6_add_23 : decode cX6_add 23 = .ok (.aload_n 0, 1) := by decide +kernel
theorem dX6_add_24 : decode cX6_add 24 = .ok (.dup, 1) := by decide +kernel
theorem dX6_add_25 : decode cX6_add 25 = .ok (.getfield 19, 3) := by decide +kernel
theorem dX6_add_28 : decode cX6_add 28 = .ok (.iconst 1, 1) := by decide +kernel
theorem dX6_add_29 : decode cX6_add 29 = .ok (.iadd, 1) := by decide +kernel
theorem dX6_add_30 : decode cX6_add 30 = .ok (.putfield 19, 3) := by decide +kernel
theorem dX6_add_33 : decode cX6_add 33 = .ok (.aload_n 0, 1) := by decide +kernel
theorem dX6_add_34 : decode cX6_add 34 = .ok (.getfield 19, 3) := by decide +kernel
theorem dX6_add_37 : decode cX6_add 37 = .ok (.ireturn, 1) := by decide +kernel
theorem dX6_readInto_0 : decode cX6_readInto 0 = .ok (.aload_n 0, 1) := by decide +kernel
theorem dX6_readInto_1 : decode cX6_readInto 1 = .ok (.iconst 0, 1) := by decide +kernel
theorem dX6_readInto_2 : decode cX6_readInto 2 = .ok (.putfield 23, 3) := by decide +kernel
theorem dX6_readInto_5 : decode cX6_readInto 5 = .ok (.aload_n 0, 1) := by decide +kernel
theorem dX6_readInto_6 : decode cX6_readInto 6 = .ok (.iconst 0, 1) := by decide +kernel
theorem dX6_readInto_7 : decode cX6_readInto 7 = .ok (.putfield 26, 3) := by decide +kernel
theorem dX6_readInto_10 : decode cX6_readInto 10 = .ok (.aload_n 0, 1) := by decide +kernel
theorem dX6_readInto_11 : decode cX6_readInto 11 = .ok (.iconst (-1), 1) := by decide +kernel
theorem dX6_readInto_12 : decode cX6_readInto 12 = .ok (.putfield 15, 3) := by decide +kernel
theorem dX6_readInto_15 : decode cX6_readInto 15 = .ok (.aload_n 1, 1) := by decide +kernel
theorem dX6_readInto_16 : decode cX6_readInto 16 = .ok (.invokevirtual 29, 3) := by decide +kernel
theorem dX6_readInto_19 : decode cX6_readInto 19 = .ok (.aload_n 0, 1) := by decide +kernel
theorem dX6_readInto_20 : decode cX6_readInto 20 = .ok (.invokevirtual 34, 3) := by decide +kernel
theorem dX6_readInto_23 : decode cX6_readInto 23 = .ok (.ifCond .eq 42, 3) := by decide +kernel
theorem dX6_readInto_26 : decode cX6_readInto 26 = .ok (.aload_n 0, 1) := by decide +kernel
theorem dX6_readInto_27 : decode cX6_readInto 27 = .ok (.aload_n 1, 1) := by decide +kernel
theorem dX6_readInto_28 : decode cX6_readInto 28 = .ok (.invokevirtual 38, 3) := by decide +kernel
theorem dX6_readInto_31 : decode cX6_readInto 31 = .ok (.iconst 0, 1) := by decide +kernel
theorem dX6_readInto_32 : decode cX6_readInto 32 = .ok (.istore_n 2, 1) := by decide +kernel
theorem dX6_readInto_33 : decode cX6_readInto 33 = .ok (.iload_n 2, 1) := by decide +kernel
theorem dX6_readInto_34 : decode cX6_readInto 34 = .ok (.sipush 240, 3) := by decide +kernel
theorem dX6_readInto_37 : decode cX6_readInto 37 = .ok (.if_icmp .ge 28, 3) := by decide +kernel
theorem dX6_readInto_40 : decode cX6_readInto 40 = .ok (.aload_n 0, 1) := by decide +kernel
theorem dX6_readInto_41 : decode cX6_readInto 41 = .ok (.getfield 26, 3) := by decide +kernel
theorem dX6_readInto_44 : decode cX6_readInto 44 = .ok (.ifCond .ne 21, 3) := by decide +kernel
theorem dX6_readInto_47 : decode cX6_readInto 47 = .ok (.aload_n 0, 1) := by decide +kernel
theorem dX6_readInto_48 : decode cX6_readInto 48 = .ok (.invokevirtual 34, 3) := by decide +kernel
theorem dX6_readInto_51 : decode cX6_readInto 51 = .ok (.ifCond .eq 14, 3) := by decide +kernel
theorem dX6_readInto_54 : decode cX6_readInto 54 = .ok (.aload_n 0, 1) := by decide +kernel
theorem dX6_readInto_55 : decode cX6_readInto 55 = .ok (.aload_n 1, 1) := by decide +kernel
theorem dX6_readInto_56 : decode cX6_readInto 56 = .ok (.invokevirtual 42, 3) := by decide +kernel
theorem dX6_readInto_59 : decode cX6_readInto 59 = .ok (.iinc 2 1, 3) := by decide +kernel
theorem dX6_readInto_62 : decode cX6_readInto 62 = .ok (.goto (-29), 3) := by decide +kernel
theorem dX6_readInto_65 : decode cX6_readInto 65 = .ok (.aload_n 0, 1) := by decide +kernel
theorem dX6_readInto_66 : decode cX6_readInto 66 = .ok (.iconst 0, 1) := by decide +kernel
theorem dX6_readInto_67 : decode cX6_readInto 67 = .ok (.putfield 19, 3) := by decide +kernel
theorem dX6_readInto_70 : decode cX6_readInto 70 = .ok (.aload_n 0, 1) := by decide +kernel
theorem dX6_readInto_71 : decode cX6_readInto 71 = .ok (.getfield 26, 3) := by decide +kernel
theorem dX6_readInto_74 : decode cX6_readInto 74 = .ok (.ireturn, 1) := by decide +kernel
theorem dX6_readCells_0 : decode cX6_readCells 0 = .ok (.aload_n 0, 1) := by decide +kernel
theorem dX6_readCells_1 : decode cX6_readCells 1 = .ok (.bipush 99, 2) := by decide +kernel
theorem dX6_readCells_3 : decode cX6_readCells 3 = .ok (.invokevirtual 45, 3) := by decide +kernel
theorem dX6_readCells_6 : decode cX6_readCells 6 = .ok (.aload_n 1, 1) := by decide +kernel
theorem dX6_readCells_7 : decode cX6_readCells 7 = .ok (.getfield 49, 3) := by decide +kernel
theorem dX6_readCells_10 : decode cX6_readCells 10 = .ok (.iconst 0, 1) := by decide +kernel
theorem dX6_readCells_11 : decode cX6_readCells 11 = .ok (.aload_n 0, 1) := by decide +kernel
theorem dX6_readCells_12 : decode cX6_readCells 12 = .ok (.iconst 0, 1) := by decide +kernel
theorem dX6_readCells_13 : decode cX6_readCells 13 = .ok (.bipush 60, 2) := by decide +kernel
theorem dX6_readCells_15 : decode cX6_readCells 15 = .ok (.invokevirtual 52, 3) := by decide +kernel
theorem dX6_readCells_18 : decode cX6_readCells 18 = .ok (.iastore, 1) := by decide +kernel
theorem dX6_readCells_19 : decode cX6_readCells 19 = .ok (.aload_n 1, 1) := by decide +kernel
theorem dX6_readCells_20 : decode cX6_readCells 20 = .ok (.iconst 1, 1) := by decide +kernel
theorem dX6_readCells_21 : decode cX6_readCells 21 = .ok (.putfield 56, 3) := by decide +kernel
theorem dX6_readCells_24 : decode cX6_readCells 24 = .ok (.iconst 1, 1) := by decide +kernel
theorem dX6_readCells_25 : decode cX6_readCells 25 = .ok (.istore_n 2, 1) := by decide +kernel
theorem dX6_readCells_26 : decode cX6_readCells 26 = .ok (.iload_n 2, 1) := by decide +kernel
theorem dX6_readCells_27 : decode cX6_readCells 27 = .ok (.bipush 10, 2) := by decide +kernel
theorem dX6_readCells_29 : decode cX6_readCells 29 = .ok (.if_icmp .ge 44, 3) := by decide +kernel
theorem dX6_readCells_32 : decode cX6_readCells 32 = .ok (.aload_n 0, 1) := by decide +kernel
theorem dX6_readCells_33 : decode cX6_readCells 33 = .ok (.bipush 44, 2) := by decide +kernel
theorem dX6_readCells_35 : decode cX6_readCells 35 = .ok (.invokevirtual 59, 3) := by decide +kernel
theorem dX6_readCells_38 : decode cX6_readCells 38 = .ok (.ifCond .eq 35, 3) := by decide +kernel
theorem dX6_readCells_41 : decode cX6_readCells 41 = .ok (.aload_n 0, 1) := by decide +kernel
theorem dX6_readCells_42 : decode cX6_readCells 42 = .ok (.bipush 44, 2) := by decide +kernel
theorem dX6_readCells_44 : decode cX6_readCells 44 = .ok (.invokevirtual 45, 3) := by decide +kernel
theorem dX6_readCells_47 : decode cX6_readCells 47 = .ok (.aload_n 1, 1) := by decide +kernel
theorem dX6_readCells_48 : decode cX6_readCells 48 = .ok (.getfield 49, 3) := by decide +kernel
theorem dX6_readCells_51 : decode cX6_readCells 51 = .ok (.iload_n 2, 1) := by decide +kernel
theorem dX6_readCells_52 : decode cX6_readCells 52 = .ok (.aload_n 0, 1) := by decide +kernel
theorem dX6_readCells_53 : decode cX6_readCells 53 = .ok (.iconst 0, 1) := by decide +kernel
theorem dX6_readCells_54 : decode cX6_readCells 54 = .ok (.bipush 60, 2) := by decide +kernel
theorem dX6_readCells_56 : decode cX6_readCells 56 = .ok (.invokevirtual 52, 3) := by decide +kernel
theorem dX6_readCells_59 : decode cX6_readCells 59 = .ok (.iastore, 1) := by decide +kernel
theorem dX6_readCells_60 : decode cX6_readCells 60 = .ok (.aload_n 1, 1) := by decide +kernel
theorem dX6_readCells_61 : decode cX6_readCells 61 = .ok (.iload_n 2, 1) := by decide +kernel
theorem dX6_readCells_62 : decode cX6_readCells 62 = .ok (.iconst 1, 1) := by decide +kernel
theorem dX6_readCells_63 : decode cX6_readCells 63 = .ok (.iadd, 1) := by decide +kernel
theorem dX6_readCells_64 : decode cX6_readCells 64 = .ok (.putfield 56, 3) := by decide +kernel
theorem dX6_readCells_67 : decode cX6_readCells 67 = .ok (.iinc 2 1, 3) := by decide +kernel
theorem dX6_readCells_70 : decode cX6_readCells 70 = .ok (.goto (-44), 3) := by decide +kernel
theorem dX6_readCells_73 : decode cX6_readCells 73 = .ok (.aload_n 1, 1) := by decide +kernel
theorem dX6_readCells_74 : decode cX6_readCells 74 = .ok (.getfield 56, 3) := by decide +kernel
theorem dX6_readCells_77 : decode cX6_readCells 77 = .ok (.iconst 2, 1) := by decide +kernel
theorem dX6_readCells_78 : decode cX6_readCells 78 = .ok (.if_icmp .ge 12, 3) := by decide +kernel
theorem dX6_readCells_81 : decode cX6_readCells 81 = .ok (.aload_n 0, 1) := by decide +kernel
theorem dX6_readCells_82 : decode cX6_readCells 82 = .ok (.iconst 1, 1) := by decide +kernel
theorem dX6_readCells_83 : decode cX6_readCells 83 = .ok (.aload_n 0, 1) := by decide +kernel
theorem dX6_readCells_84 : decode cX6_readCells 84 = .ok (.getfield 23, 3) := by decide +kernel
theorem dX6_readCells_87 : decode cX6_readCells 87 = .ok (.invokevirtual 63, 3) := by decide +kernel
theorem dX6_readCells_90 : decode cX6_readCells 90 = .ok (.aload_n 0, 1) := by decide +kernel
theorem dX6_readCells_91 : decode cX6_readCells 91 = .ok (.bipush 59, 2) := by decide +kernel
theorem dX6_readCells_93 : decode cX6_readCells 93 = .ok (.invokevirtual 45, 3) := by decide +kernel
theorem dX6_readCells_96 : decode cX6_readCells 96 = .ok (.return_, 1) := by decide +kernel
theorem dX6_readClause_0 : decode cX6_readClause 0 = .ok (.aload_n 0, 1) := by decide +kernel
theorem dX6_readClause_1 : decode cX6_readClause 1 = .ok (.getfield 9, 3) := by decide +kernel
theorem dX6_readClause_4 : decode cX6_readClause 4 = .ok (.aload_n 0, 1) := by decide +kernel
theorem dX6_readClause_5 : decode cX6_readClause 5 = .ok (.getfield 23, 3) := by decide +kernel
theorem dX6_readClause_8 : decode cX6_readClause 8 = .ok (.iaload, 1) := by decide +kernel
theorem dX6_readClause_9 : decode cX6_readClause 9 = .ok (.lookupswitch 79 #[(98, 59), (99, 67), (112, 51), (116, 43)], 43) := by decide +kernel
theorem dX6_readClause_52 : decode cX6_readClause 52 = .ok (.aload_n 0, 1) := by decide +kernel
theorem dX6_readClause_53 : decode cX6_readClause 53 = .ok (.aload_n 1, 1) := by decide +kernel
theorem dX6_readClause_54 : decode cX6_readClause 54 = .ok (.invokevirtual 67, 3) := by decide +kernel
theorem dX6_readClause_57 : decode cX6_readClause 57 = .ok (.goto 40, 3) := by decide +kernel
theorem dX6_readClause_60 : decode cX6_readClause 60 = .ok (.aload_n 0, 1) := by decide +kernel
theorem dX6_readClause_61 : decode cX6_readClause 61 = .ok (.aload_n 1, 1) := by decide +kernel
theorem dX6_readClause_62 : decode cX6_readClause 62 = .ok (.invokevirtual 70, 3) := by decide +kernel
theorem dX6_readClause_65 : decode cX6_readClause 65 = .ok (.goto 32, 3) := by decide +kernel
theorem dX6_readClause_68 : decode cX6_readClause 68 = .ok (.aload_n 0, 1) := by decide +kernel
theorem dX6_readClause_69 : decode cX6_readClause 69 = .ok (.aload_n 1, 1) := by decide +kernel
theorem dX6_readClause_70 : decode cX6_readClause 70 = .ok (.invokevirtual 73, 3) := by decide +kernel
theorem dX6_readClause_73 : decode cX6_readClause 73 = .ok (.goto 24, 3) := by decide +kernel
theorem dX6_readClause_76 : decode cX6_readClause 76 = .ok (.aload_n 0, 1) := by decide +kernel
theorem dX6_readClause_77 : decode cX6_readClause 77 = .ok (.iconst 3, 1) := by decide +kernel
theorem dX6_readClause_78 : decode cX6_readClause 78 = .ok (.aload_n 0, 1) := by decide +kernel
theorem dX6_readClause_79 : decode cX6_readClause 79 = .ok (.getfield 23, 3) := by decide +kernel
theorem dX6_readClause_82 : decode cX6_readClause 82 = .ok (.invokevirtual 63, 3) := by decide +kernel
theorem dX6_readClause_85 : decode cX6_readClause 85 = .ok (.goto 12, 3) := by decide +kernel
theorem dX6_readClause_88 : decode cX6_readClause 88 = .ok (.aload_n 0, 1) := by decide +kernel
theorem dX6_readClause_89 : decode cX6_readClause 89 = .ok (.iconst 1, 1) := by decide +kernel
theorem dX6_readClause_90 : decode cX6_readClause 90 = .ok (.aload_n 0, 1) := by decide +kernel
theorem dX6_readClause_91 : decode cX6_readClause 91 = .ok (.getfield 23, 3) := by decide +kernel
theorem dX6_readClause_94 : decode cX6_readClause 94 = .ok (.invokevirtual 63, 3) := by decide +kernel
theorem dX6_readClause_97 : decode cX6_readClause 97 = .ok (.return_, 1) := by decide +kernel
theorem dX6_readTower_0 : decode cX6_readTower 0 = .ok (.aload_n 1, 1) := by decide +kernel
theorem dX6_readTower_1 : decode cX6_readTower 1 = .ok (.getfield 76, 3) := by decide +kernel
theorem dX6_readTower_4 : decode cX6_readTower 4 = .ok (.istore_n 2, 1) := by decide +kernel
theorem dX6_readTower_5 : decode cX6_readTower 5 = .ok (.iload_n 2, 1) := by decide +kernel
theorem dX6_readTower_6 : decode cX6_readTower 6 = .ok (.bipush 6, 2) := by decide +kernel
theorem dX6_readTower_8 : decode cX6_readTower 8 = .ok (.if_icmp .lt 13, 3) := by decide +kernel
theorem dX6_readTower_11 : decode cX6_readTower 11 = .ok (.aload_n 0, 1) := by decide +kernel
theorem dX6_readTower_12 : decode cX6_readTower 12 = .ok (.iconst 3, 1) := by decide +kernel
theorem dX6_readTower_13 : decode cX6_readTower 13 = .ok (.aload_n 0, 1) := by decide +kernel
theorem dX6_readTower_14 : decode cX6_readTower 14 = .ok (.getfield 23, 3) := by decide +kernel
theorem dX6_readTower_17 : decode cX6_readTower 17 = .ok (.invokevirtual 63, 3) := by decide +kernel
theorem dX6_readTower_20 : decode cX6_readTower 20 = .ok (.return_, 1) := by decide +kernel
theorem dX6_readTower_21 : decode cX6_readTower 21 = .ok (.aload_n 0, 1) := by decide +kernel
theorem dX6_readTower_22 : decode cX6_readTower 22 = .ok (.bipush 116, 2) := by decide +kernel
theorem dX6_readTower_24 : decode cX6_readTower 24 = .ok (.invokevirtual 45, 3) := by decide +kernel
theorem dX6_readTower_27 : decode cX6_readTower 27 = .ok (.aload_n 1, 1) := by decide +kernel
theorem dX6_readTower_28 : decode cX6_readTower 28 = .ok (.getfield 79, 3) := by decide +kernel
theorem dX6_readTower_31 : decode cX6_readTower 31 = .ok (.iload_n 2, 1) := by decide +kernel
theorem dX6_readTower_32 : decode cX6_readTower 32 = .ok (.aload_n 0, 1) := by decide +kernel
theorem dX6_readTower_33 : decode cX6_readTower 33 = .ok (.iconst 0, 1) := by decide +kernel
theorem dX6_readTower_34 : decode cX6_readTower 34 = .ok (.aload_n 1, 1) := by decide +kernel
theorem dX6_readTower_35 : decode cX6_readTower 35 = .ok (.getfield 56, 3) := by decide +kernel
theorem dX6_readTower_38 : decode cX6_readTower 38 = .ok (.iconst 1, 1) := by decide +kernel
theorem dX6_readTower_39 : decode cX6_readTower 39 = .ok (.isub, 1) := by decide +kernel
theorem dX6_readTower_40 : decode cX6_readTower 40 = .ok (.invokevirtual 52, 3) := by decide +kernel
theorem dX6_readTower_43 : decode cX6_readTower 43 = .ok (.iastore, 1) := by decide +kernel
theorem dX6_readTower_44 : decode cX6_readTower 44 = .ok (.aload_n 1, 1) := by decide +kernel
theorem dX6_readTower_45 : decode cX6_readTower 45 = .ok (.getfield 82, 3) := by decide +kernel
theorem dX6_readTower_48 : decode cX6_readTower 48 = .ok (.iload_n 2, 1) := by decide +kernel
theorem dX6_readTower_49 : decode cX6_readTower 49 = .ok (.aload_n 0, 1) := by decide +kernel
theorem dX6_readTower_50 : decode cX6_readTower 50 = .ok (.iconst 1, 1) := by decide +kernel
theorem dX6_readTower_51 : decode cX6_readTower 51 = .ok (.bipush 20, 2) := by decide +kernel
theorem dX6_readTower_53 : decode cX6_readTower 53 = .ok (.invokevirtual 52, 3) := by decide +kernel
theorem dX6_readTower_56 : decode cX6_readTower 56 = .ok (.iastore, 1) := by decide +kernel
theorem dX6_readTower_57 : decode cX6_readTower 57 = .ok (.aload_n 0, 1) := by decide +kernel
theorem dX6_readTower_58 : decode cX6_readTower 58 = .ok (.bipush 59, 2) := by decide +kernel
theorem dX6_readTower_60 : decode cX6_readTower 60 = .ok (.invokevirtual 45, 3) := by decide +kernel
theorem dX6_readTower_63 : decode cX6_readTower 63 = .ok (.aload_n 1, 1) := by decide +kernel
theorem dX6_readTower_64 : decode cX6_readTower 64 = .ok (.iload_n 2, 1) := by decide +kernel
theorem dX6_readTower_65 : decode cX6_readTower 65 = .ok (.iconst 1, 1) := by decide +kernel
theorem dX6_readTower_66 : decode cX6_readTower 66 = .ok (.iadd, 1) := by decide +kernel
theorem dX6_readTower_67 : decode cX6_readTower 67 = .ok (.putfield 76, 3) := by decide +kernel
theorem dX6_readTower_70 : decode cX6_readTower 70 = .ok (.return_, 1) := by decide +kernel
theorem dX6_readPlayer_0 : decode cX6_readPlayer 0 = .ok (.aload_n 1, 1) := by decide +kernel
theorem dX6_readPlayer_1 : decode cX6_readPlayer 1 = .ok (.getfield 85, 3) := by decide +kernel
theorem dX6_readPlayer_4 : decode cX6_readPlayer 4 = .ok (.istore_n 2, 1) := by decide +kernel
theorem dX6_readPlayer_5 : decode cX6_readPlayer 5 = .ok (.iload_n 2, 1) := by decide +kernel
theorem dX6_readPlayer_6 : decode cX6_readPlayer 6 = .ok (.bipush 6, 2) := by decide +kernel
theorem dX6_readPlayer_8 : decode cX6_readPlayer 8 = .ok (.if_icmp .lt 13, 3) := by decide +kernel
theorem dX6_readPlayer_11 : decode cX6_readPlayer 11 = .ok (.aload_n 0, 1) := by decide +kernel
theorem dX6_readPlayer_12 : decode cX6_readPlayer 12 = .ok (.iconst 3, 1) := by decide +kernel
theorem dX6_readPlayer_13 : decode cX6_readPlayer 13 = .ok (.aload_n 0, 1) := by decide +kernel
theorem dX6_readPlayer_14 : decode cX6_readPlayer 14 = .ok (.getfield 23, 3) := by decide +kernel
theorem dX6_readPlayer_17 : decode cX6_readPlayer 17 = .ok (.invokevirtual 63, 3) := by decide +kernel
theorem dX6_readPlayer_20 : decode cX6_readPlayer 20 = .ok (.return_, 1) := by decide +kernel
theorem dX6_readPlayer_21 : decode cX6_readPlayer 21 = .ok (.aload_n 0, 1) := by decide +kernel
theorem dX6_readPlayer_22 : decode cX6_readPlayer 22 = .ok (.bipush 112, 2) := by decide +kernel
theorem dX6_readPlayer_24 : decode cX6_readPlayer 24 = .ok (.invokevirtual 45, 3) := by decide +kernel
theorem dX6_readPlayer_27 : decode cX6_readPlayer 27 = .ok (.aload_n 1, 1) := by decide +kernel
theorem dX6_readPlayer_28 : decode cX6_readPlayer 28 = .ok (.getfield 88, 3) := by decide +kernel
theorem dX6_readPlayer_31 : decode cX6_readPlayer 31 = .ok (.iload_n 2, 1) := by decide +kernel
theorem dX6_readPlayer_32 : decode cX6_readPlayer 32 = .ok (.aload_n 0, 1) := by decide +kernel
theorem dX6_readPlayer_33 : decode cX6_readPlayer 33 = .ok (.iconst 1, 1) := by decide +kernel
theorem dX6_readPlayer_34 : decode cX6_readPlayer 34 = .ok (.bipush 9, 2) := by decide +kernel
theorem dX6_readPlayer_36 : decode cX6_readPlayer 36 = .ok (.invokevirtual 52, 3) := by decide +kernel
theorem dX6_readPlayer_39 : decode cX6_readPlayer 39 = .ok (.iastore, 1) := by decide +kernel
theorem dX6_readPlayer_40 : decode cX6_readPlayer 40 = .ok (.aload_n 0, 1) := by decide +kernel
theorem dX6_readPlayer_41 : decode cX6_readPlayer 41 = .ok (.bipush 59, 2) := by decide +kernel
theorem dX6_readPlayer_43 : decode cX6_readPlayer 43 = .ok (.invokevirtual 45, 3) := by decide +kernel
theorem dX6_readPlayer_46 : decode cX6_readPlayer 46 = .ok (.aload_n 1, 1) := by decide +kernel
theorem dX6_readPlayer_47 : decode cX6_readPlayer 47 = .ok (.iload_n 2, 1) := by decide +kernel
theorem dX6_readPlayer_48 : decode cX6_readPlayer 48 = .ok (.iconst 1, 1) := by decide +kernel
theorem dX6_readPlayer_49 : decode cX6_readPlayer 49 = .ok (.iadd, 1) := by decide +kernel
theorem dX6_readPlayer_50 : decode cX6_readPlayer 50 = .ok (.putfield 85, 3) := by decide +kernel
theorem dX6_readPlayer_53 : decode cX6_readPlayer 53 = .ok (.return_, 1) := by decide +kernel
theorem dX6_readBoat_0 : decode cX6_readBoat 0 = .ok (.aload_n 1, 1) := by decide +kernel
theorem dX6_readBoat_1 : decode cX6_readBoat 1 = .ok (.getfield 91, 3) := by decide +kernel
theorem dX6_readBoat_4 : decode cX6_readBoat 4 = .ok (.istore_n 2, 1) := by decide +kernel
theorem dX6_readBoat_5 : decode cX6_readBoat 5 = .ok (.iload_n 2, 1) := by decide +kernel
theorem dX6_readBoat_6 : decode cX6_readBoat 6 = .ok (.iconst 4, 1) := by decide +kernel
theorem dX6_readBoat_7 : decode cX6_readBoat 7 = .ok (.if_icmp .lt 13, 3) := by decide +kernel
theorem dX6_readBoat_10 : decode cX6_readBoat 10 = .ok (.aload_n 0, 1) := by decide +kernel
theorem dX6_readBoat_11 : decode cX6_readBoat 11 = .ok (.iconst 3, 1) := by decide +kernel
theorem dX6_readBoat_12 : decode cX6_readBoat 12 = .ok (.aload_n 0, 1) := by decide +kernel
theorem dX6_readBoat_13 : decode cX6_readBoat 13 = .ok (.getfield 23, 3) := by decide +kernel
theorem dX6_readBoat_16 : decode cX6_readBoat 16 = .ok (.invokevirtual 63, 3) := by decide +kernel
theorem dX6_readBoat_19 : decode cX6_readBoat 19 = .ok (.return_, 1) := by decide +kernel
theorem dX6_readBoat_20 : decode cX6_readBoat 20 = .ok (.aload_n 0, 1) := by decide +kernel
theorem dX6_readBoat_21 : decode cX6_readBoat 21 = .ok (.bipush 98, 2) := by decide +kernel
theorem dX6_readBoat_23 : decode cX6_readBoat 23 = .ok (.invokevirtual 45, 3) := by decide +kernel
theorem dX6_readBoat_26 : decode cX6_readBoat 26 = .ok (.aload_n 1, 1) := by decide +kernel
theorem dX6_readBoat_27 : decode cX6_readBoat 27 = .ok (.getfield 94, 3) := by decide +kernel
theorem dX6_readBoat_30 : decode cX6_readBoat 30 = .ok (.iload_n 2, 1) := by decide +kernel
theorem dX6_readBoat_31 : decode cX6_readBoat 31 = .ok (.aload_n 0, 1) := by decide +kernel
theorem dX6_readBoat_32 : decode cX6_readBoat 32 = .ok (.iconst 1, 1) := by decide +kernel
theorem dX6_readBoat_33 : decode cX6_readBoat 33 = .ok (.bipush 30, 2) := by decide +kernel
theorem dX6_readBoat_35 : decode cX6_readBoat 35 = .ok (.invokevirtual 52, 3) := by decide +kernel
theorem dX6_readBoat_38 : decode cX6_readBoat 38 = .ok (.iastore, 1) := by decide +kernel
theorem dX6_readBoat_39 : decode cX6_readBoat 39 = .ok (.aload_n 1, 1) := by decide +kernel
theorem dX6_readBoat_40 : decode cX6_readBoat 40 = .ok (.getfield 97, 3) := by decide +kernel
theorem dX6_readBoat_43 : decode cX6_readBoat 43 = .ok (.iload_n 2, 1) := by decide +kernel
theorem dX6_readBoat_44 : decode cX6_readBoat 44 = .ok (.aload_n 0, 1) := by decide +kernel
theorem dX6_readBoat_45 : decode cX6_readBoat 45 = .ok (.iconst 0, 1) := by decide +kernel
theorem dX6_readBoat_46 : decode cX6_readBoat 46 = .ok (.aload_n 1, 1) := by decide +kernel
theorem dX6_readBoat_47 : decode cX6_readBoat 47 = .ok (.getfield 56, 3) := by decide +kernel
theorem dX6_readBoat_50 : decode cX6_readBoat 50 = .ok (.iconst 1, 1) := by decide +kernel
theorem dX6_readBoat_51 : decode cX6_readBoat 51 = .ok (.isub, 1) := by decide +kernel
theorem dX6_readBoat_52 : decode cX6_readBoat 52 = .ok (.invokevirtual 52, 3) := by decide +kernel
theorem dX6_readBoat_55 : decode cX6_readBoat 55 = .ok (.iastore, 1) := by decide +kernel
theorem dX6_readBoat_56 : decode cX6_readBoat 56 = .ok (.aload_n 1, 1) := by decide +kernel
theorem dX6_readBoat_57 : decode cX6_readBoat 57 = .ok (.getfield 100, 3) := by decide +kernel
theorem dX6_readBoat_60 : decode cX6_readBoat 60 = .ok (.iload_n 2, 1) := by decide +kernel
theorem dX6_readBoat_61 : decode cX6_readBoat 61 = .ok (.aload_n 0, 1) := by decide +kernel
theorem dX6_readBoat_62 : decode cX6_readBoat 62 = .ok (.iconst 0, 1) := by decide +kernel
theorem dX6_readBoat_63 : decode cX6_readBoat 63 = .ok (.aload_n 1, 1) := by decide +kernel
theorem dX6_readBoat_64 : decode cX6_readBoat 64 = .ok (.getfield 56, 3) := by decide +kernel
theorem dX6_readBoat_67 : decode cX6_readBoat 67 = .ok (.iconst 1, 1) := by decide +kernel
theorem dX6_readBoat_68 : decode cX6_readBoat 68 = .ok (.isub, 1) := by decide +kernel
theorem dX6_readBoat_69 : decode cX6_readBoat 69 = .ok (.invokevirtual 52, 3) := by decide +kernel
theorem dX6_readBoat_72 : decode cX6_readBoat 72 = .ok (.iastore, 1) := by decide +kernel
theorem dX6_readBoat_73 : decode cX6_readBoat 73 = .ok (.aload_n 0, 1) := by decide +kernel
theorem dX6_readBoat_74 : decode cX6_readBoat 74 = .ok (.bipush 59, 2) := by decide +kernel
theorem dX6_readBoat_76 : decode cX6_readBoat 76 = .ok (.invokevirtual 45, 3) := by decide +kernel
theorem dX6_readBoat_79 : decode cX6_readBoat 79 = .ok (.aload_n 1, 1) := by decide +kernel
theorem dX6_readBoat_80 : decode cX6_readBoat 80 = .ok (.iload_n 2, 1) := by decide +kernel
theorem dX6_readBoat_81 : decode cX6_readBoat 81 = .ok (.iconst 1, 1) := by decide +kernel
theorem dX6_readBoat_82 : decode cX6_readBoat 82 = .ok (.iadd, 1) := by decide +kernel
theorem dX6_readBoat_83 : decode cX6_readBoat 83 = .ok (.putfield 91, 3) := by decide +kernel
theorem dX6_readBoat_86 : decode cX6_readBoat 86 = .ok (.return_, 1) := by decide +kernel
theorem dX6_moreComes_0 : decode cX6_moreComes 0 = .ok (.aload_n 0, 1) := by decide +kernel
theorem dX6_moreComes_1 : decode cX6_moreComes 1 = .ok (.getfield 23, 3) := by decide +kernel
theorem dX6_moreComes_4 : decode cX6_moreComes 4 = .ok (.aload_n 0, 1) := by decide +kernel
theorem dX6_moreComes_5 : decode cX6_moreComes 5 = .ok (.getfield 19, 3) := by decide +kernel
theorem dX6_moreComes_8 : decode cX6_moreComes 8 = .ok (.if_icmp .ge 30, 3) := by decide +kernel
theorem dX6_moreComes_11 : decode cX6_moreComes 11 = .ok (.aload_n 0, 1) := by decide +kernel
theorem dX6_moreComes_12 : decode cX6_moreComes 12 = .ok (.getfield 9, 3) := by decide +kernel
theorem dX6_moreComes_15 : decode cX6_moreComes 15 = .ok (.aload_n 0, 1) := by decide +kernel
theorem dX6_moreComes_16 : decode cX6_moreComes 16 = .ok (.getfield 23, 3) := by decide +kernel
theorem dX6_moreComes_19 : decode cX6_moreComes 19 = .ok (.iaload, 1) := by decide +kernel
theorem dX6_moreComes_20 : decode cX6_moreComes 20 = .ok (.bipush 32, 2) := by decide +kernel
theorem dX6_moreComes_22 : decode cX6_moreComes 22 = .ok (.if_icmp .ne 16, 3) := by decide +kernel
theorem dX6_moreComes_25 : decode cX6_moreComes 25 = .ok (.aload_n 0, 1) := by decide +kernel
theorem dX6_moreComes_26 : decode cX6_moreComes 26 = .ok (.dup, 1) := by decide +kernel
theorem dX6_moreComes_27 : decode cX6_moreComes 27 = .ok (.getfield 23, 3) := by decide +kernel
theorem dX6_moreComes_30 : decode cX6_moreComes 30 = .ok (.iconst 1, 1) := by decide +kernel
theorem dX6_moreComes_31 : decode cX6_moreComes 31 = .ok (.iadd, 1) := by decide +kernel
theorem dX6_moreComes_32 : decode cX6_moreComes 32 = .ok (.putfield 23, 3) := by decide +kernel
theorem dX6_moreComes_35 : decode cX6_moreComes 35 = .ok (.goto (-35), 3) := by decide +kernel
theorem dX6_moreComes_38 : decode cX6_moreComes 38 = .ok (.aload_n 0, 1) := by decide +kernel
theorem dX6_moreComes_39 : decode cX6_moreComes 39 = .ok (.getfield 23, 3) := by decide +kernel
theorem dX6_moreComes_42 : decode cX6_moreComes 42 = .ok (.aload_n 0, 1) := by decide +kernel
theorem dX6_moreComes_43 : decode cX6_moreComes 43 = .ok (.getfield 19, 3) := by decide +kernel
theorem dX6_moreComes_46 : decode cX6_moreComes 46 = .ok (.if_icmp .ge 7, 3) := by decide +kernel
theorem dX6_moreComes_49 : decode cX6_moreComes 49 = .ok (.iconst 1, 1) := by decide +kernel
theorem dX6_moreComes_50 : decode cX6_moreComes 50 = .ok (.goto 4, 3) := by decide +kernel
theorem dX6_moreComes_53 : decode cX6_moreComes 53 = .ok (.iconst 0, 1) := by decide +kernel
theorem dX6_moreComes_54 : decode cX6_moreComes 54 = .ok (.ireturn, 1) := by decide +kernel
theorem dX6_nextIs_0 : decode cX6_nextIs 0 = .ok (.aload_n 0, 1) := by decide +kernel
theorem dX6_nextIs_1 : decode cX6_nextIs 1 = .ok (.invokevirtual 34, 3) := by decide +kernel
theorem dX6_nextIs_4 : decode cX6_nextIs 4 = .ok (.ifCond .eq 20, 3) := by decide +kernel
theorem dX6_nextIs_7 : decode cX6_nextIs 7 = .ok (.aload_n 0, 1) := by decide +kernel
theorem dX6_nextIs_8 : decode cX6_nextIs 8 = .ok (.getfield 9, 3) := by decide +kernel
theorem dX6_nextIs_11 : decode cX6_nextIs 11 = .ok (.aload_n 0, 1) := by decide +kernel
theorem dX6_nextIs_12 : decode cX6_nextIs 12 = .ok (.getfield 23, 3) := by decide +kernel
theorem dX6_nextIs_15 : decode cX6_nextIs 15 = .ok (.iaload, 1) := by decide +kernel
theorem dX6_nextIs_16 : decode cX6_nextIs 16 = .ok (.iload_n 1, 1) := by decide +kernel
theorem dX6_nextIs_17 : decode cX6_nextIs 17 = .ok (.if_icmp .ne 7, 3) := by decide +kernel
theorem dX6_nextIs_20 : decode cX6_nextIs 20 = .ok (.iconst 1, 1) := by decide +kernel
theorem dX6_nextIs_21 : decode cX6_nextIs 21 = .ok (.goto 4, 3) := by decide +kernel
theorem dX6_nextIs_24 : decode cX6_nextIs 24 = .ok (.iconst 0, 1) := by decide +kernel
theorem dX6_nextIs_25 : decode cX6_nextIs 25 = .ok (.ireturn, 1) := by decide +kernel
theorem dX6_takeSign_0 : decode cX6_takeSign 0 = .ok (.aload_n 0, 1) := by decide +kernel
theorem dX6_takeSign_1 : decode cX6_takeSign 1 = .ok (.iload_n 1, 1) := by decide +kernel
theorem dX6_takeSign_2 : decode cX6_takeSign 2 = .ok (.invokevirtual 59, 3) := by decide +kernel
theorem dX6_takeSign_5 : decode cX6_takeSign 5 = .ok (.ifCond .eq 16, 3) := by decide +kernel
theorem dX6_takeSign_8 : decode cX6_takeSign 8 = .ok (.aload_n 0, 1) := by decide +kernel
theorem dX6_takeSign_9 : decode cX6_takeSign 9 = .ok (.dup, 1) := by decide +kernel
theorem dX6_takeSign_10 : decode cX6_takeSign 10 = .ok (.getfield 23, 3) := by decide +kernel
theorem dX6_takeSign_13 : decode cX6_takeSign 13 = .ok (.iconst 1, 1) := by decide +kernel
theorem dX6_takeSign_14 : decode cX6_takeSign 14 = .ok (.iadd, 1) := by decide +kernel
theorem dX6_takeSign_15 : decode cX6_takeSign 15 = .ok (.putfield 23, 3) := by decide +kernel
theorem dX6_takeSign_18 : decode cX6_takeSign 18 = .ok (.goto 12, 3) := by decide +kernel
theorem dX6_takeSign_21 : decode cX6_takeSign 21 = .ok (.aload_n 0, 1) := by decide +kernel
theorem dX6_takeSign_22 : decode cX6_takeSign 22 = .ok (.iconst 1, 1) := by decide +kernel
theorem dX6_takeSign_23 : decode cX6_takeSign 23 = .ok (.aload_n 0, 1) := by decide +kernel
theorem dX6_takeSign_24 : decode cX6_takeSign 24 = .ok (.getfield 23, 3) := by decide +kernel
theorem dX6_takeSign_27 : decode cX6_takeSign 27 = .ok (.invokevirtual 63, 3) := by decide +kernel
theorem dX6_takeSign_30 : decode cX6_takeSign 30 = .ok (.return_, 1) := by decide +kernel
theorem dX6_isFigure_0 : decode cX6_isFigure 0 = .ok (.iload_n 0, 1) := by decide +kernel
theorem dX6_isFigure_1 : decode cX6_isFigure 1 = .ok (.bipush 48, 2) := by decide +kernel
theorem dX6_isFigure_3 : decode cX6_isFigure 3 = .ok (.if_icmp .lt 13, 3) := by decide +kernel
theorem dX6_isFigure_6 : decode cX6_isFigure 6 = .ok (.iload_n 0, 1) := by decide +kernel
theorem dX6_isFigure_7 : decode cX6_isFigure 7 = .ok (.bipush 57, 2) := by decide +kernel
theorem dX6_isFigure_9 : decode cX6_isFigure 9 = .ok (.if_icmp .gt 7, 3) := by decide +kernel
theorem dX6_isFigure_12 : decode cX6_isFigure 12 = .ok (.iconst 1, 1) := by decide +kernel
theorem dX6_isFigure_13 : decode cX6_isFigure 13 = .ok (.goto 4, 3) := by decide +kernel
theorem dX6_isFigure_16 : decode cX6_isFigure 16 = .ok (.iconst 0, 1) := by decide +kernel
theorem dX6_isFigure_17 : decode cX6_isFigure 17 = .ok (.ireturn, 1) := by decide +kernel
theorem dX6_takeNumber_0 : decode cX6_takeNumber 0 = .ok (.aload_n 0, 1) := by decide +kernel
theorem dX6_takeNumber_1 : decode cX6_takeNumber 1 = .ok (.invokevirtual 34, 3) := by decide +kernel
theorem dX6_takeNumber_4 : decode cX6_takeNumber 4 = .ok (.pop, 1) := by decide +kernel
theorem dX6_takeNumber_5 : decode cX6_takeNumber 5 = .ok (.aload_n 0, 1) := by decide +kernel
theorem dX6_takeNumber_6 : decode cX6_takeNumber 6 = .ok (.getfield 23, 3) := by decide +kernel
theorem dX6_takeNumber_9 : decode cX6_takeNumber 9 = .ok (.istore_n 3, 1) := by decide +kernel
theorem dX6_takeNumber_10 : decode cX6_takeNumber 10 = .ok (.iconst 0, 1) := by decide +kernel
theorem dX6_takeNumber_11 : decode cX6_takeNumber 11 = .ok (.istore 4, 2) := by decide +kernel
theorem dX6_takeNumber_13 : decode cX6_takeNumber 13 = .ok (.aload_n 0, 1) := by decide +kernel
theorem dX6_takeNumber_14 : decode cX6_takeNumber 14 = .ok (.getfield 23, 3) := by decide +kernel
theorem dX6_takeNumber_17 : decode cX6_takeNumber 17 = .ok (.aload_n 0, 1) := by decide +kernel
theorem dX6_takeNumber_18 : decode cX6_takeNumber 18 = .ok (.getfield 19, 3) := by decide +kernel
theorem dX6_takeNumber_21 : decode cX6_takeNumber 21 = .ok (.if_icmp .ge 61, 3) := by decide +kernel
theorem dX6_takeNumber_24 : decode cX6_takeNumber 24 = .ok (.aload_n 0, 1) := by decide +kernel
theorem dX6_takeNumber_25 : decode cX6_takeNumber 25 = .ok (.getfield 9, 3) := by decide +kernel
theorem dX6_takeNumber_28 : decode cX6_takeNumber 28 = .ok (.aload_n 0, 1) := by decide +kernel
theorem dX6_takeNumber_29 : decode cX6_takeNumber 29 = .ok (.getfield 23, 3) := by decide +kernel
theorem dX6_takeNumber_32 : decode cX6_takeNumber 32 = .ok (.iaload, 1) := by decide +kernel
theorem dX6_takeNumber_33 : decode cX6_takeNumber 33 = .ok (.invokestatic 103, 3) := by decide +kernel
theorem dX6_takeNumber_36 : decode cX6_takeNumber 36 = .ok (.ifCond .eq 46, 3) := by decide +kernel
theorem dX6_takeNumber_39 : decode cX6_takeNumber 39 = .ok (.aload_n 0, 1) := by decide +kernel
theorem dX6_takeNumber_40 : decode cX6_takeNumber 40 = .ok (.getfield 23, 3) := by decide +kernel
theorem dX6_takeNumber_43 : decode cX6_takeNumber 43 = .ok (.iload_n 3, 1) := by decide +kernel
theorem dX6_takeNumber_44 : decode cX6_takeNumber 44 = .ok (.isub, 1) := by decide +kernel
theorem dX6_takeNumber_45 : decode cX6_takeNumber 45 = .ok (.iconst 3, 1) := by decide +kernel
theorem dX6_takeNumber_46 : decode cX6_takeNumber 46 = .ok (.if_icmp .ge 23, 3) := by decide +kernel
theorem dX6_takeNumber_49 : decode cX6_takeNumber 49 = .ok (.iload 4, 2) := by decide +kernel
theorem dX6_takeNumber_51 : decode cX6_takeNumber 51 = .ok (.bipush 10, 2) := by decide +kernel
theorem dX6_takeNumber_53 : decode cX6_takeNumber 53 = .ok (.imul, 1) := by decide +kernel
theorem dX6_takeNumber_54 : decode cX6_takeNumber 54 = .ok (.aload_n 0, 1) := by decide +kernel
theorem dX6_takeNumber_55 : decode cX6_takeNumber 55 = .ok (.getfield 9, 3) := by decide +kernel
theorem dX6_takeNumber_58 : decode cX6_takeNumber 58 = .ok (.aload_n 0, 1) := by decide +kernel
theorem dX6_takeNumber_59 : decode cX6_takeNumber 59 = .ok (.getfield 23, 3) := by decide +kernel
theorem dX6_takeNumber_62 : decode cX6_takeNumber 62 = .ok (.iaload, 1) := by decide +kernel
theorem dX6_takeNumber_63 : decode cX6_takeNumber 63 = .ok (.iadd, 1) := by decide +kernel
theorem dX6_takeNumber_64 : decode cX6_takeNumber 64 = .ok (.bipush 48, 2) := by decide +kernel
theorem dX6_takeNumber_66 : decode cX6_takeNumber 66 = .ok (.isub, 1) := by decide +kernel
theorem dX6_takeNumber_67 : decode cX6_takeNumber 67 = .ok (.istore 4, 2) := by decide +kernel
theorem dX6_takeNumber_69 : decode cX6_takeNumber 69 = .ok (.aload_n 0, 1) := by decide +kernel
theorem dX6_takeNumber_70 : decode cX6_takeNumber 70 = .ok (.dup, 1) := by decide +kernel
theorem dX6_takeNumber_71 : decode cX6_takeNumber 71 = .ok (.getfield 23, 3) := by decide +kernel
theorem dX6_takeNumber_74 : decode cX6_takeNumber 74 = .ok (.iconst 1, 1) := by decide +kernel
theorem dX6_takeNumber_75 : decode cX6_takeNumber 75 = .ok (.iadd, 1) := by decide +kernel
theorem dX6_takeNumber_76 : decode cX6_takeNumber 76 = .ok (.putfield 23, 3) := by decide +kernel
theorem dX6_takeNumber_79 : decode cX6_takeNumber 79 = .ok (.goto (-66), 3) := by decide +kernel
theorem dX6_takeNumber_82 : decode cX6_takeNumber 82 = .ok (.aload_n 0, 1) := by decide +kernel
theorem dX6_takeNumber_83 : decode cX6_takeNumber 83 = .ok (.getfield 23, 3) := by decide +kernel
theorem dX6_takeNumber_86 : decode cX6_takeNumber 86 = .ok (.iload_n 3, 1) := by decide +kernel
theorem dX6_takeNumber_87 : decode cX6_takeNumber 87 = .ok (.if_icmp .ne 15, 3) := by decide +kernel
theorem dX6_takeNumber_90 : decode cX6_takeNumber 90 = .ok (.aload_n 0, 1) := by decide +kernel
theorem dX6_takeNumber_91 : decode cX6_takeNumber 91 = .ok (.iconst 1, 1) := by decide +kernel
theorem dX6_takeNumber_92 : decode cX6_takeNumber 92 = .ok (.aload_n 0, 1) := by decide +kernel
theorem dX6_takeNumber_93 : decode cX6_takeNumber 93 = .ok (.getfield 23, 3) := by decide +kernel
theorem dX6_takeNumber_96 : decode cX6_takeNumber 96 = .ok (.invokevirtual 63, 3) := by decide +kernel
theorem dX6_takeNumber_99 : decode cX6_takeNumber 99 = .ok (.goto 31, 3) := by decide +kernel
theorem dX6_takeNumber_102 : decode cX6_takeNumber 102 = .ok (.aload_n 0, 1) := by decide +kernel
theorem dX6_takeNumber_103 : decode cX6_takeNumber 103 = .ok (.getfield 23, 3) := by decide +kernel
theorem dX6_takeNumber_106 : decode cX6_takeNumber 106 = .ok (.iload_n 3, 1) := by decide +kernel
theorem dX6_takeNumber_107 : decode cX6_takeNumber 107 = .ok (.isub, 1) := by decide +kernel
theorem dX6_takeNumber_108 : decode cX6_takeNumber 108 = .ok (.iconst 3, 1) := by decide +kernel
theorem dX6_takeNumber_109 : decode cX6_takeNumber 109 = .ok (.if_icmp .gt 15, 3) := by decide +kernel
theorem dX6_takeNumber_112 : decode cX6_takeNumber 112 = .ok (.iload 4, 2) := by decide +kernel
theorem dX6_takeNumber_114 : decode cX6_takeNumber 114 = .ok (.iload_n 1, 1) := by decide +kernel
theorem dX6_takeNumber_115 : decode cX6_takeNumber 115 = .ok (.if_icmp .lt 9, 3) := by decide +kernel
theorem dX6_takeNumber_118 : decode cX6_takeNumber 118 = .ok (.iload 4, 2) := by decide +kernel
theorem dX6_takeNumber_120 : decode cX6_takeNumber 120 = .ok (.iload_n 2, 1) := by decide +kernel
theorem dX6_takeNumber_121 : decode cX6_takeNumber 121 = .ok (.if_icmp .le 9, 3) := by decide +kernel
theorem dX6_takeNumber_124 : decode cX6_takeNumber 124 = .ok (.aload_n 0, 1) := by decide +kernel
theorem dX6_takeNumber_125 : decode cX6_takeNumber 125 = .ok (.iconst 2, 1) := by decide +kernel
theorem dX6_takeNumber_126 : decode cX6_takeNumber 126 = .ok (.iload_n 3, 1) := by decide +kernel
theorem dX6_takeNumber_127 : decode cX6_takeNumber 127 = .ok (.invokevirtual 63, 3) := by decide +kernel
theorem dX6_takeNumber_130 : decode cX6_takeNumber 130 = .ok (.iload 4, 2) := by decide +kernel
theorem dX6_takeNumber_132 : decode cX6_takeNumber 132 = .ok (.ireturn, 1) := by decide +kernel
theorem dX6_fail_0 : decode cX6_fail 0 = .ok (.aload_n 0, 1) := by decide +kernel
theorem dX6_fail_1 : decode cX6_fail 1 = .ok (.getfield 26, 3) := by decide +kernel
theorem dX6_fail_4 : decode cX6_fail 4 = .ok (.ifCond .ne 13, 3) := by decide +kernel
theorem dX6_fail_7 : decode cX6_fail 7 = .ok (.aload_n 0, 1) := by decide +kernel
theorem dX6_fail_8 : decode cX6_fail 8 = .ok (.iload_n 1, 1) := by decide +kernel
theorem dX6_fail_9 : decode cX6_fail 9 = .ok (.putfield 26, 3) := by decide +kernel
theorem dX6_fail_12 : decode cX6_fail 12 = .ok (.aload_n 0, 1) := by decide +kernel
theorem dX6_fail_13 : decode cX6_fail 13 = .ok (.iload_n 2, 1) := by decide +kernel
theorem dX6_fail_14 : decode cX6_fail 14 = .ok (.putfield 15, 3) := by decide +kernel
theorem dX6_fail_17 : decode cX6_fail 17 = .ok (.return_, 1) := by decide +kernel
theorem dX7_init_0 : decode cX7_init 0 = .ok (.aload_n 0, 1) := by decide +kernel
theorem dX7_init_1 : decode cX7_init 1 = .ok (.invokespecial 3, 3) := by decide +kernel
theorem dX7_init_4 : decode cX7_init 4 = .ok (.aload_n 0, 1) := by decide +kernel
theorem dX7_init_5 : decode cX7_init 5 = .ok (.bipush 6, 2) := by decide +kernel
theorem dX7_init_7 : decode cX7_init 7 = .ok (.sipush 200, 3) := by decide +kernel
theorem dX7_init_10 : decode cX7_init 10 = .ok (.multianewarray 9 2, 4) := by decide +kernel
theorem dX7_init_14 : decode cX7_init 14 = .ok (.putfield 11, 3) := by decide +kernel
theorem dX7_init_17 : decode cX7_init 17 = .ok (.return_, 1) := by decide +kernel
theorem dX7_fitting_0 : decode cX7_fitting 0 = .ok (.iconst 0, 1) := by decide +kernel
theorem dX7_fitting_1 : decode cX7_fitting 1 = .ok (.istore 5, 2) := by decide +kernel
theorem dX7_fitting_3 : decode cX7_fitting 3 = .ok (.iconst 0, 1) := by decide +kernel
theorem dX7_fitting_4 : decode cX7_fitting 4 = .ok (.istore 6, 2) := by decide +kernel
theorem dX7_fitting_6 : decode cX7_fitting 6 = .ok (.iload 6, 2) := by decide +kernel
theorem dX7_fitting_8 : decode cX7_fitting 8 = .ok (.aload_n 1, 1) := by decide +kernel
theorem dX7_fitting_9 : decode cX7_fitting 9 = .ok (.getfield 16, 3) := by decide +kernel
theorem dX7_fitting_12 : decode cX7_fitting 12 = .ok (.if_icmp .ge 43, 3) := by decide +kernel
theorem dX7_fitting_15 : decode cX7_fitting 15 = .ok (.aload_n 2, 1) := by decide +kernel
theorem dX7_fitting_16 : decode cX7_fitting 16 = .ok (.getfield 22, 3) := by decide +kernel
theorem dX7_fitting_19 : decode cX7_fitting 19 = .ok (.iload 6, 2) := by decide +kernel
theorem dX7_fitting_21 : decode cX7_fitting 21 = .ok (.iaload, 1) := by decide +kernel
theorem dX7_fitting_22 : decode cX7_fitting 22 = .ok (.iconst (-1), 1) := by decide +kernel
theorem dX7_fitting_23 : decode cX7_fitting 23 = .ok (.if_icmp .eq 26, 3) := by decide +kernel
theorem dX7_fitting_26 : decode cX7_fitting 26 = .ok (.aload_n 0, 1) := by decide +kernel
theorem dX7_fitting_27 : decode cX7_fitting 27 = .ok (.iload 6, 2) := by decide +kernel
theorem dX7_fitting_29 : decode cX7_fitting 29 = .ok (.aload_n 1, 1) := by decide +kernel
theorem dX7_fitting_30 : decode cX7_fitting 30 = .ok (.aload_n 2, 1) := by decide +kernel
theorem dX7_fitting_31 : decode cX7_fitting 31 = .ok (.aload_n 3, 1) := by decide +kernel
theorem dX7_fitting_32 : decode cX7_fitting 32 = .ok (.aload 4, 2) := by decide +kernel
theorem dX7_fitting_34 : decode cX7_fitting 34 = .ok (.invokevirtual 28, 3) := by decide +kernel
theorem dX7_fitting_37 : decode cX7_fitting 37 = .ok (.ifCond .eq 12, 3) := by decide +kernel
theorem dX7_fitting_40 : decode cX7_fitting 40 = .ok (.iload 5, 2) := by decide +kernel
theorem dX7_fitting_42 : decode cX7_fitting 42 = .ok (.iconst 1, 1) := by decide +kernel
theorem dX7_fitting_43 : decode cX7_fitting 43 = .ok (.iload 6, 2) := by decide +kernel
theorem dX7_fitting_45 : decode cX7_fitting 45 = .ok (.ishl, 1) := by decide +kernel
theorem dX7_fitting_46 : decode cX7_fitting 46 = .ok (.ior, 1) := by decide +kernel
theorem dX7_fitting_47 : decode cX7_fitting 47 = .ok (.istore 5, 2) := by decide +kernel
theorem dX7_fitting_49 : decode cX7_fitting 49 = .ok (.iinc 6 1, 3) := by decide +kernel
theorem dX7_fitting_52 : decode cX7_fitting 52 = .ok (.goto (-46), 3) := by decide +kernel
theorem dX7_fitting_55 : decode cX7_fitting 55 = .ok (.iload 5, 2) := by decide +kernel
theorem dX7_fitting_57 : decode cX7_fitting 57 = .ok (.ireturn, 1) := by decide +kernel
theorem dX7_fits_0 : decode cX7_fits 0 = .ok (.aload_n 0, 1) := by decide +kernel
theorem dX7_fits_1 : decode cX7_fits 1 = .ok (.iload_n 1, 1) := by decide +kernel
theorem dX7_fits_2 : decode cX7_fits 2 = .ok (.aload_n 3, 1) := by decide +kernel
theorem dX7_fits_3 : decode cX7_fits 3 = .ok (.aload 5, 2) := by decide +kernel
theorem dX7_fits_5 : decode cX7_fits 5 = .ok (.invokevirtual 32, 3) := by decide +kernel
theorem dX7_fits_8 : decode cX7_fits 8 = .ok (.aload 4, 2) := by decide +kernel
theorem dX7_fits_10 : decode cX7_fits 10 = .ok (.invokevirtual 36, 3) := by decide +kernel
theorem dX7_fits_13 : decode cX7_fits 13 = .ok (.istore 6, 2) := by decide +kernel
theorem dX7_fits_15 : decode cX7_fits 15 = .ok (.iconst 1, 1) := by decide +kernel
theorem dX7_fits_16 : decode cX7_fits 16 = .ok (.istore 7, 2) := by decide +kernel
theorem dX7_fits_18 : decode cX7_fits 18 = .ok (.iload 7, 2) := by decide +kernel
theorem dX7_fits_20 : decode cX7_fits 20 = .ok (.iload 6, 2) := by decide +kernel
theorem dX7_fits_22 : decode cX7_fits 22 = .ok (.if_icmp .gt 30, 3) := by decide +kernel
theorem dX7_fits_25 : decode cX7_fits 25 = .ok (.aload 5, 2) := by decide +kernel
theorem dX7_fits_27 : decode cX7_fits 27 = .ok (.aload_n 2, 1) := by decide +kernel
theorem dX7_fits_28 : decode cX7_fits 28 = .ok (.invokevirtual 42, 3) := by decide +kernel
theorem dX7_fits_31 : decode cX7_fits 31 = .ok (.aload 4, 2) := by decide +kernel
theorem dX7_fits_33 : decode cX7_fits 33 = .ok (.iload 7, 2) := by decide +kernel
theorem dX7_fits_35 : decode cX7_fits 35 = .ok (.aload_n 2, 1) := by decide +kernel
theorem dX7_fits_36 : decode cX7_fits 36 = .ok (.aload 5, 2) := by decide +kernel
theorem dX7_fits_38 : decode cX7_fits 38 = .ok (.invokevirtual 46, 3) := by decide +kernel
theorem dX7_fits_41 : decode cX7_fits 41 = .ok (.ifCond .ne 5, 3) := by decide +kernel
theorem dX7_fits_44 : decode cX7_fits 44 = .ok (.iconst 0, 1) := by decide +kernel
theorem dX7_fits_45 : decode cX7_fits 45 = .ok (.ireturn, 1) := by decide +kernel
theorem dX7_fits_46 : decode cX7_fits 46 = .ok (.iinc 7 1, 3) := by decide +kernel
theorem dX7_fits_49 : decode cX7_fits 49 = .ok (.goto (-31), 3) := by decide +kernel
theorem dX7_fits_52 : decode cX7_fits 52 = .ok (.iconst 1, 1) := by decide +kernel
theorem dX7_fits_53 : decode cX7_fits 53 = .ok (.ireturn, 1) := by decide +kernel
theorem dX7_beginAsleep_0 : decode cX7_beginAsleep 0 = .ok (.aload_n 3, 1) := by decide +kernel
theorem dX7_beginAsleep_1 : decode cX7_beginAsleep 1 = .ok (.aload_n 2, 1) := by decide +kernel
theorem dX7_beginAsleep_2 : decode cX7_beginAsleep 2 = .ok (.invokevirtual 50, 3) := by decide +kernel
theorem dX7_beginAsleep_5 : decode cX7_beginAsleep 5 = .ok (.aload_n 3, 1) := by decide +kernel
theorem dX7_beginAsleep_6 : decode cX7_beginAsleep 6 = .ok (.iconst 1, 1) := by decide +kernel
theorem dX7_beginAsleep_7 : decode cX7_beginAsleep 7 = .ok (.iload_n 1, 1) := by decide +kernel
theorem dX7_beginAsleep_8 : decode cX7_beginAsleep 8 = .ok (.ishl, 1) := by decide +kernel
theorem dX7_beginAsleep_9 : decode cX7_beginAsleep 9 = .ok (.putfield 54, 3) := by decide +kernel
theorem dX7_beginAsleep_12 : decode cX7_beginAsleep 12 = .ok (.return_, 1) := by decide +kernel
theorem dX7_bestMark_0 : decode cX7_bestMark 0 = .ok (.iconst 0, 1) := by decide +kernel
theorem dX7_bestMark_1 : decode cX7_bestMark 1 = .ok (.istore 5, 2) := by decide +kernel
theorem dX7_bestMark_3 : decode cX7_bestMark 3 = .ok (.iconst 0, 1) := by decide +kernel
theorem dX7_bestMark_4 : decode cX7_bestMark 4 = .ok (.istore 6, 2) := by decide +kernel
theorem dX7_bestMark_6 : decode cX7_bestMark 6 = .ok (.iload 6, 2) := by decide +kernel
theorem dX7_bestMark_8 : decode cX7_bestMark 8 = .ok (.aload_n 2, 1) := by decide +kernel
theorem dX7_bestMark_9 : decode cX7_bestMark 9 = .ok (.getfield 16, 3) := by decide +kernel
theorem dX7_bestMark_12 : decode cX7_bestMark 12 = .ok (.if_icmp .ge 40, 3) := by decide +kernel
theorem dX7_bestMark_15 : decode cX7_bestMark 15 = .ok (.iload_n 1, 1) := by decide +kernel
theorem dX7_bestMark_16 : decode cX7_bestMark 16 = .ok (.iload 6, 2) := by decide +kernel
theorem dX7_bestMark_18 : decode cX7_bestMark 18 = .ok (.ishr, 1) := by decide +kernel
theorem dX7_bestMark_19 : decode cX7_bestMark 19 = .ok (.iconst 1, 1) := by decide +kernel
theorem dX7_bestMark_20 : decode cX7_bestMark 20 = .ok (.iand, 1) := by decide +kernel
theorem dX7_bestMark_21 : decode cX7_bestMark 21 = .ok (.iconst 1, 1) := by decide +kernel
theorem dX7_bestMark_22 : decode cX7_bestMark 22 = .ok (.if_icmp .ne 24, 3) := by decide +kernel
theorem dX7_bestMark_25 : decode cX7_bestMark 25 = .ok (.aload_n 0, 1) := by decide +kernel
theorem dX7_bestMark_26 : decode cX7_bestMark 26 = .ok (.iload 6, 2) := by decide +kernel
theorem dX7_bestMark_28 : decode cX7_bestMark 28 = .ok (.aload_n 3, 1) := by decide +kernel
theorem dX7_bestMark_29 : decode cX7_bestMark 29 = .ok (.aload 4, 2) := by decide +kernel
theorem dX7_bestMark_31 : decode cX7_bestMark 31 = .ok (.invokevirtual 32, 3) := by decide +kernel
theorem dX7_bestMark_34 : decode cX7_bestMark 34 = .ok (.aload_n 0, 1) := by decide +kernel
theorem dX7_bestMark_35 : decode cX7_bestMark 35 = .ok (.iload 5, 2) := by decide +kernel
theorem dX7_bestMark_37 : decode cX7_bestMark 37 = .ok (.aload_n 2, 1) := by decide +kernel
theorem dX7_bestMark_38 : decode cX7_bestMark 38 = .ok (.aload 4, 2) := by decide +kernel
theorem dX7_bestMark_40 : decode cX7_bestMark 40 = .ok (.invokevirtual 57, 3) := by decide +kernel
theorem dX7_bestMark_43 : decode cX7_bestMark 43 = .ok (.iinc 5 1, 3) := by decide +kernel
theorem dX7_bestMark_46 : decode cX7_bestMark 46 = .ok (.iinc 6 1, 3) := by decide +kernel
theorem dX7_bestMark_49 : decode cX7_bestMark 49 = .ok (.goto (-43), 3) := by decide +kernel
theorem dX7_bestMark_52 : decode cX7_bestMark 52 = .ok (.iconst (-1), 1) := by decide +kernel
theorem dX7_bestMark_53 : decode cX7_bestMark 53 = .ok (.istore 6, 2) := by decide +kernel
theorem dX7_bestMark_55 : decode cX7_bestMark 55 = .ok (.iload 5, 2) := by decide +kernel
theorem dX7_bestMark_57 : decode cX7_bestMark 57 = .ok (.istore 7, 2) := by decide +kernel
theorem dX7_bestMark_59 : decode cX7_bestMark 59 = .ok (.iconst 0, 1) := by decide +kernel
theorem dX7_bestMark_60 : decode cX7_bestMark 60 = .ok (.istore 8, 2) := by decide +kernel
theorem dX7_bestMark_62 : decode cX7_bestMark 62 = .ok (.iload 8, 2) := by decide +kernel
theorem dX7_bestMark_64 : decode cX7_bestMark 64 = .ok (.aload_n 2, 1) := by decide +kernel
theorem dX7_bestMark_65 : decode cX7_bestMark 65 = .ok (.getfield 61, 3) := by decide +kernel
theorem dX7_bestMark_68 : decode cX7_bestMark 68 = .ok (.bipush 20, 2) := by decide +kernel
theorem dX7_bestMark_70 : decode cX7_bestMark 70 = .ok (.imul, 1) := by decide +kernel
theorem dX7_bestMark_71 : decode cX7_bestMark 71 = .ok (.if_icmp .ge 48, 3) := by decide +kernel
theorem dX7_bestMark_74 : decode cX7_bestMark 74 = .ok (.aload_n 0, 1) := by decide +kernel
theorem dX7_bestMark_75 : decode cX7_bestMark 75 = .ok (.iload 5, 2) := by decide +kernel
theorem dX7_bestMark_77 : decode cX7_bestMark 77 = .ok (.iload 8, 2) := by decide +kernel
theorem dX7_bestMark_79 : decode cX7_bestMark 79 = .ok (.invokevirtual 64, 3) := by decide +kernel
theorem dX7_bestMark_82 : decode cX7_bestMark 82 = .ok (.istore 9, 2) := by decide +kernel
theorem dX7_bestMark_84 : decode cX7_bestMark 84 = .ok (.iload 9, 2) := by decide +kernel
theorem dX7_bestMark_86 : decode cX7_bestMark 86 = .ok (.iload 7, 2) := by decide +kernel
theorem dX7_bestMark_88 : decode cX7_bestMark 88 = .ok (.if_icmp .ge 25, 3) := by decide +kernel
theorem dX7_bestMark_91 : decode cX7_bestMark 91 = .ok (.iload 9, 2) := by decide +kernel
theorem dX7_bestMark_93 : decode cX7_bestMark 93 = .ok (.istore 7, 2) := by decide +kernel
theorem dX7_bestMark_95 : decode cX7_bestMark 95 = .ok (.iload 8, 2) := by decide +kernel
theorem dX7_bestMark_97 : decode cX7_bestMark 97 = .ok (.bipush 20, 2) := by decide +kernel
theorem dX7_bestMark_99 : decode cX7_bestMark 99 = .ok (.idiv, 1) := by decide +kernel
theorem dX7_bestMark_100 : decode cX7_bestMark 100 = .ok (.bipush 100, 2) := by decide +kernel
theorem dX7_bestMark_102 : decode cX7_bestMark 102 = .ok (.imul, 1) := by decide +kernel
theorem dX7_bestMark_103 : decode cX7_bestMark 103 = .ok (.iload 8, 2) := by decide +kernel
theorem dX7_bestMark_105 : decode cX7_bestMark 105 = .ok (.bipush 20, 2) := by decide +kernel
theorem dX7_bestMark_107 : decode cX7_bestMark 107 = .ok (.irem, 1) := by decide +kernel
theorem dX7_bestMark_108 : decode cX7_bestMark 108 = .ok (.iadd, 1) := by decide +kernel
theorem dX7_bestMark_109 : decode cX7_bestMark 109 = .ok (.iconst 1, 1) := by decide +kernel
theorem dX7_bestMark_110 : decode cX7_bestMark 110 = .ok (.iadd, 1) := by decide +kernel
theorem dX7_bestMark_111 : decode cX7_bestMark 111 = .ok (.istore 6, 2) := by decide +kernel
theorem dX7_bestMark_113 : decode cX7_bestMark 113 = .ok (.iinc 8 1, 3) := by decide +kernel
theorem dX7_bestMark_116 : decode cX7_bestMark 116 = .ok (.goto (-54), 3) := by decide +kernel
theorem dX7_bestMark_119 : decode cX7_bestMark 119 = .ok (.iload 6, 2) := by decide +kernel
theorem dX7_bestMark_121 : decode cX7_bestMark 121 = .ok (.ireturn, 1) := by decide +kernel
theorem dX7_noteSeas_0 : decode cX7_noteSeas 0 = .ok (.iconst 0, 1) := by decide +kernel
theorem dX7_noteSeas_1 : decode cX7_noteSeas 1 = .ok (.istore 4, 2) := by decide +kernel
theorem dX7_noteSeas_3 : decode cX7_noteSeas 3 = .ok (.iload 4, 2) := by decide +kernel
theorem dX7_noteSeas_5 : decode cX7_noteSeas 5 = .ok (.bipush 20, 2) := by decide +kernel
theorem dX7_noteSeas_7 : decode cX7_noteSeas 7 = .ok (.if_icmp .ge 54, 3) := by decide +kernel
theorem dX7_noteSeas_10 : decode cX7_noteSeas 10 = .ok (.aload_n 3, 1) := by decide +kernel
theorem dX7_noteSeas_11 : decode cX7_noteSeas 11 = .ok (.aload_n 2, 1) := by decide +kernel
theorem dX7_noteSeas_12 : decode cX7_noteSeas 12 = .ok (.invokevirtual 42, 3) := by decide +kernel
theorem dX7_noteSeas_15 : decode cX7_noteSeas 15 = .ok (.iconst 0, 1) := by decide +kernel
theorem dX7_noteSeas_16 : decode cX7_noteSeas 16 = .ok (.istore 5, 2) := by decide +kernel
theorem dX7_noteSeas_18 : decode cX7_noteSeas 18 = .ok (.iload 5, 2) := by decide +kernel
theorem dX7_noteSeas_20 : decode cX7_noteSeas 20 = .ok (.aload_n 2, 1) := by decide +kernel
theorem dX7_noteSeas_21 : decode cX7_noteSeas 21 = .ok (.getfield 61, 3) := by decide +kernel
theorem dX7_noteSeas_24 : decode cX7_noteSeas 24 = .ok (.if_icmp .ge 31, 3) := by decide +kernel
theorem dX7_noteSeas_27 : decode cX7_noteSeas 27 = .ok (.aload_n 0, 1) := by decide +kernel
theorem dX7_noteSeas_28 : decode cX7_noteSeas 28 = .ok (.getfield 11, 3) := by decide +kernel
theorem dX7_noteSeas_31 : decode cX7_noteSeas 31 = .ok (.iload_n 1, 1) := by decide +kernel
theorem dX7_noteSeas_32 : decode cX7_noteSeas 32 = .ok (.aaload, 1) := by decide +kernel
theorem dX7_noteSeas_33 : decode cX7_noteSeas 33 = .ok (.iload 5, 2) := by decide +kernel
theorem dX7_noteSeas_35 : decode cX7_noteSeas 35 = .ok (.bipush 20, 2) := by decide +kernel
theorem dX7_noteSeas_37 : decode cX7_noteSeas 37 = .ok (.imul, 1) := by decide +kernel
theorem dX7_noteSeas_38 : decode cX7_noteSeas 38 = .ok (.iload 4, 2) := by decide +kernel
theorem dX7_noteSeas_40 : decode cX7_noteSeas 40 = .ok (.iadd, 1) := by decide +kernel
theorem dX7_noteSeas_41 : decode cX7_noteSeas 41 = .ok (.aload_n 3, 1) := by decide +kernel
theorem dX7_noteSeas_42 : decode cX7_noteSeas 42 = .ok (.aload_n 2, 1) := by decide +kernel
theorem dX7_noteSeas_43 : decode cX7_noteSeas 43 = .ok (.iload 5, 2) := by decide +kernel
theorem dX7_noteSeas_45 : decode cX7_noteSeas 45 = .ok (.invokevirtual 68, 3) := by decide +kernel
theorem dX7_noteSeas_48 : decode cX7_noteSeas 48 = .ok (.iastore, 1) := by decide +kernel
theorem dX7_noteSeas_49 : decode cX7_noteSeas 49 = .ok (.iinc 5 1, 3) := by decide +kernel
theorem dX7_noteSeas_52 : decode cX7_noteSeas 52 = .ok (.goto (-34), 3) := by decide +kernel
theorem dX7_noteSeas_55 : decode cX7_noteSeas 55 = .ok (.iinc 4 1, 3) := by decide +kernel
theorem dX7_noteSeas_58 : decode cX7_noteSeas 58 = .ok (.goto (-55), 3) := by decide +kernel
theorem dX7_noteSeas_61 : decode cX7_noteSeas 61 = .ok (.return_, 1) := by decide +kernel
theorem dX7_mostAlike_0 : decode cX7_mostAlike 0 = .ok (.iconst 0, 1) := by decide +kernel
theorem dX7_mostAlike_1 : decode cX7_mostAlike 1 = .ok (.istore_n 3, 1) := by decide +kernel
theorem dX7_mostAlike_2 : decode cX7_mostAlike 2 = .ok (.iconst 0, 1) := by decide +kernel
theorem dX7_mostAlike_3 : decode cX7_mostAlike 3 = .ok (.istore 4, 2) := by decide +kernel
theorem dX7_mostAlike_5 : decode cX7_mostAlike 5 = .ok (.iload 4, 2) := by decide +kernel
theorem dX7_mostAlike_7 : decode cX7_mostAlike 7 = .ok (.iload_n 1, 1) := by decide +kernel
theorem dX7_mostAlike_8 : decode cX7_mostAlike 8 = .ok (.if_icmp .ge 58, 3) := by decide +kernel
theorem dX7_mostAlike_11 : decode cX7_mostAlike 11 = .ok (.iconst 0, 1) := by decide +kernel
theorem dX7_mostAlike_12 : decode cX7_mostAlike 12 = .ok (.istore 5, 2) := by decide +kernel
theorem dX7_mostAlike_14 : decode cX7_mostAlike 14 = .ok (.iconst 0, 1) := by decide +kernel
theorem dX7_mostAlike_15 : decode cX7_mostAlike 15 = .ok (.istore 6, 2) := by decide +kernel
theorem dX7_mostAlike_17 : decode cX7_mostAlike 17 = .ok (.iload 6, 2) := by decide +kernel
theorem dX7_mostAlike_19 : decode cX7_mostAlike 19 = .ok (.iload_n 1, 1) := by decide +kernel
theorem dX7_mostAlike_20 : decode cX7_mostAlike 20 = .ok (.if_icmp .ge 33, 3) := by decide +kernel
theorem dX7_mostAlike_23 : decode cX7_mostAlike 23 = .ok (.aload_n 0, 1) := by decide +kernel
theorem dX7_mostAlike_24 : decode cX7_mostAlike 24 = .ok (.getfield 11, 3) := by decide +kernel
theorem dX7_mostAlike_27 : decode cX7_mostAlike 27 = .ok (.iload 4, 2) := by decide +kernel
theorem dX7_mostAlike_29 : decode cX7_mostAlike 29 = .ok (.aaload, 1) := by decide +kernel
theorem dX7_mostAlike_30 : decode cX7_mostAlike 30 = .ok (.iload_n 2, 1) := by decide +kernel
theorem dX7_mostAlike_31 : decode cX7_mostAlike 31 = .ok (.iaload, 1) := by decide +kernel
theorem dX7_mostAlike_32 : decode cX7_mostAlike 32 = .ok (.aload_n 0, 1) := by decide +kernel
theorem dX7_mostAlike_33 : decode cX7_mostAlike 33 = .ok (.getfield 11, 3) := by decide +kernel
theorem dX7_mostAlike_36 : decode cX7_mostAlike 36 = .ok (.iload 6, 2) := by decide +kernel
theorem dX7_mostAlike_38 : decode cX7_mostAlike 38 = .ok (.aaload, 1) := by decide +kernel
theorem dX7_mostAlike_39 : decode cX7_mostAlike 39 = .ok (.iload_n 2, 1) := by decide +kernel
theorem dX7_mostAlike_40 : decode cX7_mostAlike 40 = .ok (.iaload, 1) := by decide +kernel
theorem dX7_mostAlike_41 : decode cX7_mostAlike 41 = .ok (.if_icmp .ne 6, 3) := by decide +kernel
theorem dX7_mostAlike_44 : decode cX7_mostAlike 44 = .ok (.iinc 5 1, 3) := by decide +kernel
theorem dX7_mostAlike_47 : decode cX7_mostAlike 47 = .ok (.iinc 6 1, 3) := by decide +kernel
theorem dX7_mostAlike_50 : decode cX7_mostAlike 50 = .ok (.goto (-33), 3) := by decide +kernel
theorem dX7_mostAlike_53 : decode cX7_mostAlike 53 = .ok (.iload_n 3, 1) := by decide +kernel
theorem dX7_mostAlike_54 : decode cX7_mostAlike 54 = .ok (.iload 5, 2) := by decide +kernel
theorem dX7_mostAlike_56 : decode cX7_mostAlike 56 = .ok (.invokestatic 72, 3) := by decide +kernel
theorem dX7_mostAlike_59 : decode cX7_mostAlike 59 = .ok (.istore_n 3, 1) := by decide +kernel
theorem dX7_mostAlike_60 : decode cX7_mostAlike 60 = .ok (.iinc 4 1, 3) := by decide +kernel
theorem dX7_mostAlike_63 : decode cX7_mostAlike 63 = .ok (.goto (-58), 3) := by decide +kernel
theorem dX7_mostAlike_66 : decode cX7_mostAlike 66 = .ok (.iload_n 3, 1) := by decide +kernel
theorem dX7_mostAlike_67 : decode cX7_mostAlike 67 = .ok (.ireturn, 1) := by decide +kernel
theorem dX8_init_0 : decode cX8_init 0 = .ok (.aload_n 0, 1) := by decide +kernel
theorem dX8_init_1 : decode cX8_init 1 = .ok (.invokespecial 3, 3) := by decide +kernel
theorem dX8_init_4 : decode cX8_init 4 = .ok (.aload_n 0, 1) := by decide +kernel
theorem dX8_init_5 : decode cX8_init 5 = .ok (.bipush 6, 2) := by decide +kernel
theorem dX8_init_7 : decode cX8_init 7 = .ok (.newarray .int, 2) := by decide +kernel
theorem dX8_init_9 : decode cX8_init 9 = .ok (.putfield 9, 3) := by decide +kernel
theorem dX8_init_12 : decode cX8_init 12 = .ok (.aload_n 0, 1) := by decide +kernel
theorem dX8_init_13 : decode cX8_init 13 = .ok (.bipush 6, 2) := by decide +kernel
theorem dX8_init_15 : decode cX8_init 15 = .ok (.newarray .int, 2) := by decide +kernel
theorem dX8_init_17 : decode cX8_init 17 = .ok (.putfield 15, 3) := by decide +kernel
theorem dX8_init_20 : decode cX8_init 20 = .ok (.aload_n 0, 1) := by decide +kernel
theorem dX8_init_21 : decode cX8_init 21 = .ok (.bipush 6, 2) := by decide +kernel
theorem dX8_init_23 : decode cX8_init 23 = .ok (.newarray .int, 2) := by decide +kernel
theorem dX8_init_25 : decode cX8_init 25 = .ok (.putfield 18, 3) := by decide +kernel
theorem dX8_init_28 : decode cX8_init 28 = .ok (.aload_n 0, 1) := by decide +kernel
theorem dX8_init_29 : decode cX8_init 29 = .ok (.iconst 4, 1) := by decide +kernel
theorem dX8_init_30 : decode cX8_init 30 = .ok (.newarray .int, 2) := by decide +kernel
theorem dX8_init_32 : decode cX8_init 32 = .ok (.putfield 21, 3) := by decide +kernel
theorem dX8_init_35 : decode cX8_init 35 = .ok (.return_, 1) := by decide +kernel
theorem dX8_begin_0 : decode cX8_begin 0 = .ok (.aload_n 0, 1) := by decide +kernel
theorem dX8_begin_1 : decode cX8_begin 1 = .ok (.iconst 0, 1) := by decide +kernel
theorem dX8_begin_2 : decode cX8_begin 2 = .ok (.putfield 24, 3) := by decide +kernel
theorem dX8_begin_5 : decode cX8_begin 5 = .ok (.aload_n 0, 1) := by decide +kernel
theorem dX8_begin_6 : decode cX8_begin 6 = .ok (.iconst 0, 1) := by decide +kernel
theorem dX8_begin_7 : decode cX8_begin 7 = .ok (.putfield 28, 3) := by decide +kernel
theorem dX8_begin_10 : decode cX8_begin 10 = .ok (.aload_n 0, 1) := by decide +kernel
theorem dX8_begin_11 : decode cX8_begin 11 = .ok (.getfield 9, 3) := by decide +kernel
theorem dX8_begin_14 : decode cX8_begin 14 = .ok (.iconst 0, 1) := by decide +kernel
theorem dX8_begin_15 : decode cX8_begin 15 = .ok (.invokestatic 31, 3) := by decide +kernel
theorem dX8_begin_18 : decode cX8_begin 18 = .ok (.aload_n 0, 1) := by decide +kernel
theorem dX8_begin_19 : decode cX8_begin 19 = .ok (.getfield 15, 3) := by decide +kernel
theorem dX8_begin_22 : decode cX8_begin 22 = .ok (.iconst (-1), 1) := by decide +kernel
theorem dX8_begin_23 : decode cX8_begin 23 = .ok (.invokestatic 31, 3) := by decide +kernel
theorem dX8_begin_26 : decode cX8_begin 26 = .ok (.aload_n 0, 1) := by decide +kernel
theorem dX8_begin_27 : decode cX8_begin 27 = .ok (.getfield 18, 3) := by decide +kernel
theorem dX8_begin_30 : decode cX8_begin 30 = .ok (.iconst 0, 1) := by decide +kernel
theorem dX8_begin_31 : decode cX8_begin 31 = .ok (.invokestatic 31, 3) := by decide +kernel
theorem dX8_begin_34 : decode cX8_begin 34 = .ok (.iconst 0, 1) := by decide +kernel
theorem dX8_begin_35 : decode cX8_begin 35 = .ok (.istore_n 2, 1) := by decide +kernel
theorem dX8_begin_36 : decode cX8_begin 36 = .ok (.iload_n 2, 1) := by decide +kernel
theorem dX8_begin_37 : decode cX8_begin 37 = .ok (.aload_n 1, 1) := by decide +kernel
theorem dX8_begin_38 : decode cX8_begin 38 = .ok (.getfield 37, 3) := by decide +kernel
theorem dX8_begin_41 : decode cX8_begin 41 = .ok (.if_icmp .ge 21, 3) := by decide +kernel
theorem dX8_begin_44 : decode cX8_begin 44 = .ok (.aload_n 0, 1) := by decide +kernel
theorem dX8_begin_45 : decode cX8_begin 45 = .ok (.getfield 21, 3) := by decide +kernel
theorem dX8_begin_48 : decode cX8_begin 48 = .ok (.iload_n 2, 1) := by decide +kernel
theorem dX8_begin_49 : decode cX8_begin 49 = .ok (.aload_n 1, 1) := by decide +kernel
theorem dX8_begin_50 : decode cX8_begin 50 = .ok (.getfield 42, 3) := by decide +kernel
theorem dX8_begin_53 : decode cX8_begin 53 = .ok (.iload_n 2, 1) := by decide +kernel
theorem dX8_begin_54 : decode cX8_begin 54 = .ok (.iaload, 1) := by decide +kernel
theorem dX8_begin_55 : decode cX8_begin 55 = .ok (.iastore, 1) := by decide +kernel
theorem dX8_begin_56 : decode cX8_begin 56 = .ok (.iinc 2 1, 3) := by decide +kernel
theorem dX8_begin_59 : decode cX8_begin 59 = .ok (.goto (-23), 3) := by decide +kernel
theorem dX8_begin_62 : decode cX8_begin 62 = .ok (.return_, 1) := by decide +kernel
theorem dX8_copy_0 : decode cX8_copy 0 = .ok (.aload_n 0, 1) := by decide +kernel
theorem dX8_copy_1 : decode cX8_copy 1 = .ok (.aload_n 1, 1) := by decide +kernel
theorem dX8_copy_2 : decode cX8_copy 2 = .ok (.getfield 24, 3) := by decide +kernel
theorem dX8_copy_5 : decode cX8_copy 5 = .ok (.putfield 24, 3) := by decide +kernel
theorem dX8_copy_8 : decode cX8_copy 8 = .ok (.aload_n 0, 1) := by decide +kernel
theorem dX8_copy_9 : decode cX8_copy 9 = .ok (.aload_n 1, 1) := by decide +kernel
theorem dX8_copy_10 : decode cX8_copy 10 = .ok (.getfield 28, 3) := by decide +kernel
theorem dX8_copy_13 : decode cX8_copy 13 = .ok (.putfield 28, 3) := by decide +kernel
theorem dX8_copy_16 : decode cX8_copy 16 = .ok (.aload_n 1, 1) := by decide +kernel
theorem dX8_copy_17 : decode cX8_copy 17 = .ok (.getfield 9, 3) := by decide +kernel
theorem dX8_copy_20 : decode cX8_copy 20 = .ok (.iconst 0, 1) := by decide +kernel
theorem dX8_copy_21 : decode cX8_copy 21 = .ok (.aload_n 0, 1) := by decide +kernel
theorem dX8_copy_22 : decode cX8_copy 22 = .ok (.getfield 9, 3) := by decide +kernel
theorem dX8_copy_25 : decode cX8_copy 25 = .ok (.iconst 0, 1) := by decide +kernel
theorem dX8_copy_26 : decode cX8_copy 26 = .ok (.bipush 6, 2) := by decide +kernel
theorem dX8_copy_28 : decode cX8_copy 28 = .ok (.invokestatic 45, 3) := by decide +kernel
theorem dX8_copy_31 : decode cX8_copy 31 = .ok (.aload_n 1, 1) := by decide +kernel
theorem dX8_copy_32 : decode cX8_copy 32 = .ok (.getfield 15, 3) := by decide +kernel
theorem dX8_copy_35 : decode cX8_copy 35 = .ok (.iconst 0, 1) := by decide +kernel
theorem dX8_copy_36 : decode cX8_copy 36 = .ok (.aload_n 0, 1) := by decide +kernel
theorem dX8_copy_37 : decode cX8_copy 37 = .ok (.getfield 15, 3) := by decide +kernel
theorem dX8_copy_40 : decode cX8_copy 40 = .ok (.iconst 0, 1) := by decide +kernel
theorem dX8_copy_41 : decode cX8_copy 41 = .ok (.bipush 6, 2) := by decide +kernel
theorem dX8_copy_43 : decode cX8_copy 43 = .ok (.invokestatic 45, 3) := by decide +kernel
theorem dX8_copy_46 : decode cX8_copy 46 = .ok (.aload_n 1, 1) := by decide +kernel
theorem dX8_copy_47 : decode cX8_copy 47 = .ok (.getfield 18, 3) := by decide +kernel
theorem dX8_copy_50 : decode cX8_copy 50 = .ok (.iconst 0, 1) := by decide +kernel
theorem dX8_copy_51 : decode cX8_copy 51 = .ok (.aload_n 0, 1) := by decide +kernel
theorem dX8_copy_52 : decode cX8_copy 52 = .ok (.getfield 18, 3) := by decide +kernel
theorem dX8_copy_55 : decode cX8_copy 55 = .ok (.iconst 0, 1) := by decide +kernel
theorem dX8_copy_56 : decode cX8_copy 56 = .ok (.bipush 6, 2) := by decide +kernel
theorem dX8_copy_58 : decode cX8_copy 58 = .ok (.invokestatic 45, 3) := by decide +kernel
theorem dX8_copy_61 : decode cX8_copy 61 = .ok (.aload_n 1, 1) := by decide +kernel
theorem dX8_copy_62 : decode cX8_copy 62 = .ok (.getfield 21, 3) := by decide +kernel
theorem dX8_copy_65 : decode cX8_copy 65 = .ok (.iconst 0, 1) := by decide +kernel
theorem dX8_copy_66 : decode cX8_copy 66 = .ok (.aload_n 0, 1) := by decide +kernel
theorem dX8_copy_67 : decode cX8_copy 67 = .ok (.getfield 21, 3) := by decide +kernel
theorem dX8_copy_70 : decode cX8_copy 70 = .ok (.iconst 0, 1) := by decide +kernel
theorem dX8_copy_71 : decode cX8_copy 71 = .ok (.iconst 4, 1) := by decide +kernel
theorem dX8_copy_72 : decode cX8_copy 72 = .ok (.invokestatic 45, 3) := by decide +kernel
theorem dX8_copy_75 : decode cX8_copy 75 = .ok (.return_, 1) := by decide +kernel
theorem dX8_sleeps_0 : decode cX8_sleeps 0 = .ok (.aload_n 0, 1) := by decide +kernel
theorem dX8_sleeps_1 : decode cX8_sleeps 1 = .ok (.getfield 28, 3) := by decide +kernel
theorem dX8_sleeps_4 : decode cX8_sleeps 4 = .ok (.iload_n 1, 1) := by decide +kernel
theorem dX8_sleeps_5 : decode cX8_sleeps 5 = .ok (.ishr, 1) := by decide +kernel
theorem dX8_sleeps_6 : decode cX8_sleeps 6 = .ok (.iconst 1, 1) := by decide +kernel
theorem dX8_sleeps_7 : decode cX8_sleeps 7 = .ok (.iand, 1) := by decide +kernel
theorem dX8_sleeps_8 : decode cX8_sleeps 8 = .ok (.iconst 1, 1) := by decide +kernel
theorem dX8_sleeps_9 : decode cX8_sleeps 9 = .ok (.if_icmp .ne 7, 3) := by decide +kernel
theorem dX8_sleeps_12 : decode cX8_sleeps 12 = .ok (.iconst 1, 1) := by decide +kernel
theorem dX8_sleeps_13 : decode cX8_sleeps 13 = .ok (.goto 4, 3) := by decide +kernel
theorem dX8_sleeps_16 : decode cX8_sleeps 16 = .ok (.iconst 0, 1) := by decide +kernel
theorem dX8_sleeps_17 : decode cX8_sleeps 17 = .ok (.ireturn, 1) := by decide +kernel
theorem dX8_setAsleep_0 : decode cX8_setAsleep 0 = .ok (.aload_n 0, 1) := by decide +kernel
theorem dX8_setAsleep_1 : decode cX8_setAsleep 1 = .ok (.iload_n 2, 1) := by decide +kernel
theorem dX8_setAsleep_2 : decode cX8_setAsleep 2 = .ok (.ifCond .eq 14, 3) := by decide +kernel
theorem dX8_setAsleep_5 : decode cX8_setAsleep 5 = .ok (.aload_n 0, 1) := by decide +kernel
theorem dX8_setAsleep_6 : decode cX8_setAsleep 6 = .ok (.getfield 28, 3) := by decide +kernel
theorem dX8_setAsleep_9 : decode cX8_setAsleep 9 = .ok (.iconst 1, 1) := by decide +kernel
theorem dX8_setAsleep_10 : decode cX8_setAsleep 10 = .ok (.iload_n 1, 1) := by decide +kernel
theorem dX8_setAsleep_11 : decode cX8_setAsleep 11 = .ok (.ishl, 1) := by decide +kernel
theorem dX8_setAsleep_12 : decode cX8_setAsleep 12 = .ok (.ior, 1) := by decide +kernel
theorem dX8_setAsleep_13 : decode cX8_setAsleep 13 = .ok (.goto 13, 3) := by decide +kernel
theorem dX8_setAsleep_16 : decode cX8_setAsleep 16 = .ok (.aload_n 0, 1) := by decide +kernel
theorem dX8_setAsleep_17 : decode cX8_setAsleep 17 = .ok (.getfield 28, 3) := by decide +kernel
theorem dX8_setAsleep_20 : decode cX8_setAsleep 20 = .ok (.iconst 1, 1) := by decide +kernel
theorem dX8_setAsleep_21 : decode cX8_setAsleep 21 = .ok (.iload_n 1, 1) := by decide +kernel
theorem dX8_setAsleep_22 : decode cX8_setAsleep 22 = .ok (.ishl, 1) := by decide +kernel
theorem dX8_setAsleep_23 : decode cX8_setAsleep 23 = .ok (.iconst (-1), 1) := by decide +kernel
theorem dX8_setAsleep_24 : decode cX8_setAsleep 24 = .ok (.ixor, 1) := by decide +kernel
theorem dX8_setAsleep_25 : decode cX8_setAsleep 25 = .ok (.iand, 1) := by decide +kernel
theorem dX8_setAsleep_26 : decode cX8_setAsleep 26 = .ok (.putfield 28, 3) := by decide +kernel
theorem dX8_setAsleep_29 : decode cX8_setAsleep 29 = .ok (.return_, 1) := by decide +kernel
theorem dX8_sitterAt_0 : decode cX8_sitterAt 0 = .ok (.iconst 0, 1) := by decide +kernel
theorem dX8_sitterAt_1 : decode cX8_sitterAt 1 = .ok (.istore_n 3, 1) := by decide +kernel
theorem dX8_sitterAt_2 : decode cX8_sitterAt 2 = .ok (.iload_n 3, 1) := by decide +kernel
theorem dX8_sitterAt_3 : decode cX8_sitterAt 3 = .ok (.aload_n 1, 1) := by decide +kernel
theorem dX8_sitterAt_4 : decode cX8_sitterAt 4 = .ok (.getfield 51, 3) := by decide +kernel
theorem dX8_sitterAt_7 : decode cX8_sitterAt 7 = .ok (.if_icmp .ge 21, 3) := by decide +kernel
theorem dX8_sitterAt_10 : decode cX8_sitterAt 10 = .ok (.aload_n 0, 1) := by decide +kernel
theorem dX8_sitterAt_11 : decode cX8_sitterAt 11 = .ok (.getfield 15, 3) := by decide +kernel
theorem dX8_sitterAt_14 : decode cX8_sitterAt 14 = .ok (.iload_n 3, 1) := by decide +kernel
theorem dX8_sitterAt_15 : decode cX8_sitterAt 15 = .ok (.iaload, 1) := by decide +kernel
theorem dX8_sitterAt_16 : decode cX8_sitterAt 16 = .ok (.iload_n 2, 1) := by decide +kernel
theorem dX8_sitterAt_17 : decode cX8_sitterAt 17 = .ok (.if_icmp .ne 5, 3) := by decide +kernel
theorem dX8_sitterAt_20 : decode cX8_sitterAt 20 = .ok (.iload_n 3, 1) := by decide +kernel
theorem dX8_sitterAt_21 : decode cX8_sitterAt 21 = .ok (.ireturn, 1) := by decide +kernel
theorem dX8_sitterAt_22 : decode cX8_sitterAt 22 = .ok (.iinc 3 1, 3) := by decide +kernel
theorem dX8_sitterAt_25 : decode cX8_sitterAt 25 = .ok (.goto (-23), 3) := by decide +kernel
theorem dX8_sitterAt_28 : decode cX8_sitterAt 28 = .ok (.iconst (-1), 1) := by decide +kernel
theorem dX8_sitterAt_29 : decode cX8_sitterAt 29 = .ok (.ireturn, 1) := by decide +kernel
theorem dX8_sitting_0 : decode cX8_sitting 0 = .ok (.iconst 0, 1) := by decide +kernel
theorem dX8_sitting_1 : decode cX8_sitting 1 = .ok (.istore_n 2, 1) := by decide +kernel
theorem dX8_sitting_2 : decode cX8_sitting 2 = .ok (.iconst 0, 1) := by decide +kernel
theorem dX8_sitting_3 : decode cX8_sitting 3 = .ok (.istore_n 3, 1) := by decide +kernel
theorem dX8_sitting_4 : decode cX8_sitting 4 = .ok (.iload_n 3, 1) := by decide +kernel
theorem dX8_sitting_5 : decode cX8_sitting 5 = .ok (.aload_n 1, 1) := by decide +kernel
theorem dX8_sitting_6 : decode cX8_sitting 6 = .ok (.getfield 51, 3) := by decide +kernel
theorem dX8_sitting_9 : decode cX8_sitting 9 = .ok (.if_icmp .ge 25, 3) := by decide +kernel
theorem dX8_sitting_12 : decode cX8_sitting 12 = .ok (.aload_n 0, 1) := by decide +kernel
theorem dX8_sitting_13 : decode cX8_sitting 13 = .ok (.getfield 15, 3) := by decide +kernel
theorem dX8_sitting_16 : decode cX8_sitting 16 = .ok (.iload_n 3, 1) := by decide +kernel
theorem dX8_sitting_17 : decode cX8_sitting 17 = .ok (.iaload, 1) := by decide +kernel
theorem dX8_sitting_18 : decode cX8_sitting 18 = .ok (.iconst (-1), 1) := by decide +kernel
theorem dX8_sitting_19 : decode cX8_sitting 19 = .ok (.if_icmp .eq 9, 3) := by decide +kernel
theorem dX8_sitting_22 : decode cX8_sitting 22 = .ok (.iload_n 2, 1) := by decide +kernel
theorem dX8_sitting_23 : decode cX8_sitting 23 = .ok (.iconst 1, 1) := by decide +kernel
theorem dX8_sitting_24 : decode cX8_sitting 24 = .ok (.iload_n 3, 1) := by decide +kernel
theorem dX8_sitting_25 : decode cX8_sitting 25 = .ok (.ishl, 1) := by decide +kernel
theorem dX8_sitting_26 : decode cX8_sitting 26 = .ok (.ior, 1) := by decide +kernel
theorem dX8_sitting_27 : decode cX8_sitting 27 = .ok (.istore_n 2, 1) := by decide +kernel
theorem dX8_sitting_28 : decode cX8_sitting 28 = .ok (.iinc 3 1, 3) := by decide +kernel
theorem dX8_sitting_31 : decode cX8_sitting 31 = .ok (.goto (-27), 3) := by decide +kernel
theorem dX8_sitting_34 : decode cX8_sitting 34 = .ok (.iload_n 2, 1) := by decide +kernel
theorem dX8_sitting_35 : decode cX8_sitting 35 = .ok (.ireturn, 1) := by decide +kernel
theorem dX8_passHour_0 : decode cX8_passHour 0 = .ok (.aload_n 0, 1) := by decide +kernel
theorem dX8_passHour_1 : decode cX8_passHour 1 = .ok (.aload_n 1, 1) := by decide +kernel
theorem dX8_passHour_2 : decode cX8_passHour 2 = .ok (.invokevirtual 54, 3) := by decide +kernel
theorem dX8_passHour_5 : decode cX8_passHour 5 = .ok (.iconst 0, 1) := by decide +kernel
theorem dX8_passHour_6 : decode cX8_passHour 6 = .ok (.istore_n 2, 1) := by decide +kernel
theorem dX8_passHour_7 : decode cX8_passHour 7 = .ok (.iload_n 2, 1) := by decide +kernel
theorem dX8_passHour_8 : decode cX8_passHour 8 = .ok (.aload_n 1, 1) := by decide +kernel
theorem dX8_passHour_9 : decode cX8_passHour 9 = .ok (.getfield 37, 3) := by decide +kernel
theorem dX8_passHour_12 : decode cX8_passHour 12 = .ok (.if_icmp .ge 15, 3) := by decide +kernel
theorem dX8_passHour_15 : decode cX8_passHour 15 = .ok (.aload_n 0, 1) := by decide +kernel
theorem dX8_passHour_16 : decode cX8_passHour 16 = .ok (.aload_n 1, 1) := by decide +kernel
theorem dX8_passHour_17 : decode cX8_passHour 17 = .ok (.iload_n 2, 1) := by decide +kernel
theorem dX8_passHour_18 : decode cX8_passHour 18 = .ok (.invokevirtual 58, 3) := by decide +kernel
theorem dX8_passHour_21 : decode cX8_passHour 21 = .ok (.iinc 2 1, 3) := by decide +kernel
theorem dX8_passHour_24 : decode cX8_passHour 24 = .ok (.goto (-17), 3) := by decide +kernel
theorem dX8_passHour_27 : decode cX8_passHour 27 = .ok (.aload_n 0, 1) := by decide +kernel
theorem dX8_passHour_28 : decode cX8_passHour 28 = .ok (.dup, 1) := by decide +kernel
theorem dX8_passHour_29 : decode cX8_passHour 29 = .ok (.getfield 24, 3) := by decide +kernel
theorem dX8_passHour_32 : decode cX8_passHour 32 = .ok (.iconst 1, 1) := by decide +kernel
theorem dX8_passHour_33 : decode cX8_passHour 33 = .ok (.iadd, 1) := by decide +kernel
theorem dX8_passHour_34 : decode cX8_passHour 34 = .ok (.putfield 24, 3) := by decide +kernel
theorem dX8_passHour_37 : decode cX8_passHour 37 = .ok (.return_, 1) := by decide +kernel
theorem dX8_wind_0 : decode cX8_wind 0 = .ok (.iconst 0, 1) := by decide +kernel
theorem dX8_wind_1 : decode cX8_wind 1 = .ok (.istore_n 2, 1) := by decide +kernel
theorem dX8_wind_2 : decode cX8_wind 2 = .ok (.iconst 0, 1) := by decide +kernel
theorem dX8_wind_3 : decode cX8_wind 3 = .ok (.istore_n 3, 1) := by decide +kernel
theorem dX8_wind_4 : decode cX8_wind 4 = .ok (.iload_n 3, 1) := by decide +kernel
theorem dX8_wind_5 : decode cX8_wind 5 = .ok (.aload_n 1, 1) := by decide +kernel
theorem dX8_wind_6 : decode cX8_wind 6 = .ok (.getfield 51, 3) := by decide +kernel
theorem dX8_wind_9 : decode cX8_wind 9 = .ok (.if_icmp .ge 110, 3) := by decide +kernel
theorem dX8_wind_12 : decode cX8_wind 12 = .ok (.aload_n 0, 1) := by decide +kernel
theorem dX8_wind_13 : decode cX8_wind 13 = .ok (.getfield 15, 3) := by decide +kernel
theorem dX8_wind_16 : decode cX8_wind 16 = .ok (.iload_n 3, 1) := by decide +kernel
theorem dX8_wind_17 : decode cX8_wind 17 = .ok (.iaload, 1) := by decide +kernel
theorem dX8_wind_18 : decode cX8_wind 18 = .ok (.istore 4, 2) := by decide +kernel
theorem dX8_wind_20 : decode cX8_wind 20 = .ok (.aload_n 1, 1) := by decide +kernel
theorem dX8_wind_21 : decode cX8_wind 21 = .ok (.iload 4, 2) := by decide +kernel
theorem dX8_wind_23 : decode cX8_wind 23 = .ok (.invokevirtual 62, 3) := by decide +kernel
theorem dX8_wind_26 : decode cX8_wind 26 = .ok (.ifCond .eq 69, 3) := by decide +kernel
theorem dX8_wind_29 : decode cX8_wind 29 = .ok (.aload_n 0, 1) := by decide +kernel
theorem dX8_wind_30 : decode cX8_wind 30 = .ok (.iload_n 3, 1) := by decide +kernel
theorem dX8_wind_31 : decode cX8_wind 31 = .ok (.invokevirtual 66, 3) := by decide +kernel
theorem dX8_wind_34 : decode cX8_wind 34 = .ok (.ifCond .ne 61, 3) := by decide +kernel
theorem dX8_wind_37 : decode cX8_wind 37 = .ok (.aload_n 0, 1) := by decide +kernel
theorem dX8_wind_38 : decode cX8_wind 38 = .ok (.getfield 9, 3) := by decide +kernel
theorem dX8_wind_41 : decode cX8_wind 41 = .ok (.iload 4, 2) := by decide +kernel
theorem dX8_wind_43 : decode cX8_wind 43 = .ok (.aload_n 0, 1) := by decide +kernel
theorem dX8_wind_44 : decode cX8_wind 44 = .ok (.getfield 9, 3) := by decide +kernel
theorem dX8_wind_47 : decode cX8_wind 47 = .ok (.iload 4, 2) := by decide +kernel
theorem dX8_wind_49 : decode cX8_wind 49 = .ok (.iaload, 1) := by decide +kernel
theorem dX8_wind_50 : decode cX8_wind 50 = .ok (.aload_n 1, 1) := by decide +kernel
theorem dX8_wind_51 : decode cX8_wind 51 = .ok (.getfield 69, 3) := by decide +kernel
theorem dX8_wind_54 : decode cX8_wind 54 = .ok (.iload_n 3, 1) := by decide +kernel
theorem dX8_wind_55 : decode cX8_wind 55 = .ok (.iaload, 1) := by decide +kernel
theorem dX8_wind_56 : decode cX8_wind 56 = .ok (.aload_n 0, 1) := by decide +kernel
theorem dX8_wind_57 : decode cX8_wind 57 = .ok (.getfield 18, 3) := by decide +kernel
theorem dX8_wind_60 : decode cX8_wind 60 = .ok (.iload_n 3, 1) := by decide +kernel
theorem dX8_wind_61 : decode cX8_wind 61 = .ok (.iaload, 1) := by decide +kernel
theorem dX8_wind_62 : decode cX8_wind 62 = .ok (.invokestatic 72, 3) := by decide +kernel
theorem dX8_wind_65 : decode cX8_wind 65 = .ok (.iastore, 1) := by decide +kernel
theorem dX8_wind_66 : decode cX8_wind 66 = .ok (.aload_n 0, 1) := by decide +kernel
theorem dX8_wind_67 : decode cX8_wind 67 = .ok (.getfield 18, 3) := by decide +kernel
theorem dX8_wind_70 : decode cX8_wind 70 = .ok (.iload_n 3, 1) := by decide +kernel
theorem dX8_wind_71 : decode cX8_wind 71 = .ok (.bipush 99, 2) := by decide +kernel
theorem dX8_wind_73 : decode cX8_wind 73 = .ok (.aload_n 0, 1) := by decide +kernel
theorem dX8_wind_74 : decode cX8_wind 74 = .ok (.getfield 18, 3) := by decide +kernel
theorem dX8_wind_77 : decode cX8_wind 77 = .ok (.iload_n 3, 1) := by decide +kernel
theorem dX8_wind_78 : decode cX8_wind 78 = .ok (.iaload, 1) := by decide +kernel
theorem dX8_wind_79 : decode cX8_wind 79 = .ok (.iconst 1, 1) := by decide +kernel
theorem dX8_wind_80 : decode cX8_wind 80 = .ok (.iadd, 1) := by decide +kernel
theorem dX8_wind_81 : decode cX8_wind 81 = .ok (.invokestatic 76, 3) := by decide +kernel
theorem dX8_wind_84 : decode cX8_wind 84 = .ok (.iastore, 1) := by decide +kernel
theorem dX8_wind_85 : decode cX8_wind 85 = .ok (.iload_n 2, 1) := by decide +kernel
theorem dX8_wind_86 : decode cX8_wind 86 = .ok (.iconst 1, 1) := by decide +kernel
theorem dX8_wind_87 : decode cX8_wind 87 = .ok (.iload 4, 2) := by decide +kernel
theorem dX8_wind_89 : decode cX8_wind 89 = .ok (.ishl, 1) := by decide +kernel
theorem dX8_wind_90 : decode cX8_wind 90 = .ok (.ior, 1) := by decide +kernel
theorem dX8_wind_91 : decode cX8_wind 91 = .ok (.istore_n 2, 1) := by decide +kernel
theorem dX8_wind_92 : decode cX8_wind 92 = .ok (.goto 21, 3) := by decide +kernel
theorem dX8_wind_95 : decode cX8_wind 95 = .ok (.aload_n 0, 1) := by decide +kernel
theorem dX8_wind_96 : decode cX8_wind 96 = .ok (.getfield 18, 3) := by decide +kernel
theorem dX8_wind_99 : decode cX8_wind 99 = .ok (.iload_n 3, 1) := by decide +kernel
theorem dX8_wind_100 : decode cX8_wind 100 = .ok (.iconst 0, 1) := by decide +kernel
theorem dX8_wind_101 : decode cX8_wind 101 = .ok (.aload_n 0, 1) := by decide +kernel
theorem dX8_wind_102 : decode cX8_wind 102 = .ok (.getfield 18, 3) := by decide +kernel
theorem dX8_wind_105 : decode cX8_wind 105 = .ok (.iload_n 3, 1) := by decide +kernel
theorem dX8_wind_106 : decode cX8_wind 106 = .ok (.iaload, 1) := by decide +kernel
theorem dX8_wind_107 : decode cX8_wind 107 = .ok (.iconst 2, 1) := by decide +kernel
theorem dX8_wind_108 : decode cX8_wind 108 = .ok (.isub, 1) := by decide +kernel
theorem dX8_wind_109 : decode cX8_wind 109 = .ok (.invokestatic 82, 3) := by decide +kernel
theorem dX8_wind_112 : decode cX8_wind 112 = .ok (.iastore, 1) := by decide +kernel
theorem dX8_wind_113 : decode cX8_wind 113 = .ok (.iinc 3 1, 3) := by decide +kernel
theorem dX8_wind_116 : decode cX8_wind 116 = .ok (.goto (-112), 3) := by decide +kernel
theorem dX8_wind_119 : decode cX8_wind 119 = .ok (.iconst 0, 1) := by decide +kernel
theorem dX8_wind_120 : decode cX8_wind 120 = .ok (.istore_n 3, 1) := by decide +kernel
theorem dX8_wind_121 : decode cX8_wind 121 = .ok (.iload_n 3, 1) := by decide +kernel
theorem dX8_wind_122 : decode cX8_wind 122 = .ok (.aload_n 1, 1) := by decide +kernel
theorem dX8_wind_123 : decode cX8_wind 123 = .ok (.getfield 85, 3) := by decide +kernel
theorem dX8_wind_126 : decode cX8_wind 126 = .ok (.if_icmp .ge 35, 3) := by decide +kernel
theorem dX8_wind_129 : decode cX8_wind 129 = .ok (.iload_n 2, 1) := by decide +kernel
theorem dX8_wind_130 : decode cX8_wind 130 = .ok (.iload_n 3, 1) := by decide +kernel
theorem dX8_wind_131 : decode cX8_wind 131 = .ok (.ishr, 1) := by decide +kernel
theorem dX8_wind_132 : decode cX8_wind 132 = .ok (.iconst 1, 1) := by decide +kernel
theorem dX8_wind_133 : decode cX8_wind 133 = .ok (.iand, 1) := by decide +kernel
theorem dX8_wind_134 : decode cX8_wind 134 = .ok (.ifCond .ne 21, 3) := by decide +kernel
theorem dX8_wind_137 : decode cX8_wind 137 = .ok (.aload_n 0, 1) := by decide +kernel
theorem dX8_wind_138 : decode cX8_wind 138 = .ok (.getfield 9, 3) := by decide +kernel
theorem dX8_wind_141 : decode cX8_wind 141 = .ok (.iload_n 3, 1) := by decide +kernel
theorem dX8_wind_142 : decode cX8_wind 142 = .ok (.iconst 0, 1) := by decide +kernel
theorem dX8_wind_143 : decode cX8_wind 143 = .ok (.aload_n 0, 1) := by decide +kernel
theorem dX8_wind_144 : decode cX8_wind 144 = .ok (.getfield 9, 3) := by decide +kernel
theorem dX8_wind_147 : decode cX8_wind 147 = .ok (.iload_n 3, 1) := by decide +kernel
theorem dX8_wind_148 : decode cX8_wind 148 = .ok (.iaload, 1) := by decide +kernel
theorem dX8_wind_149 : decode cX8_wind 149 = .ok (.iconst 3, 1) := by decide +kernel
theorem dX8_wind_150 : decode cX8_wind 150 = .ok (.isub, 1) := by decide +kernel
theorem dX8_wind_151 : decode cX8_wind 151 = .ok (.invokestatic 82, 3) := by decide +kernel
theorem dX8_wind_154 : decode cX8_wind 154 = .ok (.iastore, 1) := by decide +kernel
theorem dX8_wind_155 : decode cX8_wind 155 = .ok (.iinc 3 1, 3) := by decide +kernel
theorem dX8_wind_158 : decode cX8_wind 158 = .ok (.goto (-37), 3) := by decide +kernel
theorem dX8_wind_161 : decode cX8_wind 161 = .ok (.return_, 1) := by decide +kernel
theorem dX8_woundMore_0 : decode cX8_woundMore 0 = .ok (.bipush 99, 2) := by decide +kernel
theorem dX8_woundMore_2 : decode cX8_woundMore 2 = .ok (.iload_n 0, 1) := by decide +kernel
theorem dX8_woundMore_3 : decode cX8_woundMore 3 = .ok (.iconst 0, 1) := by decide +kernel
theorem dX8_woundMore_4 : decode cX8_woundMore 4 = .ok (.iload_n 1, 1) := by decide +kernel
theorem dX8_woundMore_5 : decode cX8_woundMore 5 = .ok (.iload_n 2, 1) := by decide +kernel
theorem dX8_woundMore_6 : decode cX8_woundMore 6 = .ok (.iconst 5, 1) := by decide +kernel
theorem dX8_woundMore_7 : decode cX8_woundMore 7 = .ok (.idiv, 1) := by decide +kernel
theorem dX8_woundMore_8 : decode cX8_woundMore 8 = .ok (.isub, 1) := by decide +kernel
theorem dX8_woundMore_9 : decode cX8_woundMore 9 = .ok (.invokestatic 82, 3) := by decide +kernel
theorem dX8_woundMore_12 : decode cX8_woundMore 12 = .ok (.iadd, 1) := by decide +kernel
theorem dX8_woundMore_13 : decode cX8_woundMore 13 = .ok (.invokestatic 76, 3) := by decide +kernel
theorem dX8_woundMore_16 : decode cX8_woundMore 16 = .ok (.ireturn, 1) := by decide +kernel
theorem dX8_sail_0 : decode cX8_sail 0 = .ok (.aload_n 0, 1) := by decide +kernel
theorem dX8_sail_1 : decode cX8_sail 1 = .ok (.getfield 21, 3) := by decide +kernel
theorem dX8_sail_4 : decode cX8_sail 4 = .ok (.iload_n 2, 1) := by decide +kernel
theorem dX8_sail_5 : decode cX8_sail 5 = .ok (.iaload, 1) := by decide +kernel
theorem dX8_sail_6 : decode cX8_sail 6 = .ok (.istore_n 3, 1) := by decide +kernel
theorem dX8_sail_7 : decode cX8_sail 7 = .ok (.iload_n 3, 1) := by decide +kernel
theorem dX8_sail_8 : decode cX8_sail 8 = .ok (.aload_n 1, 1) := by decide +kernel
theorem dX8_sail_9 : decode cX8_sail 9 = .ok (.getfield 88, 3) := by decide +kernel
theorem dX8_sail_12 : decode cX8_sail 12 = .ok (.iload_n 2, 1) := by decide +kernel
theorem dX8_sail_13 : decode cX8_sail 13 = .ok (.iaload, 1) := by decide +kernel
theorem dX8_sail_14 : decode cX8_sail 14 = .ok (.if_icmp .ne 4, 3) := by decide +kernel
theorem dX8_sail_17 : decode cX8_sail 17 = .ok (.return_, 1) := by decide +kernel
theorem dX8_sail_18 : decode cX8_sail 18 = .ok (.iload_n 3, 1) := by decide +kernel
theorem dX8_sail_19 : decode cX8_sail 19 = .ok (.aload_n 1, 1) := by decide +kernel
theorem dX8_sail_20 : decode cX8_sail 20 = .ok (.getfield 88, 3) := by decide +kernel
theorem dX8_sail_23 : decode cX8_sail 23 = .ok (.iload_n 2, 1) := by decide +kernel
theorem dX8_sail_24 : decode cX8_sail 24 = .ok (.iaload, 1) := by decide +kernel
theorem dX8_sail_25 : decode cX8_sail 25 = .ok (.if_icmp .ge 9, 3) := by decide +kernel
theorem dX8_sail_28 : decode cX8_sail 28 = .ok (.iload_n 3, 1) := by decide +kernel
theorem dX8_sail_29 : decode cX8_sail 29 = .ok (.iconst 1, 1) := by decide +kernel
theorem dX8_sail_30 : decode cX8_sail 30 = .ok (.iadd, 1) := by decide +kernel
theorem dX8_sail_31 : decode cX8_sail 31 = .ok (.goto 6, 3) := by decide +kernel
theorem dX8_sail_34 : decode cX8_sail 34 = .ok (.iload_n 3, 1) := by decide +kernel
theorem dX8_sail_35 : decode cX8_sail 35 = .ok (.iconst 1, 1) := by decide +kernel
theorem dX8_sail_36 : decode cX8_sail 36 = .ok (.isub, 1) := by decide +kernel
theorem dX8_sail_37 : decode cX8_sail 37 = .ok (.istore 4, 2) := by decide +kernel
theorem dX8_sail_39 : decode cX8_sail 39 = .ok (.aload_n 0, 1) := by decide +kernel
theorem dX8_sail_40 : decode cX8_sail 40 = .ok (.aload_n 1, 1) := by decide +kernel
theorem dX8_sail_41 : decode cX8_sail 41 = .ok (.iload_n 3, 1) := by decide +kernel
theorem dX8_sail_42 : decode cX8_sail 42 = .ok (.invokevirtual 91, 3) := by decide +kernel
theorem dX8_sail_45 : decode cX8_sail 45 = .ok (.aload_n 0, 1) := by decide +kernel
theorem dX8_sail_46 : decode cX8_sail 46 = .ok (.aload_n 1, 1) := by decide +kernel
theorem dX8_sail_47 : decode cX8_sail 47 = .ok (.iload 4, 2) := by decide +kernel
theorem dX8_sail_49 : decode cX8_sail 49 = .ok (.invokevirtual 91, 3) := by decide +kernel
theorem dX8_sail_52 : decode cX8_sail 52 = .ok (.invokestatic 76, 3) := by decide +kernel
theorem dX8_sail_55 : decode cX8_sail 55 = .ok (.aload_n 1, 1) := by decide +kernel
theorem dX8_sail_56 : decode cX8_sail 56 = .ok (.getfield 95, 3) := by decide +kernel
theorem dX8_sail_59 : decode cX8_sail 59 = .ok (.iload_n 2, 1) := by decide +kernel
theorem dX8_sail_60 : decode cX8_sail 60 = .ok (.iaload, 1) := by decide +kernel
theorem dX8_sail_61 : decode cX8_sail 61 = .ok (.if_icmp .lt 11, 3) := by decide +kernel
theorem dX8_sail_64 : decode cX8_sail 64 = .ok (.aload_n 0, 1) := by decide +kernel
theorem dX8_sail_65 : decode cX8_sail 65 = .ok (.getfield 21, 3) := by decide +kernel
theorem dX8_sail_68 : decode cX8_sail 68 = .ok (.iload_n 2, 1) := by decide +kernel
theorem dX8_sail_69 : decode cX8_sail 69 = .ok (.iload 4, 2) := by decide +kernel
theorem dX8_sail_71 : decode cX8_sail 71 = .ok (.iastore, 1) := by decide +kernel
theorem dX8_sail_72 : decode cX8_sail 72 = .ok (.return_, 1) := by decide +kernel
theorem dX8_aground_0 : decode cX8_aground 0 = .ok (.iconst 0, 1) := by decide +kernel
theorem dX8_aground_1 : decode cX8_aground 1 = .ok (.istore_n 2, 1) := by decide +kernel
theorem dX8_aground_2 : decode cX8_aground 2 = .ok (.iconst 0, 1) := by decide +kernel
theorem dX8_aground_3 : decode cX8_aground 3 = .ok (.istore_n 3, 1) := by decide +kernel
theorem dX8_aground_4 : decode cX8_aground 4 = .ok (.iload_n 3, 1) := by decide +kernel
theorem dX8_aground_5 : decode cX8_aground 5 = .ok (.aload_n 1, 1) := by decide +kernel
theorem dX8_aground_6 : decode cX8_aground 6 = .ok (.getfield 37, 3) := by decide +kernel
theorem dX8_aground_9 : decode cX8_aground 9 = .ok (.if_icmp .ge 35, 3) := by decide +kernel
theorem dX8_aground_12 : decode cX8_aground 12 = .ok (.aload_n 0, 1) := by decide +kernel
theorem dX8_aground_13 : decode cX8_aground 13 = .ok (.aload_n 1, 1) := by decide +kernel
theorem dX8_aground_14 : decode cX8_aground 14 = .ok (.aload_n 0, 1) := by decide +kernel
theorem dX8_aground_15 : decode cX8_aground 15 = .ok (.getfield 21, 3) := by decide +kernel
theorem dX8_aground_18 : decode cX8_aground 18 = .ok (.iload_n 3, 1) := by decide +kernel
theorem dX8_aground_19 : decode cX8_aground 19 = .ok (.iaload, 1) := by decide +kernel
theorem dX8_aground_20 : decode cX8_aground 20 = .ok (.invokevirtual 91, 3) := by decide +kernel
theorem dX8_aground_23 : decode cX8_aground 23 = .ok (.aload_n 1, 1) := by decide +kernel
theorem dX8_aground_24 : decode cX8_aground 24 = .ok (.getfield 95, 3) := by decide +kernel
theorem dX8_aground_27 : decode cX8_aground 27 = .ok (.iload_n 3, 1) := by decide +kernel
theorem dX8_aground_28 : decode cX8_aground 28 = .ok (.iaload, 1) := by decide +kernel
theorem dX8_aground_29 : decode cX8_aground 29 = .ok (.if_icmp .ge 9, 3) := by decide +kernel
theorem dX8_aground_32 : decode cX8_aground 32 = .ok (.iload_n 2, 1) := by decide +kernel
theorem dX8_aground_33 : decode cX8_aground 33 = .ok (.iconst 1, 1) := by decide +kernel
theorem dX8_aground_34 : decode cX8_aground 34 = .ok (.iload_n 3, 1) := by decide +kernel
theorem dX8_aground_35 : decode cX8_aground 35 = .ok (.ishl, 1) := by decide +kernel
theorem dX8_aground_36 : decode cX8_aground 36 = .ok (.ior, 1) := by decide +kernel
theorem dX8_aground_37 : decode cX8_aground 37 = .ok (.istore_n 2, 1) := by decide +kernel
theorem dX8_aground_38 : decode cX8_aground 38 = .ok (.iinc 3 1, 3) := by decide +kernel
theorem dX8_aground_41 : decode cX8_aground 41 = .ok (.goto (-37), 3) := by decide +kernel
theorem dX8_aground_44 : decode cX8_aground 44 = .ok (.iload_n 2, 1) := by decide +kernel
theorem dX8_aground_45 : decode cX8_aground 45 = .ok (.ireturn, 1) := by decide +kernel
theorem dX8_arrived_0 : decode cX8_arrived 0 = .ok (.iconst 0, 1) := by decide +kernel
theorem dX8_arrived_1 : decode cX8_arrived 1 = .ok (.istore_n 2, 1) := by decide +kernel
theorem dX8_arrived_2 : decode cX8_arrived 2 = .ok (.iconst 0, 1) := by decide +kernel
theorem dX8_arrived_3 : decode cX8_arrived 3 = .ok (.istore_n 3, 1) := by decide +kernel
theorem dX8_arrived_4 : decode cX8_arrived 4 = .ok (.iload_n 3, 1) := by decide +kernel
theorem dX8_arrived_5 : decode cX8_arrived 5 = .ok (.aload_n 1, 1) := by decide +kernel
theorem dX8_arrived_6 : decode cX8_arrived 6 = .ok (.getfield 37, 3) := by decide +kernel
theorem dX8_arrived_9 : decode cX8_arrived 9 = .ok (.if_icmp .ge 30, 3) := by decide +kernel
theorem dX8_arrived_12 : decode cX8_arrived 12 = .ok (.aload_n 0, 1) := by decide +kernel
theorem dX8_arrived_13 : decode cX8_arrived 13 = .ok (.getfield 21, 3) := by decide +kernel
theorem dX8_arrived_16 : decode cX8_arrived 16 = .ok (.iload_n 3, 1) := by decide +kernel
theorem dX8_arrived_17 : decode cX8_arrived 17 = .ok (.iaload, 1) := by decide +kernel
theorem dX8_arrived_18 : decode cX8_arrived 18 = .ok (.aload_n 1, 1) := by decide +kernel
theorem dX8_arrived_19 : decode cX8_arrived 19 = .ok (.getfield 88, 3) := by decide +kernel
theorem dX8_arrived_22 : decode cX8_arrived 22 = .ok (.iload_n 3, 1) := by decide +kernel
theorem dX8_arrived_23 : decode cX8_arrived 23 = .ok (.iaload, 1) := by decide +kernel
theorem dX8_arrived_24 : decode cX8_arrived 24 = .ok (.if_icmp .ne 9, 3) := by decide +kernel
theorem dX8_arrived_27 : decode cX8_arrived 27 = .ok (.iload_n 2, 1) := by decide +kernel
theorem dX8_arrived_28 : decode cX8_arrived 28 = .ok (.iconst 1, 1) := by decide +kernel
theorem dX8_arrived_29 : decode cX8_arrived 29 = .ok (.iload_n 3, 1) := by decide +kernel
theorem dX8_arrived_30 : decode cX8_arrived 30 = .ok (.ishl, 1) := by decide +kernel
theorem dX8_arrived_31 : decode cX8_arrived 31 = .ok (.ior, 1) := by decide +kernel
theorem dX8_arrived_32 : decode cX8_arrived 32 = .ok (.istore_n 2, 1) := by decide +kernel
theorem dX8_arrived_33 : decode cX8_arrived 33 = .ok (.iinc 3 1, 3) := by decide +kernel
theorem dX8_arrived_36 : decode cX8_arrived 36 = .ok (.goto (-32), 3) := by decide +kernel
theorem dX8_arrived_39 : decode cX8_arrived 39 = .ok (.iload_n 2, 1) := by decide +kernel
theorem dX8_arrived_40 : decode cX8_arrived 40 = .ok (.ireturn, 1) := by decide +kernel
theorem dX8_seaAt_0 : decode cX8_seaAt 0 = .ok (.iconst 0, 1) := by decide +kernel
theorem dX8_seaAt_1 : decode cX8_seaAt 1 = .ok (.istore_n 3, 1) := by decide +kernel
theorem dX8_seaAt_2 : decode cX8_seaAt 2 = .ok (.iconst 0, 1) := by decide +kernel
theorem dX8_seaAt_3 : decode cX8_seaAt 3 = .ok (.istore 4, 2) := by decide +kernel
theorem dX8_seaAt_5 : decode cX8_seaAt 5 = .ok (.iload 4, 2) := by decide +kernel
theorem dX8_seaAt_7 : decode cX8_seaAt 7 = .ok (.aload_n 1, 1) := by decide +kernel
theorem dX8_seaAt_8 : decode cX8_seaAt 8 = .ok (.getfield 85, 3) := by decide +kernel
theorem dX8_seaAt_11 : decode cX8_seaAt 11 = .ok (.if_icmp .ge 26, 3) := by decide +kernel
theorem dX8_seaAt_14 : decode cX8_seaAt 14 = .ok (.iload_n 3, 1) := by decide +kernel
theorem dX8_seaAt_15 : decode cX8_seaAt 15 = .ok (.aload_n 1, 1) := by decide +kernel
theorem dX8_seaAt_16 : decode cX8_seaAt 16 = .ok (.iload 4, 2) := by decide +kernel
theorem dX8_seaAt_18 : decode cX8_seaAt 18 = .ok (.aload_n 0, 1) := by decide +kernel
theorem dX8_seaAt_19 : decode cX8_seaAt 19 = .ok (.getfield 9, 3) := by decide +kernel
theorem dX8_seaAt_22 : decode cX8_seaAt 22 = .ok (.iload 4, 2) := by decide +kernel
theorem dX8_seaAt_24 : decode cX8_seaAt 24 = .ok (.iaload, 1) := by decide +kernel
theorem dX8_seaAt_25 : decode cX8_seaAt 25 = .ok (.iload_n 2, 1) := by decide +kernel
theorem dX8_seaAt_26 : decode cX8_seaAt 26 = .ok (.invokevirtual 98, 3) := by decide +kernel
theorem dX8_seaAt_29 : decode cX8_seaAt 29 = .ok (.iadd, 1) := by decide +kernel
theorem dX8_seaAt_30 : decode cX8_seaAt 30 = .ok (.istore_n 3, 1) := by decide +kernel
theorem dX8_seaAt_31 : decode cX8_seaAt 31 = .ok (.iinc 4 1, 3) := by decide +kernel
theorem dX8_seaAt_34 : decode cX8_seaAt 34 = .ok (.goto (-29), 3) := by decide +kernel
theorem dX8_seaAt_37 : decode cX8_seaAt 37 = .ok (.iload_n 3, 1) := by decide +kernel
theorem dX8_seaAt_38 : decode cX8_seaAt 38 = .ok (.ireturn, 1) := by decide +kernel
theorem dX8_depthAt_0 : decode cX8_depthAt 0 = .ok (.iconst 0, 1) := by decide +kernel
theorem dX8_depthAt_1 : decode cX8_depthAt 1 = .ok (.aload_n 0, 1) := by decide +kernel
theorem dX8_depthAt_2 : decode cX8_depthAt 2 = .ok (.aload_n 1, 1) := by decide +kernel
theorem dX8_depthAt_3 : decode cX8_depthAt 3 = .ok (.iload_n 2, 1) := by decide +kernel
theorem dX8_depthAt_4 : decode cX8_depthAt 4 = .ok (.invokevirtual 101, 3) := by decide +kernel
theorem dX8_depthAt_7 : decode cX8_depthAt 7 = .ok (.aload_n 1, 1) := by decide +kernel
theorem dX8_depthAt_8 : decode cX8_depthAt 8 = .ok (.getfield 104, 3) := by decide +kernel
theorem dX8_depthAt_11 : decode cX8_depthAt 11 = .ok (.iload_n 2, 1) := by decide +kernel
theorem dX8_depthAt_12 : decode cX8_depthAt 12 = .ok (.iaload, 1) := by decide +kernel
theorem dX8_depthAt_13 : decode cX8_depthAt 13 = .ok (.isub, 1) := by decide +kernel
theorem dX8_depthAt_14 : decode cX8_depthAt 14 = .ok (.invokestatic 82, 3) := by decide +kernel
theorem dX8_depthAt_17 : decode cX8_depthAt 17 = .ok (.ireturn, 1) := by decide +kernel
theorem dX8_wet_0 : decode cX8_wet 0 = .ok (.iconst 0, 1) := by decide +kernel
theorem dX8_wet_1 : decode cX8_wet 1 = .ok (.istore_n 2, 1) := by decide +kernel
theorem dX8_wet_2 : decode cX8_wet 2 = .ok (.iconst 0, 1) := by decide +kernel
theorem dX8_wet_3 : decode cX8_wet 3 = .ok (.istore_n 3, 1) := by decide +kernel
theorem dX8_wet_4 : decode cX8_wet 4 = .ok (.iload_n 3, 1) := by decide +kernel
theorem dX8_wet_5 : decode cX8_wet 5 = .ok (.aload_n 1, 1) := by decide +kernel
theorem dX8_wet_6 : decode cX8_wet 6 = .ok (.getfield 107, 3) := by decide +kernel
theorem dX8_wet_9 : decode cX8_wet 9 = .ok (.if_icmp .ge 24, 3) := by decide +kernel
theorem dX8_wet_12 : decode cX8_wet 12 = .ok (.aload_n 0, 1) := by decide +kernel
theorem dX8_wet_13 : decode cX8_wet 13 = .ok (.aload_n 1, 1) := by decide +kernel
theorem dX8_wet_14 : decode cX8_wet 14 = .ok (.iload_n 3, 1) := by decide +kernel
theorem dX8_wet_15 : decode cX8_wet 15 = .ok (.invokevirtual 91, 3) := by decide +kernel
theorem dX8_wet_18 : decode cX8_wet 18 = .ok (.ifCond .le 9, 3) := by decide +kernel
theorem dX8_wet_21 : decode cX8_wet 21 = .ok (.iload_n 2, 1) := by decide +kernel
theorem dX8_wet_22 : decode cX8_wet 22 = .ok (.iconst 1, 1) := by decide +kernel
theorem dX8_wet_23 : decode cX8_wet 23 = .ok (.iload_n 3, 1) := by decide +kernel
theorem dX8_wet_24 : decode cX8_wet 24 = .ok (.ishl, 1) := by decide +kernel
theorem dX8_wet_25 : decode cX8_wet 25 = .ok (.ior, 1) := by decide +kernel
theorem dX8_wet_26 : decode cX8_wet 26 = .ok (.istore_n 2, 1) := by decide +kernel
theorem dX8_wet_27 : decode cX8_wet 27 = .ok (.iinc 3 1, 3) := by decide +kernel
theorem dX8_wet_30 : decode cX8_wet 30 = .ok (.goto (-26), 3) := by decide +kernel
theorem dX8_wet_33 : decode cX8_wet 33 = .ok (.iload_n 2, 1) := by decide +kernel
theorem dX8_wet_34 : decode cX8_wet 34 = .ok (.ireturn, 1) := by decide +kernel
theorem dX8_dryGround_0 : decode cX8_dryGround 0 = .ok (.iconst 0, 1) := by decide +kernel
theorem dX8_dryGround_1 : decode cX8_dryGround 1 = .ok (.istore_n 2, 1) := by decide +kernel
theorem dX8_dryGround_2 : decode cX8_dryGround 2 = .ok (.iconst 0, 1) := by decide +kernel
theorem dX8_dryGround_3 : decode cX8_dryGround 3 = .ok (.istore_n 3, 1) := by decide +kernel
theorem dX8_dryGround_4 : decode cX8_dryGround 4 = .ok (.iload_n 3, 1) := by decide +kernel
theorem dX8_dryGround_5 : decode cX8_dryGround 5 = .ok (.aload_n 1, 1) := by decide +kernel
theorem dX8_dryGround_6 : decode cX8_dryGround 6 = .ok (.getfield 107, 3) := by decide +kernel
theorem dX8_dryGround_9 : decode cX8_dryGround 9 = .ok (.if_icmp .ge 27, 3) := by decide +kernel
theorem dX8_dryGround_12 : decode cX8_dryGround 12 = .ok (.aload_n 0, 1) := by decide +kernel
theorem dX8_dryGround_13 : decode cX8_dryGround 13 = .ok (.aload_n 1, 1) := by decide +kernel
theorem dX8_dryGround_14 : decode cX8_dryGround 14 = .ok (.iload_n 3, 1) := by decide +kernel
theorem dX8_dryGround_15 : decode cX8_dryGround 15 = .ok (.invokevirtual 91, 3) := by decide +kernel
theorem dX8_dryGround_18 : decode cX8_dryGround 18 = .ok (.ifCond .ne 12, 3) := by decide +kernel
theorem dX8_dryGround_21 : decode cX8_dryGround 21 = .ok (.iload_n 2, 1) := by decide +kernel
theorem dX8_dryGround_22 : decode cX8_dryGround 22 = .ok (.aload_n 1, 1) := by decide +kernel
theorem dX8_dryGround_23 : decode cX8_dryGround 23 = .ok (.getfield 104, 3) := by decide +kernel
theorem dX8_dryGround_26 : decode cX8_dryGround 26 = .ok (.iload_n 3, 1) := by decide +kernel
theorem dX8_dryGround_27 : decode cX8_dryGround 27 = .ok (.iaload, 1) := by decide +kernel
theorem dX8_dryGround_28 : decode cX8_dryGround 28 = .ok (.iadd, 1) := by decide +kernel
theorem dX8_dryGround_29 : decode cX8_dryGround 29 = .ok (.istore_n 2, 1) := by decide +kernel
theorem dX8_dryGround_30 : decode cX8_dryGround 30 = .ok (.iinc 3 1, 3) := by decide +kernel
theorem dX8_dryGround_33 : decode cX8_dryGround 33 = .ok (.goto (-29), 3) := by decide +kernel
theorem dX8_dryGround_36 : decode cX8_dryGround 36 = .ok (.iload_n 2, 1) := by decide +kernel
theorem dX8_dryGround_37 : decode cX8_dryGround 37 = .ok (.ireturn, 1) := by decide +kernel
theorem dX8_strongest_0 : decode cX8_strongest 0 = .ok (.iconst (-1), 1) := by decide +kernel
theorem dX8_strongest_1 : decode cX8_strongest 1 = .ok (.istore_n 3, 1) := by decide +kernel
theorem dX8_strongest_2 : decode cX8_strongest 2 = .ok (.iconst 0, 1) := by decide +kernel
theorem dX8_strongest_3 : decode cX8_strongest 3 = .ok (.istore 4, 2) := by decide +kernel
theorem dX8_strongest_5 : decode cX8_strongest 5 = .ok (.iconst 0, 1) := by decide +kernel
theorem dX8_strongest_6 : decode cX8_strongest 6 = .ok (.istore 5, 2) := by decide +kernel
theorem dX8_strongest_8 : decode cX8_strongest 8 = .ok (.iload 5, 2) := by decide +kernel
theorem dX8_strongest_10 : decode cX8_strongest 10 = .ok (.aload_n 1, 1) := by decide +kernel
theorem dX8_strongest_11 : decode cX8_strongest 11 = .ok (.getfield 85, 3) := by decide +kernel
theorem dX8_strongest_14 : decode cX8_strongest 14 = .ok (.if_icmp .ge 39, 3) := by decide +kernel
theorem dX8_strongest_17 : decode cX8_strongest 17 = .ok (.aload_n 1, 1) := by decide +kernel
theorem dX8_strongest_18 : decode cX8_strongest 18 = .ok (.iload 5, 2) := by decide +kernel
theorem dX8_strongest_20 : decode cX8_strongest 20 = .ok (.aload_n 0, 1) := by decide +kernel
theorem dX8_strongest_21 : decode cX8_strongest 21 = .ok (.getfield 9, 3) := by decide +kernel
theorem dX8_strongest_24 : decode cX8_strongest 24 = .ok (.iload 5, 2) := by decide +kernel
theorem dX8_strongest_26 : decode cX8_strongest 26 = .ok (.iaload, 1) := by decide +kernel
theorem dX8_strongest_27 : decode cX8_strongest 27 = .ok (.iload_n 2, 1) := by decide +kernel
theorem dX8_strongest_28 : decode cX8_strongest 28 = .ok (.invokevirtual 98, 3) := by decide +kernel
theorem dX8_strongest_31 : decode cX8_strongest 31 = .ok (.istore 6, 2) := by decide +kernel
theorem dX8_strongest_33 : decode cX8_strongest 33 = .ok (.iload 6, 2) := by decide +kernel
theorem dX8_strongest_35 : decode cX8_strongest 35 = .ok (.iload 4, 2) := by decide +kernel
theorem dX8_strongest_37 : decode cX8_strongest 37 = .ok (.if_icmp .le 10, 3) := by decide +kernel
theorem dX8_strongest_40 : decode cX8_strongest 40 = .ok (.iload 6, 2) := by decide +kernel
theorem dX8_strongest_42 : decode cX8_strongest 42 = .ok (.istore 4, 2) := by decide +kernel
theorem dX8_strongest_44 : decode cX8_strongest 44 = .ok (.iload 5, 2) := by decide +kernel
theorem dX8_strongest_46 : decode cX8_strongest 46 = .ok (.istore_n 3, 1) := by decide +kernel
theorem dX8_strongest_47 : decode cX8_strongest 47 = .ok (.iinc 5 1, 3) := by decide +kernel
theorem dX8_strongest_50 : decode cX8_strongest 50 = .ok (.goto (-42), 3) := by decide +kernel
theorem dX8_strongest_53 : decode cX8_strongest 53 = .ok (.iload_n 3, 1) := by decide +kernel
theorem dX8_strongest_54 : decode cX8_strongest 54 = .ok (.ireturn, 1) := by decide +kernel
theorem dX8_steepest_0 : decode cX8_steepest 0 = .ok (.iconst (-1), 1) := by decide +kernel
theorem dX8_steepest_1 : decode cX8_steepest 1 = .ok (.istore_n 2, 1) := by decide +kernel
theorem dX8_steepest_2 : decode cX8_steepest 2 = .ok (.iconst (-1), 1) := by decide +kernel
theorem dX8_steepest_3 : decode cX8_steepest 3 = .ok (.istore_n 3, 1) := by decide +kernel
theorem dX8_steepest_4 : decode cX8_steepest 4 = .ok (.iconst 0, 1) := by decide +kernel
theorem dX8_steepest_5 : decode cX8_steepest 5 = .ok (.istore 4, 2) := by decide +kernel
theorem dX8_steepest_7 : decode cX8_steepest 7 = .ok (.iload 4, 2) := by decide +kernel
theorem dX8_steepest_9 : decode cX8_steepest 9 = .ok (.iconst 1, 1) := by decide +kernel
theorem dX8_steepest_10 : decode cX8_steepest 10 = .ok (.iadd, 1) := by decide +kernel
theorem dX8_steepest_11 : decode cX8_steepest 11 = .ok (.aload_n 1, 1) := by decide +kernel
theorem dX8_steepest_12 : decode cX8_steepest 12 = .ok (.getfield 107, 3) := by decide +kernel
theorem dX8_steepest_15 : decode cX8_steepest 15 = .ok (.if_icmp .ge 30, 3) := by decide +kernel
theorem dX8_steepest_18 : decode cX8_steepest 18 = .ok (.aload_n 0, 1) := by decide +kernel
theorem dX8_steepest_19 : decode cX8_steepest 19 = .ok (.aload_n 1, 1) := by decide +kernel
theorem dX8_steepest_20 : decode cX8_steepest 20 = .ok (.iload 4, 2) := by decide +kernel
theorem dX8_steepest_22 : decode cX8_steepest 22 = .ok (.invokevirtual 110, 3) := by decide +kernel
theorem dX8_steepest_25 : decode cX8_steepest 25 = .ok (.istore 5, 2) := by decide +kernel
theorem dX8_steepest_27 : decode cX8_steepest 27 = .ok (.iload 5, 2) := by decide +kernel
theorem dX8_steepest_29 : decode cX8_steepest 29 = .ok (.iload_n 3, 1) := by decide +kernel
theorem dX8_steepest_30 : decode cX8_steepest 30 = .ok (.if_icmp .le 9, 3) := by decide +kernel
theorem dX8_steepest_33 : decode cX8_steepest 33 = .ok (.iload 5, 2) := by decide +kernel
theorem dX8_steepest_35 : decode cX8_steepest 35 = .ok (.istore_n 3, 1) := by decide +kernel
theorem dX8_steepest_36 : decode cX8_steepest 36 = .ok (.iload 4, 2) := by decide +kernel
theorem dX8_steepest_38 : decode cX8_steepest 38 = .ok (.istore_n 2, 1) := by decide +kernel
theorem dX8_steepest_39 : decode cX8_steepest 39 = .ok (.iinc 4 1, 3) := by decide +kernel
theorem dX8_steepest_42 : decode cX8_steepest 42 = .ok (.goto (-35), 3) := by decide +kernel
theorem dX8_steepest_45 : decode cX8_steepest 45 = .ok (.iload_n 2, 1) := by decide +kernel
theorem dX8_steepest_46 : decode cX8_steepest 46 = .ok (.ireturn, 1) := by decide +kernel
theorem dX8_slope_0 : decode cX8_slope 0 = .ok (.aload_n 0, 1) := by decide +kernel
theorem dX8_slope_1 : decode cX8_slope 1 = .ok (.aload_n 1, 1) := by decide +kernel
theorem dX8_slope_2 : decode cX8_slope 2 = .ok (.invokevirtual 113, 3) := by decide +kernel
theorem dX8_slope_5 : decode cX8_slope 5 = .ok (.istore_n 2, 1) := by decide +kernel
theorem dX8_slope_6 : decode cX8_slope 6 = .ok (.iload_n 2, 1) := by decide +kernel
theorem dX8_slope_7 : decode cX8_slope 7 = .ok (.iconst (-1), 1) := by decide +kernel
theorem dX8_slope_8 : decode cX8_slope 8 = .ok (.if_icmp .ne 7, 3) := by decide +kernel
theorem dX8_slope_11 : decode cX8_slope 11 = .ok (.iconst 0, 1) := by decide +kernel
theorem dX8_slope_12 : decode cX8_slope 12 = .ok (.goto 9, 3) := by decide +kernel
theorem dX8_slope_15 : decode cX8_slope 15 = .ok (.aload_n 0, 1) := by decide +kernel
theorem dX8_slope_16 : decode cX8_slope 16 = .ok (.aload_n 1, 1) := by decide +kernel
theorem dX8_slope_17 : decode cX8_slope 17 = .ok (.iload_n 2, 1) := by decide +kernel
theorem dX8_slope_18 : decode cX8_slope 18 = .ok (.invokevirtual 110, 3) := by decide +kernel
theorem dX8_slope_21 : decode cX8_slope 21 = .ok (.ireturn, 1) := by decide +kernel
theorem dX8_unlikeness_0 : decode cX8_unlikeness 0 = .ok (.aload_n 0, 1) := by decide +kernel
theorem dX8_unlikeness_1 : decode cX8_unlikeness 1 = .ok (.aload_n 1, 1) := by decide +kernel
theorem dX8_unlikeness_2 : decode cX8_unlikeness 2 = .ok (.iload_n 2, 1) := by decide +kernel
theorem dX8_unlikeness_3 : decode cX8_unlikeness 3 = .ok (.invokevirtual 101, 3) := by decide +kernel
theorem dX8_unlikeness_6 : decode cX8_unlikeness 6 = .ok (.aload_n 0, 1) := by decide +kernel
theorem dX8_unlikeness_7 : decode cX8_unlikeness 7 = .ok (.aload_n 1, 1) := by decide +kernel
theorem dX8_unlikeness_8 : decode cX8_unlikeness 8 = .ok (.iload_n 2, 1) := by decide +kernel
theorem dX8_unlikeness_9 : decode cX8_unlikeness 9 = .ok (.iconst 1, 1) := by decide +kernel
theorem dX8_unlikeness_10 : decode cX8_unlikeness 10 = .ok (.iadd, 1) := by decide +kernel
theorem dX8_unlikeness_11 : decode cX8_unlikeness 11 = .ok (.invokevirtual 101, 3) := by decide +kernel
theorem dX8_unlikeness_14 : decode cX8_unlikeness 14 = .ok (.isub, 1) := by decide +kernel
theorem dX8_unlikeness_15 : decode cX8_unlikeness 15 = .ok (.invokestatic 117, 3) := by decide +kernel
theorem dX8_unlikeness_18 : decode cX8_unlikeness 18 = .ok (.ireturn, 1) := by decide +kernel
theorem dJ7_fill_53178_0 : decode cJ7_fill_53178 0 = .ok (.iconst 0, 1) := by decide +kernel
theorem dJ7_fill_53178_1 : decode cJ7_fill_53178 1 = .ok (.istore_n 2, 1) := by decide +kernel
theorem dJ7_fill_53178_2 : decode cJ7_fill_53178 2 = .ok (.aload_n 0, 1) := by decide +kernel
theorem dJ7_fill_53178_3 : decode cJ7_fill_53178 3 = .ok (.arraylength, 1) := by decide +kernel
theorem dJ7_fill_53178_4 : decode cJ7_fill_53178 4 = .ok (.istore_n 3, 1) := by decide +kernel
theorem dJ7_fill_53178_5 : decode cJ7_fill_53178 5 = .ok (.iload_n 2, 1) := by decide +kernel
theorem dJ7_fill_53178_6 : decode cJ7_fill_53178 6 = .ok (.iload_n 3, 1) := by decide +kernel
theorem dJ7_fill_53178_7 : decode cJ7_fill_53178 7 = .ok (.if_icmp .ge 13, 3) := by decide +kernel
theorem dJ7_fill_53178_10 : decode cJ7_fill_53178 10 = .ok (.aload_n 0, 1) := by decide +kernel
theorem dJ7_fill_53178_11 : decode cJ7_fill_53178 11 = .ok (.iload_n 2, 1) := by decide +kernel
theorem dJ7_fill_53178_12 : decode cJ7_fill_53178 12 = .ok (.iload_n 1, 1) := by decide +kernel
theorem dJ7_fill_53178_13 : decode cJ7_fill_53178 13 = .ok (.iastore, 1) := by decide +kernel
theorem dJ7_fill_53178_14 : decode cJ7_fill_53178 14 = .ok (.iinc 2 1, 3) := by decide +kernel
theorem dJ7_fill_53178_17 : decode cJ7_fill_53178 17 = .ok (.goto (-12), 3) := by decide +kernel
theorem dJ7_fill_53178_20 : decode cJ7_fill_53178 20 = .ok (.return_, 1) := by decide +kernel
