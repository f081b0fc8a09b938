theorem dX10_hour_0 : decode cX10_hour 0 = .ok (.aload_n 0, 1) := by decide +kernel
theorem dX10_hour_1 : decode cX10_hour 1 = .ok (.iload_n 1, 1) := by decide +kernel
theorem dX10_hour_2 : decode cX10_hour 2 = .ok (.invokevirtual 222, 3) := by decide +kernel
theorem dX10_hour_5 : decode cX10_hour 5 = .ok (.istore_n 2, 1) := by decide +kernel
theorem dX10_hour_6 : decode cX10_hour 6 = .ok (.iload_n 2, 1) := by decide +kernel
theorem dX10_hour_7 : decode cX10_hour 7 = .ok (.ifCond .eq 5, 3) := by decide +kernel
theorem dX10_hour_10 : decode cX10_hour 10 = .ok (.iload_n 2, 1) := by decide +kernel
theorem dX10_hour_11 : decode cX10_hour 11 = .ok (.ireturn, 1) := by decide +kernel
theorem dX10_hour_12 : decode cX10_hour 12 = .ok (.aload_n 0, 1) := by decide +kernel
theorem dX10_hour_13 : decode cX10_hour 13 = .ok (.invokevirtual 225, 3) := by decide +kernel
theorem dX10_hour_16 : decode cX10_hour 16 = .ok (.iconst 0, 1) := by decide +kernel
theorem dX10_hour_17 : decode cX10_hour 17 = .ok (.istore_n 3, 1) := by decide +kernel
theorem dX10_hour_18 : decode cX10_hour 18 = .ok (.iload_n 3, 1) := by decide +kernel
theorem dX10_hour_19 : decode cX10_hour 19 = .ok (.iload_n 1, 1) := by decide +kernel
theorem dX10_hour_20 : decode cX10_hour 20 = .ok (.if_icmp .ge 17, 3) := by decide +kernel
theorem dX10_hour_23 : decode cX10_hour 23 = .ok (.aload_n 0, 1) := by decide +kernel
theorem dX10_hour_24 : decode cX10_hour 24 = .ok (.aload_n 0, 1) := by decide +kernel
theorem dX10_hour_25 : decode cX10_hour 25 = .ok (.getfield 16, 3) := by decide +kernel
theorem dX10_hour_28 : decode cX10_hour 28 = .ok (.invokevirtual 228, 3) := by decide +kernel
theorem dX10_hour_31 : decode cX10_hour 31 = .ok (.iinc 3 1, 3) := by decide +kernel
theorem dX10_hour_34 : decode cX10_hour 34 = .ok (.goto (-16), 3) := by decide +kernel
theorem dX10_hour_37 : decode cX10_hour 37 = .ok (.aload_n 0, 1) := by decide +kernel
theorem dX10_hour_38 : decode cX10_hour 38 = .ok (.getfield 16, 3) := by decide +kernel
theorem dX10_hour_41 : decode cX10_hour 41 = .ok (.bipush 23, 2) := by decide +kernel
theorem dX10_hour_43 : decode cX10_hour 43 = .ok (.iaload, 1) := by decide +kernel
theorem dX10_hour_44 : decode cX10_hour 44 = .ok (.ireturn, 1) := by decide +kernel
theorem dX10_sit_0 : decode cX10_sit 0 = .ok (.aload_n 0, 1) := by decide +kernel
theorem dX10_sit_1 : decode cX10_sit 1 = .ok (.iload_n 1, 1) := by decide +kernel
theorem dX10_sit_2 : decode cX10_sit 2 = .ok (.invokevirtual 202, 3) := by decide +kernel
theorem dX10_sit_5 : decode cX10_sit 5 = .ok (.ifCond .eq 11, 3) := by decide +kernel
theorem dX10_sit_8 : decode cX10_sit 8 = .ok (.aload_n 0, 1) := by decide +kernel
theorem dX10_sit_9 : decode cX10_sit 9 = .ok (.iload_n 2, 1) := by decide +kernel
theorem dX10_sit_10 : decode cX10_sit 10 = .ok (.invokevirtual 196, 3) := by decide +kernel
theorem dX10_sit_13 : decode cX10_sit 13 = .ok (.ifCond .ne 6, 3) := by decide +kernel
theorem dX10_sit_16 : decode cX10_sit 16 = .ok (.ldc 191, 2) := by decide +kernel
theorem dX10_sit_18 : decode cX10_sit 18 = .ok (.ireturn, 1) := by decide +kernel
theorem dX10_sit_19 : decode cX10_sit 19 = .ok (.aload_n 0, 1) := by decide +kernel
theorem dX10_sit_20 : decode cX10_sit 20 = .ok (.aload_n 0, 1) := by decide +kernel
theorem dX10_sit_21 : decode cX10_sit 21 = .ok (.getfield 16, 3) := by decide +kernel
theorem dX10_sit_24 : decode cX10_sit 24 = .ok (.iload_n 2, 1) := by decide +kernel
theorem dX10_sit_25 : decode cX10_sit 25 = .ok (.invokevirtual 199, 3) := by decide +kernel
theorem dX10_sit_28 : decode cX10_sit 28 = .ok (.iconst (-1), 1) := by decide +kernel
theorem dX10_sit_29 : decode cX10_sit 29 = .ok (.if_icmp .eq 6, 3) := by decide +kernel
theorem dX10_sit_32 : decode cX10_sit 32 = .ok (.ldc 221, 2) := by decide +kernel
theorem dX10_sit_34 : decode cX10_sit 34 = .ok (.ireturn, 1) := by decide +kernel
theorem dX10_sit_35 : decode cX10_sit 35 = .ok (.aload_n 0, 1) := by decide +kernel
theorem dX10_sit_36 : decode cX10_sit 36 = .ok (.invokevirtual 225, 3) := by decide +kernel
theorem dX10_sit_39 : decode cX10_sit 39 = .ok (.aload_n 0, 1) := by decide +kernel
theorem dX10_sit_40 : decode cX10_sit 40 = .ok (.getfield 16, 3) := by decide +kernel
theorem dX10_sit_43 : decode cX10_sit 43 = .ok (.bipush 12, 2) := by decide +kernel
theorem dX10_sit_45 : decode cX10_sit 45 = .ok (.iload_n 1, 1) := by decide +kernel
theorem dX10_sit_46 : decode cX10_sit 46 = .ok (.iadd, 1) := by decide +kernel
theorem dX10_sit_47 : decode cX10_sit 47 = .ok (.iaload, 1) := by decide +kernel
theorem dX10_sit_48 : decode cX10_sit 48 = .ok (.istore_n 3, 1) := by decide +kernel
theorem dX10_sit_49 : decode cX10_sit 49 = .ok (.aload_n 0, 1) := by decide +kernel
theorem dX10_sit_50 : decode cX10_sit 50 = .ok (.getfield 16, 3) := by decide +kernel
theorem dX10_sit_53 : decode cX10_sit 53 = .ok (.bipush 12, 2) := by decide +kernel
theorem dX10_sit_55 : decode cX10_sit 55 = .ok (.iload_n 1, 1) := by decide +kernel
theorem dX10_sit_56 : decode cX10_sit 56 = .ok (.iadd, 1) := by decide +kernel
theorem dX10_sit_57 : decode cX10_sit 57 = .ok (.iload_n 2, 1) := by decide +kernel
theorem dX10_sit_58 : decode cX10_sit 58 = .ok (.iastore, 1) := by decide +kernel
theorem dX10_sit_59 : decode cX10_sit 59 = .ok (.iload_n 3, 1) := by decide +kernel
theorem dX10_sit_60 : decode cX10_sit 60 = .ok (.ireturn, 1) := by decide +kernel
theorem dX10_rest_0 : decode cX10_rest 0 = .ok (.aload_n 0, 1) := by decide +kernel
theorem dX10_rest_1 : decode cX10_rest 1 = .ok (.iload_n 1, 1) := by decide +kernel
theorem dX10_rest_2 : decode cX10_rest 2 = .ok (.invokevirtual 202, 3) := by decide +kernel
theorem dX10_rest_5 : decode cX10_rest 5 = .ok (.ifCond .ne 6, 3) := by decide +kernel
theorem dX10_rest_8 : decode cX10_rest 8 = .ok (.ldc 191, 2) := by decide +kernel
theorem dX10_rest_10 : decode cX10_rest 10 = .ok (.ireturn, 1) := by decide +kernel
theorem dX10_rest_11 : decode cX10_rest 11 = .ok (.aload_n 0, 1) := by decide +kernel
theorem dX10_rest_12 : decode cX10_rest 12 = .ok (.getfield 16, 3) := by decide +kernel
theorem dX10_rest_15 : decode cX10_rest 15 = .ok (.bipush 12, 2) := by decide +kernel
theorem dX10_rest_17 : decode cX10_rest 17 = .ok (.iload_n 1, 1) := by decide +kernel
theorem dX10_rest_18 : decode cX10_rest 18 = .ok (.iadd, 1) := by decide +kernel
theorem dX10_rest_19 : decode cX10_rest 19 = .ok (.iaload, 1) := by decide +kernel
theorem dX10_rest_20 : decode cX10_rest 20 = .ok (.iconst (-1), 1) := by decide +kernel
theorem dX10_rest_21 : decode cX10_rest 21 = .ok (.if_icmp .ne 6, 3) := by decide +kernel
theorem dX10_rest_24 : decode cX10_rest 24 = .ok (.ldc 221, 2) := by decide +kernel
theorem dX10_rest_26 : decode cX10_rest 26 = .ok (.ireturn, 1) := by decide +kernel
theorem dX10_rest_27 : decode cX10_rest 27 = .ok (.aload_n 0, 1) := by decide +kernel
theorem dX10_rest_28 : decode cX10_rest 28 = .ok (.invokevirtual 225, 3) := by decide +kernel
theorem dX10_rest_31 : decode cX10_rest 31 = .ok (.aload_n 0, 1) := by decide +kernel
theorem dX10_rest_32 : decode cX10_rest 32 = .ok (.getfield 16, 3) := by decide +kernel
theorem dX10_rest_35 : decode cX10_rest 35 = .ok (.bipush 12, 2) := by decide +kernel
theorem dX10_rest_37 : decode cX10_rest 37 = .ok (.iload_n 1, 1) := by decide +kernel
theorem dX10_rest_38 : decode cX10_rest 38 = .ok (.iadd, 1) := by decide +kernel
theorem dX10_rest_39 : decode cX10_rest 39 = .ok (.iaload, 1) := by decide +kernel
theorem dX10_rest_40 : decode cX10_rest 40 = .ok (.istore_n 2, 1) := by decide +kernel
theorem dX10_rest_41 : decode cX10_rest 41 = .ok (.aload_n 0, 1) := by decide +kernel
theorem dX10_rest_42 : decode cX10_rest 42 = .ok (.getfield 16, 3) := by decide +kernel
theorem dX10_rest_45 : decode cX10_rest 45 = .ok (.bipush 12, 2) := by decide +kernel
theorem dX10_rest_47 : decode cX10_rest 47 = .ok (.iload_n 1, 1) := by decide +kernel
theorem dX10_rest_48 : decode cX10_rest 48 = .ok (.iadd, 1) := by decide +kernel
theorem dX10_rest_49 : decode cX10_rest 49 = .ok (.iconst (-1), 1) := by decide +kernel
theorem dX10_rest_50 : decode cX10_rest 50 = .ok (.iastore, 1) := by decide +kernel
theorem dX10_rest_51 : decode cX10_rest 51 = .ok (.iload_n 2, 1) := by decide +kernel
theorem dX10_rest_52 : decode cX10_rest 52 = .ok (.ireturn, 1) := by decide +kernel
theorem dX10_sleeps_0 : decode cX10_sleeps 0 = .ok (.aload_n 0, 1) := by decide +kernel
theorem dX10_sleeps_1 : decode cX10_sleeps 1 = .ok (.getfield 16, 3) := by decide +kernel
theorem dX10_sleeps_4 : decode cX10_sleeps 4 = .ok (.bipush 18, 2) := by decide +kernel
theorem dX10_sleeps_6 : decode cX10_sleeps 6 = .ok (.iload_n 2, 1) := by decide +kernel
theorem dX10_sleeps_7 : decode cX10_sleeps 7 = .ok (.ifCond .eq 17, 3) := by decide +kernel
theorem dX10_sleeps_10 : decode cX10_sleeps 10 = .ok (.aload_n 0, 1) := by decide +kernel
theorem dX10_sleeps_11 : decode cX10_sleeps 11 = .ok (.getfield 16, 3) := by decide +kernel
theorem dX10_sleeps_14 : decode cX10_sleeps 14 = .ok (.bipush 18, 2) := by decide +kernel
theorem dX10_sleeps_16 : decode cX10_sleeps 16 = .ok (.iaload, 1) := by decide +kernel
theorem dX10_sleeps_17 : decode cX10_sleeps 17 = .ok (.iconst 1, 1) := by decide +kernel
theorem dX10_sleeps_18 : decode cX10_sleeps 18 = .ok (.iload_n 1, 1) := by decide +kernel
theorem dX10_sleeps_19 : decode cX10_sleeps 19 = .ok (.ishl, 1) := by decide +kernel
theorem dX10_sleeps_20 : decode cX10_sleeps 20 = .ok (.ior, 1) := by decide +kernel
theorem dX10_sleeps_21 : decode cX10_sleeps 21 = .ok (.goto 16, 3) := by decide +kernel
theorem dX10_sleeps_24 : decode cX10_sleeps 24 = .ok (.aload_n 0, 1) := by decide +kernel
theorem dX10_sleeps_25 : decode cX10_sleeps 25 = .ok (.getfield 16, 3) := by decide +kernel
theorem dX10_sleeps_28 : decode cX10_sleeps 28 = .ok (.bipush 18, 2) := by decide +kernel
theorem dX10_sleeps_30 : decode cX10_sleeps 30 = .ok (.iaload, 1) := by decide +kernel
theorem dX10_sleeps_31 : decode cX10_sleeps 31 = .ok (.iconst 1, 1) := by decide +kernel
theorem dX10_sleeps_32 : decode cX10_sleeps 32 = .ok (.iload_n 1, 1) := by decide +kernel
theorem dX10_sleeps_33 : decode cX10_sleeps 33 = .ok (.ishl, 1) := by decide +kernel
theorem dX10_sleeps_34 : decode cX10_sleeps 34 = .ok (.iconst (-1), 1) := by decide +kernel
theorem dX10_sleeps_35 : decode cX10_sleeps 35 = .ok (.ixor, 1) := by decide +kernel
theorem dX10_sleeps_36 : decode cX10_sleeps 36 = .ok (.iand, 1) := by decide +kernel
theorem dX10_sleeps_37 : decode cX10_sleeps 37 = .ok (.iastore, 1) := by decide +kernel
theorem dX10_sleeps_38 : decode cX10_sleeps 38 = .ok (.return_, 1) := by decide +kernel
theorem dX10_sleep_0 : decode cX10_sleep 0 = .ok (.aload_n 0, 1) := by decide +kernel
theorem dX10_sleep_1 : decode cX10_sleep 1 = .ok (.iload_n 1, 1) := by decide +kernel
theorem dX10_sleep_2 : decode cX10_sleep 2 = .ok (.invokevirtual 202, 3) := by decide +kernel
theorem dX10_sleep_5 : decode cX10_sleep 5 = .ok (.ifCond .ne 6, 3) := by decide +kernel
theorem dX10_sleep_8 : decode cX10_sleep 8 = .ok (.ldc 191, 2) := by decide +kernel
theorem dX10_sleep_10 : decode cX10_sleep 10 = .ok (.ireturn, 1) := by decide +kernel
theorem dX10_sleep_11 : decode cX10_sleep 11 = .ok (.aload_n 0, 1) := by decide +kernel
theorem dX10_sleep_12 : decode cX10_sleep 12 = .ok (.invokevirtual 225, 3) := by decide +kernel
theorem dX10_sleep_15 : decode cX10_sleep 15 = .ok (.aload_n 0, 1) := by decide +kernel
theorem dX10_sleep_16 : decode cX10_sleep 16 = .ok (.getfield 16, 3) := by decide +kernel
theorem dX10_sleep_19 : decode cX10_sleep 19 = .ok (.bipush 18, 2) := by decide +kernel
theorem dX10_sleep_21 : decode cX10_sleep 21 = .ok (.iaload, 1) := by decide +kernel
theorem dX10_sleep_22 : decode cX10_sleep 22 = .ok (.iload_n 1, 1) := by decide +kernel
theorem dX10_sleep_23 : decode cX10_sleep 23 = .ok (.ishr, 1) := by decide +kernel
theorem dX10_sleep_24 : decode cX10_sleep 24 = .ok (.iconst 1, 1) := by decide +kernel
theorem dX10_sleep_25 : decode cX10_sleep 25 = .ok (.iand, 1) := by decide +kernel
theorem dX10_sleep_26 : decode cX10_sleep 26 = .ok (.istore_n 3, 1) := by decide +kernel
theorem dX10_sleep_27 : decode cX10_sleep 27 = .ok (.aload_n 0, 1) := by decide +kernel
theorem dX10_sleep_28 : decode cX10_sleep 28 = .ok (.iload_n 1, 1) := by decide +kernel
theorem dX10_sleep_29 : decode cX10_sleep 29 = .ok (.iload_n 2, 1) := by decide +kernel
theorem dX10_sleep_30 : decode cX10_sleep 30 = .ok (.invokevirtual 231, 3) := by decide +kernel
theorem dX10_sleep_33 : decode cX10_sleep 33 = .ok (.iload_n 3, 1) := by decide +kernel
theorem dX10_sleep_34 : decode cX10_sleep 34 = .ok (.ireturn, 1) := by decide +kernel
theorem dX10_turn_0 : decode cX10_turn 0 = .ok (.aload_n 0, 1) := by decide +kernel
theorem dX10_turn_1 : decode cX10_turn 1 = .ok (.iload_n 1, 1) := by decide +kernel
theorem dX10_turn_2 : decode cX10_turn 2 = .ok (.invokevirtual 196, 3) := by decide +kernel
theorem dX10_turn_5 : decode cX10_turn 5 = .ok (.ifCond .ne 6, 3) := by decide +kernel
theorem dX10_turn_8 : decode cX10_turn 8 = .ok (.ldc 191, 2) := by decide +kernel
theorem dX10_turn_10 : decode cX10_turn 10 = .ok (.ireturn, 1) := by decide +kernel
theorem dX10_turn_11 : decode cX10_turn 11 = .ok (.iload_n 2, 1) := by decide +kernel
theorem dX10_turn_12 : decode cX10_turn 12 = .ok (.i2l, 1) := by decide +kernel
theorem dX10_turn_13 : decode cX10_turn 13 = .ok (.lconst 0, 1) := by decide +kernel
theorem dX10_turn_14 : decode cX10_turn 14 = .ok (.ldc2_w 235, 3) := by decide +kernel
theorem dX10_turn_17 : decode cX10_turn 17 = .ok (.invokestatic 64, 3) := by decide +kernel
theorem dX10_turn_20 : decode cX10_turn 20 = .ok (.ifCond .ne 6, 3) := by decide +kernel
theorem dX10_turn_23 : decode cX10_turn 23 = .ok (.ldc 86, 2) := by decide +kernel
theorem dX10_turn_25 : decode cX10_turn 25 = .ok (.ireturn, 1) := by decide +kernel
theorem dX10_turn_26 : decode cX10_turn 26 = .ok (.aload_n 0, 1) := by decide +kernel
theorem dX10_turn_27 : decode cX10_turn 27 = .ok (.invokevirtual 225, 3) := by decide +kernel
theorem dX10_turn_30 : decode cX10_turn 30 = .ok (.aload_n 0, 1) := by decide +kernel
theorem dX10_turn_31 : decode cX10_turn 31 = .ok (.getfield 16, 3) := by decide +kernel
theorem dX10_turn_34 : decode cX10_turn 34 = .ok (.iconst 0, 1) := by decide +kernel
theorem dX10_turn_35 : decode cX10_turn 35 = .ok (.iload_n 1, 1) := by decide +kernel
theorem dX10_turn_36 : decode cX10_turn 36 = .ok (.iadd, 1) := by decide +kernel
theorem dX10_turn_37 : decode cX10_turn 37 = .ok (.iaload, 1) := by decide +kernel
theorem dX10_turn_38 : decode cX10_turn 38 = .ok (.istore_n 3, 1) := by decide +kernel
theorem dX10_turn_39 : decode cX10_turn 39 = .ok (.aload_n 0, 1) := by decide +kernel
theorem dX10_turn_40 : decode cX10_turn 40 = .ok (.getfield 16, 3) := by decide +kernel
theorem dX10_turn_43 : decode cX10_turn 43 = .ok (.iconst 0, 1) := by decide +kernel
theorem dX10_turn_44 : decode cX10_turn 44 = .ok (.iload_n 1, 1) := by decide +kernel
theorem dX10_turn_45 : decode cX10_turn 45 = .ok (.iadd, 1) := by decide +kernel
theorem dX10_turn_46 : decode cX10_turn 46 = .ok (.iload_n 2, 1) := by decide +kernel
theorem dX10_turn_47 : decode cX10_turn 47 = .ok (.iastore, 1) := by decide +kernel
theorem dX10_turn_48 : decode cX10_turn 48 = .ok (.iload_n 3, 1) := by decide +kernel
theorem dX10_turn_49 : decode cX10_turn 49 = .ok (.ireturn, 1) := by decide +kernel
theorem dX10_send_0 : decode cX10_send 0 = .ok (.aload_n 0, 1) := by decide +kernel
theorem dX10_send_1 : decode cX10_send 1 = .ok (.iload_n 1, 1) := by decide +kernel
theorem dX10_send_2 : decode cX10_send 2 = .ok (.invokevirtual 205, 3) := by decide +kernel
theorem dX10_send_5 : decode cX10_send 5 = .ok (.ifCond .ne 6, 3) := by decide +kernel
theorem dX10_send_8 : decode cX10_send 8 = .ok (.ldc 191, 2) := by decide +kernel
theorem dX10_send_10 : decode cX10_send 10 = .ok (.ireturn, 1) := by decide +kernel
theorem dX10_send_11 : decode cX10_send 11 = .ok (.aload_n 0, 1) := by decide +kernel
theorem dX10_send_12 : decode cX10_send 12 = .ok (.invokevirtual 225, 3) := by decide +kernel
theorem dX10_send_15 : decode cX10_send 15 = .ok (.aload_n 0, 1) := by decide +kernel
theorem dX10_send_16 : decode cX10_send 16 = .ok (.getfield 16, 3) := by decide +kernel
theorem dX10_send_19 : decode cX10_send 19 = .ok (.bipush 19, 2) := by decide +kernel
theorem dX10_send_21 : decode cX10_send 21 = .ok (.iload_n 1, 1) := by decide +kernel
theorem dX10_send_22 : decode cX10_send 22 = .ok (.iadd, 1) := by decide +kernel
theorem dX10_send_23 : decode cX10_send 23 = .ok (.iaload, 1) := by decide +kernel
theorem dX10_send_24 : decode cX10_send 24 = .ok (.istore_n 2, 1) := by decide +kernel
theorem dX10_send_25 : decode cX10_send 25 = .ok (.aload_n 0, 1) := by decide +kernel
theorem dX10_send_26 : decode cX10_send 26 = .ok (.getfield 16, 3) := by decide +kernel
theorem dX10_send_29 : decode cX10_send 29 = .ok (.bipush 19, 2) := by decide +kernel
theorem dX10_send_31 : decode cX10_send 31 = .ok (.iload_n 1, 1) := by decide +kernel
theorem dX10_send_32 : decode cX10_send 32 = .ok (.iadd, 1) := by decide +kernel
theorem dX10_send_33 : decode cX10_send 33 = .ok (.aload_n 0, 1) := by decide +kernel
theorem dX10_send_34 : decode cX10_send 34 = .ok (.getfield 7, 3) := by decide +kernel
theorem dX10_send_37 : decode cX10_send 37 = .ok (.bipush 36, 2) := by decide +kernel
theorem dX10_send_39 : decode cX10_send 39 = .ok (.iload_n 1, 1) := by decide +kernel
theorem dX10_send_40 : decode cX10_send 40 = .ok (.iadd, 1) := by decide +kernel
theorem dX10_send_41 : decode cX10_send 41 = .ok (.iaload, 1) := by decide +kernel
theorem dX10_send_42 : decode cX10_send 42 = .ok (.iastore, 1) := by decide +kernel
theorem dX10_send_43 : decode cX10_send 43 = .ok (.iload_n 2, 1) := by decide +kernel
theorem dX10_send_44 : decode cX10_send 44 = .ok (.ireturn, 1) := by decide +kernel
theorem dX10_draw_0 : decode cX10_draw 0 = .ok (.aload_n 0, 1) := by decide +kernel
theorem dX10_draw_1 : decode cX10_draw 1 = .ok (.aload_n 0, 1) := by decide +kernel
theorem dX10_draw_2 : decode cX10_draw 2 = .ok (.getfield 237, 3) := by decide +kernel
theorem dX10_draw_5 : decode cX10_draw 5 = .ok (.ldc2_w 241, 3) := by decide +kernel
theorem dX10_draw_8 : decode cX10_draw 8 = .ok (.lmul, 1) := by decide +kernel
theorem dX10_draw_9 : decode cX10_draw 9 = .ok (.ldc2_w 243, 3) := by decide +kernel
theorem dX10_draw_12 : decode cX10_draw 12 = .ok (.ladd, 1) := by decide +kernel
theorem dX10_draw_13 : decode cX10_draw 13 = .ok (.ldc2_w 245, 3) := by decide +kernel
theorem dX10_draw_16 : decode cX10_draw 16 = .ok (.lrem, 1) := by decide +kernel
theorem dX10_draw_17 : decode cX10_draw 17 = .ok (.putfield 237, 3) := by decide +kernel
theorem dX10_draw_20 : decode cX10_draw 20 = .ok (.aload_n 0, 1) := by decide +kernel
theorem dX10_draw_21 : decode cX10_draw 21 = .ok (.getfield 237, 3) := by decide +kernel
theorem dX10_draw_24 : decode cX10_draw 24 = .ok (.ldc2_w 247, 3) := by decide +kernel
theorem dX10_draw_27 : decode cX10_draw 27 = .ok (.ldiv, 1) := by decide +kernel
theorem dX10_draw_28 : decode cX10_draw 28 = .ok (.iload_n 1, 1) := by decide +kernel
theorem dX10_draw_29 : decode cX10_draw 29 = .ok (.i2l, 1) := by decide +kernel
theorem dX10_draw_30 : decode cX10_draw 30 = .ok (.lrem, 1) := by decide +kernel
theorem dX10_draw_31 : decode cX10_draw 31 = .ok (.l2i, 1) := by decide +kernel
theorem dX10_draw_32 : decode cX10_draw 32 = .ok (.ireturn, 1) := by decide +kernel
theorem dX10_draws_0 : decode cX10_draws 0 = .ok (.aload_n 0, 1) := by decide +kernel
theorem dX10_draws_1 : decode cX10_draws 1 = .ok (.aload_n 0, 1) := by decide +kernel
theorem dX10_draws_2 : decode cX10_draws 2 = .ok (.getfield 7, 3) := by decide +kernel
theorem dX10_draws_5 : decode cX10_draws 5 = .ok (.iconst 2, 1) := by decide +kernel
theorem dX10_draws_6 : decode cX10_draws 6 = .ok (.iaload, 1) := by decide +kernel
theorem dX10_draws_7 : decode cX10_draws 7 = .ok (.invokevirtual 249, 3) := by decide +kernel
theorem dX10_draws_10 : decode cX10_draws 10 = .ok (.istore_n 1, 1) := by decide +kernel
theorem dX10_draws_11 : decode cX10_draws 11 = .ok (.aload_n 0, 1) := by decide +kernel
theorem dX10_draws_12 : decode cX10_draws 12 = .ok (.bipush 6, 2) := by decide +kernel
theorem dX10_draws_14 : decode cX10_draws 14 = .ok (.invokevirtual 249, 3) := by decide +kernel
theorem dX10_draws_17 : decode cX10_draws 17 = .ok (.istore_n 2, 1) := by decide +kernel
theorem dX10_draws_18 : decode cX10_draws 18 = .ok (.iload_n 2, 1) := by decide +kernel
theorem dX10_draws_19 : decode cX10_draws 19 = .ok (.iconst 2, 1) := by decide +kernel
theorem dX10_draws_20 : decode cX10_draws 20 = .ok (.if_icmp .ge 20, 3) := by decide +kernel
theorem dX10_draws_23 : decode cX10_draws 23 = .ok (.aload_n 0, 1) := by decide +kernel
theorem dX10_draws_24 : decode cX10_draws 24 = .ok (.iload_n 1, 1) := by decide +kernel
theorem dX10_draws_25 : decode cX10_draws 25 = .ok (.iload_n 2, 1) := by decide +kernel
theorem dX10_draws_26 : decode cX10_draws 26 = .ok (.ifCond .ne 7, 3) := by decide +kernel
theorem dX10_draws_29 : decode cX10_draws 29 = .ok (.iconst 1, 1) := by decide +kernel
theorem dX10_draws_30 : decode cX10_draws 30 = .ok (.goto 4, 3) := by decide +kernel
theorem dX10_draws_33 : decode cX10_draws 33 = .ok (.iconst 0, 1) := by decide +kernel
theorem dX10_draws_34 : decode cX10_draws 34 = .ok (.invokevirtual 231, 3) := by decide +kernel
theorem dX10_draws_37 : decode cX10_draws 37 = .ok (.goto 81, 3) := by decide +kernel
theorem dX10_draws_40 : decode cX10_draws 40 = .ok (.iload_n 2, 1) := by decide +kernel
theorem dX10_draws_41 : decode cX10_draws 41 = .ok (.iconst 2, 1) := by decide +kernel
theorem dX10_draws_42 : decode cX10_draws 42 = .ok (.if_icmp .ne 16, 3) := by decide +kernel
theorem dX10_draws_45 : decode cX10_draws 45 = .ok (.aload_n 0, 1) := by decide +kernel
theorem dX10_draws_46 : decode cX10_draws 46 = .ok (.getfield 16, 3) := by decide +kernel
theorem dX10_draws_49 : decode cX10_draws 49 = .ok (.bipush 12, 2) := by decide +kernel
theorem dX10_draws_51 : decode cX10_draws 51 = .ok (.iload_n 1, 1) := by decide +kernel
theorem dX10_draws_52 : decode cX10_draws 52 = .ok (.iadd, 1) := by decide +kernel
theorem dX10_draws_53 : decode cX10_draws 53 = .ok (.iconst (-1), 1) := by decide +kernel
theorem dX10_draws_54 : decode cX10_draws 54 = .ok (.iastore, 1) := by decide +kernel
theorem dX10_draws_55 : decode cX10_draws 55 = .ok (.goto 63, 3) := by decide +kernel
theorem dX10_draws_58 : decode cX10_draws 58 = .ok (.iload_n 2, 1) := by decide +kernel
theorem dX10_draws_59 : decode cX10_draws 59 = .ok (.iconst 3, 1) := by decide +kernel
theorem dX10_draws_60 : decode cX10_draws 60 = .ok (.if_icmp .ne 58, 3) := by decide +kernel
theorem dX10_draws_63 : decode cX10_draws 63 = .ok (.aload_n 0, 1) := by decide +kernel
theorem dX10_draws_64 : decode cX10_draws 64 = .ok (.getfield 7, 3) := by decide +kernel
theorem dX10_draws_67 : decode cX10_draws 67 = .ok (.iconst 1, 1) := by decide +kernel
theorem dX10_draws_68 : decode cX10_draws 68 = .ok (.iaload, 1) := by decide +kernel
theorem dX10_draws_69 : decode cX10_draws 69 = .ok (.ifCond .le 49, 3) := by decide +kernel
theorem dX10_draws_72 : decode cX10_draws 72 = .ok (.aload_n 0, 1) := by decide +kernel
theorem dX10_draws_73 : decode cX10_draws 73 = .ok (.aload_n 0, 1) := by decide +kernel
theorem dX10_draws_74 : decode cX10_draws 74 = .ok (.getfield 7, 3) := by decide +kernel
theorem dX10_draws_77 : decode cX10_draws 77 = .ok (.iconst 1, 1) := by decide +kernel
theorem dX10_draws_78 : decode cX10_draws 78 = .ok (.iaload, 1) := by decide +kernel
theorem dX10_draws_79 : decode cX10_draws 79 = .ok (.invokevirtual 249, 3) := by decide +kernel
theorem dX10_draws_82 : decode cX10_draws 82 = .ok (.istore_n 3, 1) := by decide +kernel
theorem dX10_draws_83 : decode cX10_draws 83 = .ok (.aload_n 0, 1) := by decide +kernel
theorem dX10_draws_84 : decode cX10_draws 84 = .ok (.getfield 16, 3) := by decide +kernel
theorem dX10_draws_87 : decode cX10_draws 87 = .ok (.bipush 12, 2) := by decide +kernel
theorem dX10_draws_89 : decode cX10_draws 89 = .ok (.iload_n 1, 1) := by decide +kernel
theorem dX10_draws_90 : decode cX10_draws 90 = .ok (.iadd, 1) := by decide +kernel
theorem dX10_draws_91 : decode cX10_draws 91 = .ok (.aload_n 0, 1) := by decide +kernel
theorem dX10_draws_92 : decode cX10_draws 92 = .ok (.aload_n 0, 1) := by decide +kernel
theorem dX10_draws_93 : decode cX10_draws 93 = .ok (.getfield 16, 3) := by decide +kernel
theorem dX10_draws_96 : decode cX10_draws 96 = .ok (.iload_n 3, 1) := by decide +kernel
theorem dX10_draws_97 : decode cX10_draws 97 = .ok (.invokevirtual 199, 3) := by decide +kernel
theorem dX10_draws_100 : decode cX10_draws 100 = .ok (.iconst (-1), 1) := by decide +kernel
theorem dX10_draws_101 : decode cX10_draws 101 = .ok (.if_icmp .ne 7, 3) := by decide +kernel
theorem dX10_draws_104 : decode cX10_draws 104 = .ok (.iload_n 3, 1) := by decide +kernel
theorem dX10_draws_105 : decode cX10_draws 105 = .ok (.goto 12, 3) := by decide +kernel
theorem dX10_draws_108 : decode cX10_draws 108 = .ok (.aload_n 0, 1) := by decide +kernel
theorem dX10_draws_109 : decode cX10_draws 109 = .ok (.getfield 16, 3) := by decide +kernel
theorem dX10_draws_112 : decode cX10_draws 112 = .ok (.bipush 12, 2) := by decide +kernel
theorem dX10_draws_114 : decode cX10_draws 114 = .ok (.iload_n 1, 1) := by decide +kernel
theorem dX10_draws_115 : decode cX10_draws 115 = .ok (.iadd, 1) := by decide +kernel
theorem dX10_draws_116 : decode cX10_draws 116 = .ok (.iaload, 1) := by decide +kernel
theorem dX10_draws_117 : decode cX10_draws 117 = .ok (.iastore, 1) := by decide +kernel
theorem dX10_draws_118 : decode cX10_draws 118 = .ok (.return_, 1) := by decide +kernel
theorem dX10_drift_0 : decode cX10_drift 0 = .ok (.aload_n 0, 1) := by decide +kernel
theorem dX10_drift_1 : decode cX10_drift 1 = .ok (.iload_n 1, 1) := by decide +kernel
theorem dX10_drift_2 : decode cX10_drift 2 = .ok (.invokevirtual 222, 3) := by decide +kernel
theorem dX10_drift_5 : decode cX10_drift 5 = .ok (.istore_n 2, 1) := by decide +kernel
theorem dX10_drift_6 : decode cX10_drift 6 = .ok (.iload_n 2, 1) := by decide +kernel
theorem dX10_drift_7 : decode cX10_drift 7 = .ok (.ifCond .eq 5, 3) := by decide +kernel
theorem dX10_drift_10 : decode cX10_drift 10 = .ok (.iload_n 2, 1) := by decide +kernel
theorem dX10_drift_11 : decode cX10_drift 11 = .ok (.ireturn, 1) := by decide +kernel
theorem dX10_drift_12 : decode cX10_drift 12 = .ok (.aload_n 0, 1) := by decide +kernel
theorem dX10_drift_13 : decode cX10_drift 13 = .ok (.invokevirtual 225, 3) := by decide +kernel
theorem dX10_drift_16 : decode cX10_drift 16 = .ok (.iconst 0, 1) := by decide +kernel
theorem dX10_drift_17 : decode cX10_drift 17 = .ok (.istore_n 3, 1) := by decide +kernel
theorem dX10_drift_18 : decode cX10_drift 18 = .ok (.iload_n 3, 1) := by decide +kernel
theorem dX10_drift_19 : decode cX10_drift 19 = .ok (.iload_n 1, 1) := by decide +kernel
theorem dX10_drift_20 : decode cX10_drift 20 = .ok (.if_icmp .ge 30, 3) := by decide +kernel
theorem dX10_drift_23 : decode cX10_drift 23 = .ok (.aload_n 0, 1) := by decide +kernel
theorem dX10_drift_24 : decode cX10_drift 24 = .ok (.getfield 7, 3) := by decide +kernel
theorem dX10_drift_27 : decode cX10_drift 27 = .ok (.iconst 2, 1) := by decide +kernel
theorem dX10_drift_28 : decode cX10_drift 28 = .ok (.iaload, 1) := by decide +kernel
theorem dX10_drift_29 : decode cX10_drift 29 = .ok (.ifCond .le 7, 3) := by decide +kernel
theorem dX10_drift_32 : decode cX10_drift 32 = .ok (.aload_n 0, 1) := by decide +kernel
theorem dX10_drift_33 : decode cX10_drift 33 = .ok (.invokevirtual 252, 3) := by decide +kernel
theorem dX10_drift_36 : decode cX10_drift 36 = .ok (.aload_n 0, 1) := by decide +kernel
theorem dX10_drift_37 : decode cX10_drift 37 = .ok (.aload_n 0, 1) := by decide +kernel
theorem dX10_drift_38 : decode cX10_drift 38 = .ok (.getfield 16, 3) := by decide +kernel
theorem dX10_drift_41 : decode cX10_drift 41 = .ok (.invokevirtual 228, 3) := by decide +kernel
theorem dX10_drift_44 : decode cX10_drift 44 = .ok (.iinc 3 1, 3) := by decide +kernel
theorem dX10_drift_47 : decode cX10_drift 47 = .ok (.goto (-29), 3) := by decide +kernel
theorem dX10_drift_50 : decode cX10_drift 50 = .ok (.aload_n 0, 1) := by decide +kernel
theorem dX10_drift_51 : decode cX10_drift 51 = .ok (.getfield 16, 3) := by decide +kernel
theorem dX10_drift_54 : decode cX10_drift 54 = .ok (.bipush 23, 2) := by decide +kernel
theorem dX10_drift_56 : decode cX10_drift 56 = .ok (.iaload, 1) := by decide +kernel
theorem dX10_drift_57 : decode cX10_drift 57 = .ok (.ireturn, 1) := by decide +kernel
theorem dX10_undo_0 : decode cX10_undo 0 = .ok (.aload_n 0, 1) := by decide +kernel
theorem dX10_undo_1 : decode cX10_undo 1 = .ok (.getfield 72, 3) := by decide +kernel
theorem dX10_undo_4 : decode cX10_undo 4 = .ok (.ifCond .ne 6, 3) := by decide +kernel
theorem dX10_undo_7 : decode cX10_undo 7 = .ok (.ldc 221, 2) := by decide +kernel
theorem dX10_undo_9 : decode cX10_undo 9 = .ok (.ireturn, 1) := by decide +kernel
theorem dX10_undo_10 : decode cX10_undo 10 = .ok (.aload_n 0, 1) := by decide +kernel
theorem dX10_undo_11 : decode cX10_undo 11 = .ok (.dup, 1) := by decide +kernel
theorem dX10_undo_12 : decode cX10_undo 12 = .ok (.getfield 72, 3) := by decide +kernel
theorem dX10_undo_15 : decode cX10_undo 15 = .ok (.iconst 1, 1) := by decide +kernel
theorem dX10_undo_16 : decode cX10_undo 16 = .ok (.isub, 1) := by decide +kernel
theorem dX10_undo_17 : decode cX10_undo 17 = .ok (.putfield 72, 3) := by decide +kernel
theorem dX10_undo_20 : decode cX10_undo 20 = .ok (.aload_n 0, 1) := by decide +kernel
theorem dX10_undo_21 : decode cX10_undo 21 = .ok (.getfield 22, 3) := by decide +kernel
theorem dX10_undo_24 : decode cX10_undo 24 = .ok (.bipush 24, 2) := by decide +kernel
theorem dX10_undo_26 : decode cX10_undo 26 = .ok (.aload_n 0, 1) := by decide +kernel
theorem dX10_undo_27 : decode cX10_undo 27 = .ok (.getfield 72, 3) := by decide +kernel
theorem dX10_undo_30 : decode cX10_undo 30 = .ok (.imul, 1) := by decide +kernel
theorem dX10_undo_31 : decode cX10_undo 31 = .ok (.aload_n 0, 1) := by decide +kernel
theorem dX10_undo_32 : decode cX10_undo 32 = .ok (.getfield 16, 3) := by decide +kernel
theorem dX10_undo_35 : decode cX10_undo 35 = .ok (.iconst 0, 1) := by decide +kernel
theorem dX10_undo_36 : decode cX10_undo 36 = .ok (.bipush 24, 2) := by decide +kernel
theorem dX10_undo_38 : decode cX10_undo 38 = .ok (.invokestatic 68, 3) := by decide +kernel
theorem dX10_undo_41 : decode cX10_undo 41 = .ok (.aload_n 0, 1) := by decide +kernel
theorem dX10_undo_42 : decode cX10_undo 42 = .ok (.getfield 72, 3) := by decide +kernel
theorem dX10_undo_45 : decode cX10_undo 45 = .ok (.ireturn, 1) := by decide +kernel
theorem dX10_layAside_0 : decode cX10_layAside 0 = .ok (.aload_n 0, 1) := by decide +kernel
theorem dX10_layAside_1 : decode cX10_layAside 1 = .ok (.getfield 16, 3) := by decide +kernel
theorem dX10_layAside_4 : decode cX10_layAside 4 = .ok (.iconst 0, 1) := by decide +kernel
theorem dX10_layAside_5 : decode cX10_layAside 5 = .ok (.aload_n 0, 1) := by decide +kernel
theorem dX10_layAside_6 : decode cX10_layAside 6 = .ok (.getfield 19, 3) := by decide +kernel
theorem dX10_layAside_9 : decode cX10_layAside 9 = .ok (.iconst 0, 1) := by decide +kernel
theorem dX10_layAside_10 : decode cX10_layAside 10 = .ok (.bipush 24, 2) := by decide +kernel
theorem dX10_layAside_12 : decode cX10_layAside 12 = .ok (.invokestatic 68, 3) := by decide +kernel
theorem dX10_layAside_15 : decode cX10_layAside 15 = .ok (.return_, 1) := by decide +kernel
theorem dX10_sea_0 : decode cX10_sea 0 = .ok (.aload_n 0, 1) := by decide +kernel
theorem dX10_sea_1 : decode cX10_sea 1 = .ok (.iload_n 1, 1) := by decide +kernel
theorem dX10_sea_2 : decode cX10_sea 2 = .ok (.invokevirtual 188, 3) := by decide +kernel
theorem dX10_sea_5 : decode cX10_sea 5 = .ok (.ifCond .ne 6, 3) := by decide +kernel
theorem dX10_sea_8 : decode cX10_sea 8 = .ok (.ldc 191, 2) := by decide +kernel
theorem dX10_sea_10 : decode cX10_sea 10 = .ok (.ireturn, 1) := by decide +kernel
theorem dX10_sea_11 : decode cX10_sea 11 = .ok (.iload_n 2, 1) := by decide +kernel
theorem dX10_sea_12 : decode cX10_sea 12 = .ok (.i2l, 1) := by decide +kernel
theorem dX10_sea_13 : decode cX10_sea 13 = .ok (.lconst 0, 1) := by decide +kernel
theorem dX10_sea_14 : decode cX10_sea 14 = .ok (.ldc2_w 255, 3) := by decide +kernel
theorem dX10_sea_17 : decode cX10_sea 17 = .ok (.invokestatic 64, 3) := by decide +kernel
theorem dX10_sea_20 : decode cX10_sea 20 = .ok (.ifCond .eq 13, 3) := by decide +kernel
theorem dX10_sea_23 : decode cX10_sea 23 = .ok (.iload_n 3, 1) := by decide +kernel
theorem dX10_sea_24 : decode cX10_sea 24 = .ok (.i2l, 1) := by decide +kernel
theorem dX10_sea_25 : decode cX10_sea 25 = .ok (.lconst 0, 1) := by decide +kernel
theorem dX10_sea_26 : decode cX10_sea 26 = .ok (.lconst 1, 1) := by decide +kernel
theorem dX10_sea_27 : decode cX10_sea 27 = .ok (.invokestatic 64, 3) := by decide +kernel
theorem dX10_sea_30 : decode cX10_sea 30 = .ok (.ifCond .ne 6, 3) := by decide +kernel
theorem dX10_sea_33 : decode cX10_sea 33 = .ok (.ldc 86, 2) := by decide +kernel
theorem dX10_sea_35 : decode cX10_sea 35 = .ok (.ireturn, 1) := by decide +kernel
theorem dX10_sea_36 : decode cX10_sea 36 = .ok (.aload_n 0, 1) := by decide +kernel
theorem dX10_sea_37 : decode cX10_sea 37 = .ok (.invokevirtual 257, 3) := by decide +kernel
theorem dX10_sea_40 : decode cX10_sea 40 = .ok (.iconst 0, 1) := by decide +kernel
theorem dX10_sea_41 : decode cX10_sea 41 = .ok (.istore 4, 2) := by decide +kernel
theorem dX10_sea_43 : decode cX10_sea 43 = .ok (.iload 4, 2) := by decide +kernel
theorem dX10_sea_45 : decode cX10_sea 45 = .ok (.iload_n 2, 1) := by decide +kernel
theorem dX10_sea_46 : decode cX10_sea 46 = .ok (.if_icmp .ge 17, 3) := by decide +kernel
theorem dX10_sea_49 : decode cX10_sea 49 = .ok (.aload_n 0, 1) := by decide +kernel
theorem dX10_sea_50 : decode cX10_sea 50 = .ok (.aload_n 0, 1) := by decide +kernel
theorem dX10_sea_51 : decode cX10_sea 51 = .ok (.getfield 19, 3) := by decide +kernel
theorem dX10_sea_54 : decode cX10_sea 54 = .ok (.invokevirtual 215, 3) := by decide +kernel
theorem dX10_sea_57 : decode cX10_sea 57 = .ok (.iinc 4 1, 3) := by decide +kernel
theorem dX10_sea_60 : decode cX10_sea 60 = .ok (.goto (-17), 3) := by decide +kernel
theorem dX10_sea_63 : decode cX10_sea 63 = .ok (.iload_n 3, 1) := by decide +kernel
theorem dX10_sea_64 : decode cX10_sea 64 = .ok (.ifCond .ne 15, 3) := by decide +kernel
theorem dX10_sea_67 : decode cX10_sea 67 = .ok (.aload_n 0, 1) := by decide +kernel
theorem dX10_sea_68 : decode cX10_sea 68 = .ok (.aload_n 0, 1) := by decide +kernel
theorem dX10_sea_69 : decode cX10_sea 69 = .ok (.getfield 19, 3) := by decide +kernel
theorem dX10_sea_72 : decode cX10_sea 72 = .ok (.iload_n 1, 1) := by decide +kernel
theorem dX10_sea_73 : decode cX10_sea 73 = .ok (.invokevirtual 155, 3) := by decide +kernel
theorem dX10_sea_76 : decode cX10_sea 76 = .ok (.goto 12, 3) := by decide +kernel
theorem dX10_sea_79 : decode cX10_sea 79 = .ok (.aload_n 0, 1) := by decide +kernel
theorem dX10_sea_80 : decode cX10_sea 80 = .ok (.aload_n 0, 1) := by decide +kernel
theorem dX10_sea_81 : decode cX10_sea 81 = .ok (.getfield 19, 3) := by decide +kernel
theorem dX10_sea_84 : decode cX10_sea 84 = .ok (.iload_n 1, 1) := by decide +kernel
theorem dX10_sea_85 : decode cX10_sea 85 = .ok (.invokevirtual 166, 3) := by decide +kernel
theorem dX10_sea_88 : decode cX10_sea 88 = .ok (.ireturn, 1) := by decide +kernel
theorem dX10_deepest_0 : decode cX10_deepest 0 = .ok (.aload_n 0, 1) := by decide +kernel
theorem dX10_deepest_1 : decode cX10_deepest 1 = .ok (.iload_n 1, 1) := by decide +kernel
theorem dX10_deepest_2 : decode cX10_deepest 2 = .ok (.invokevirtual 188, 3) := by decide +kernel
theorem dX10_deepest_5 : decode cX10_deepest 5 = .ok (.ifCond .ne 6, 3) := by decide +kernel
theorem dX10_deepest_8 : decode cX10_deepest 8 = .ok (.ldc 191, 2) := by decide +kernel
theorem dX10_deepest_10 : decode cX10_deepest 10 = .ok (.ireturn, 1) := by decide +kernel
theorem dX10_deepest_11 : decode cX10_deepest 11 = .ok (.iload_n 2, 1) := by decide +kernel
theorem dX10_deepest_12 : decode cX10_deepest 12 = .ok (.i2l, 1) := by decide +kernel
theorem dX10_deepest_13 : decode cX10_deepest 13 = .ok (.lconst 0, 1) := by decide +kernel
theorem dX10_deepest_14 : decode cX10_deepest 14 = .ok (.ldc2_w 255, 3) := by decide +kernel
theorem dX10_deepest_17 : decode cX10_deepest 17 = .ok (.invokestatic 64, 3) := by decide +kernel
theorem dX10_deepest_20 : decode cX10_deepest 20 = .ok (.ifCond .eq 13, 3) := by decide +kernel
theorem dX10_deepest_23 : decode cX10_deepest 23 = .ok (.iload_n 3, 1) := by decide +kernel
theorem dX10_deepest_24 : decode cX10_deepest 24 = .ok (.i2l, 1) := by decide +kernel
theorem dX10_deepest_25 : decode cX10_deepest 25 = .ok (.lconst 0, 1) := by decide +kernel
theorem dX10_deepest_26 : decode cX10_deepest 26 = .ok (.lconst 1, 1) := by decide +kernel
theorem dX10_deepest_27 : decode cX10_deepest 27 = .ok (.invokestatic 64, 3) := by decide +kernel
theorem dX10_deepest_30 : decode cX10_deepest 30 = .ok (.ifCond .ne 6, 3) := by decide +kernel
theorem dX10_deepest_33 : decode cX10_deepest 33 = .ok (.ldc 86, 2) := by decide +kernel
theorem dX10_deepest_35 : decode cX10_deepest 35 = .ok (.ireturn, 1) := by decide +kernel
theorem dX10_deepest_36 : decode cX10_deepest 36 = .ok (.aload_n 0, 1) := by decide +kernel
theorem dX10_deepest_37 : decode cX10_deepest 37 = .ok (.invokevirtual 257, 3) := by decide +kernel
theorem dX10_deepest_40 : decode cX10_deepest 40 = .ok (.iconst (-1), 1) := by decide +kernel
theorem dX10_deepest_41 : decode cX10_deepest 41 = .ok (.istore 4, 2) := by decide +kernel
theorem dX10_deepest_43 : decode cX10_deepest 43 = .ok (.iconst 0, 1) := by decide +kernel
theorem dX10_deepest_44 : decode cX10_deepest 44 = .ok (.istore 5, 2) := by decide +kernel
theorem dX10_deepest_46 : decode cX10_deepest 46 = .ok (.iconst 0, 1) := by decide +kernel
theorem dX10_deepest_47 : decode cX10_deepest 47 = .ok (.istore 6, 2) := by decide +kernel
theorem dX10_deepest_49 : decode cX10_deepest 49 = .ok (.iload 6, 2) := by decide +kernel
theorem dX10_deepest_51 : decode cX10_deepest 51 = .ok (.iload_n 2, 1) := by decide +kernel
theorem dX10_deepest_52 : decode cX10_deepest 52 = .ok (.if_icmp .gt 53, 3) := by decide +kernel
theorem dX10_deepest_55 : decode cX10_deepest 55 = .ok (.aload_n 0, 1) := by decide +kernel
theorem dX10_deepest_56 : decode cX10_deepest 56 = .ok (.aload_n 0, 1) := by decide +kernel
theorem dX10_deepest_57 : decode cX10_deepest 57 = .ok (.getfield 19, 3) := by decide +kernel
theorem dX10_deepest_60 : decode cX10_deepest 60 = .ok (.iload_n 1, 1) := by decide +kernel
theorem dX10_deepest_61 : decode cX10_deepest 61 = .ok (.invokevirtual 166, 3) := by decide +kernel
theorem dX10_deepest_64 : decode cX10_deepest 64 = .ok (.istore 7, 2) := by decide +kernel
theorem dX10_deepest_66 : decode cX10_deepest 66 = .ok (.iload 7, 2) := by decide +kernel
theorem dX10_deepest_68 : decode cX10_deepest 68 = .ok (.iload 4, 2) := by decide +kernel
theorem dX10_deepest_70 : decode cX10_deepest 70 = .ok (.if_icmp .le 8, 3) := by decide +kernel
theorem dX10_deepest_73 : decode cX10_deepest 73 = .ok (.iload 6, 2) := by decide +kernel
theorem dX10_deepest_75 : decode cX10_deepest 75 = .ok (.goto 5, 3) := by decide +kernel
theorem dX10_deepest_78 : decode cX10_deepest 78 = .ok (.iload 5, 2) := by decide +kernel
theorem dX10_deepest_80 : decode cX10_deepest 80 = .ok (.istore 5, 2) := by decide +kernel
theorem dX10_deepest_82 : decode cX10_deepest 82 = .ok (.iload 4, 2) := by decide +kernel
theorem dX10_deepest_84 : decode cX10_deepest 84 = .ok (.iload 7, 2) := by decide +kernel
theorem dX10_deepest_86 : decode cX10_deepest 86 = .ok (.invokestatic 147, 3) := by decide +kernel
theorem dX10_deepest_89 : decode cX10_deepest 89 = .ok (.istore 4, 2) := by decide +kernel
theorem dX10_deepest_91 : decode cX10_deepest 91 = .ok (.aload_n 0, 1) := by decide +kernel
theorem dX10_deepest_92 : decode cX10_deepest 92 = .ok (.aload_n 0, 1) := by decide +kernel
theorem dX10_deepest_93 : decode cX10_deepest 93 = .ok (.getfield 19, 3) := by decide +kernel
theorem dX10_deepest_96 : decode cX10_deepest 96 = .ok (.invokevirtual 215, 3) := by decide +kernel
theorem dX10_deepest_99 : decode cX10_deepest 99 = .ok (.iinc 6 1, 3) := by decide +kernel
theorem dX10_deepest_102 : decode cX10_deepest 102 = .ok (.goto (-53), 3) := by decide +kernel
theorem dX10_deepest_105 : decode cX10_deepest 105 = .ok (.iload_n 3, 1) := by decide +kernel
theorem dX10_deepest_106 : decode cX10_deepest 106 = .ok (.ifCond .ne 8, 3) := by decide +kernel
theorem dX10_deepest_109 : decode cX10_deepest 109 = .ok (.iload 5, 2) := by decide +kernel
theorem dX10_deepest_111 : decode cX10_deepest 111 = .ok (.goto 5, 3) := by decide +kernel
theorem dX10_deepest_114 : decode cX10_deepest 114 = .ok (.iload 4, 2) := by decide +kernel
theorem dX10_deepest_116 : decode cX10_deepest 116 = .ok (.ireturn, 1) := by decide +kernel
theorem dX10_comes_0 : decode cX10_comes 0 = .ok (.aload_n 0, 1) := by decide +kernel
theorem dX10_comes_1 : decode cX10_comes 1 = .ok (.iload_n 1, 1) := by decide +kernel
theorem dX10_comes_2 : decode cX10_comes 2 = .ok (.invokevirtual 205, 3) := by decide +kernel
theorem dX10_comes_5 : decode cX10_comes 5 = .ok (.ifCond .ne 6, 3) := by decide +kernel
theorem dX10_comes_8 : decode cX10_comes 8 = .ok (.ldc 191, 2) := by decide +kernel
theorem dX10_comes_10 : decode cX10_comes 10 = .ok (.ireturn, 1) := by decide +kernel
theorem dX10_comes_11 : decode cX10_comes 11 = .ok (.aload_n 0, 1) := by decide +kernel
theorem dX10_comes_12 : decode cX10_comes 12 = .ok (.invokevirtual 257, 3) := by decide +kernel
theorem dX10_comes_15 : decode cX10_comes 15 = .ok (.iconst 0, 1) := by decide +kernel
theorem dX10_comes_16 : decode cX10_comes 16 = .ok (.istore_n 2, 1) := by decide +kernel
theorem dX10_comes_17 : decode cX10_comes 17 = .ok (.iload_n 2, 1) := by decide +kernel
theorem dX10_comes_18 : decode cX10_comes 18 = .ok (.sipush 201, 3) := by decide +kernel
theorem dX10_comes_21 : decode cX10_comes 21 = .ok (.if_icmp .ge 40, 3) := by decide +kernel
theorem dX10_comes_24 : decode cX10_comes 24 = .ok (.aload_n 0, 1) := by decide +kernel
theorem dX10_comes_25 : decode cX10_comes 25 = .ok (.getfield 19, 3) := by decide +kernel
theorem dX10_comes_28 : decode cX10_comes 28 = .ok (.bipush 19, 2) := by decide +kernel
theorem dX10_comes_30 : decode cX10_comes 30 = .ok (.iload_n 1, 1) := by decide +kernel
theorem dX10_comes_31 : decode cX10_comes 31 = .ok (.iadd, 1) := by decide +kernel
theorem dX10_comes_32 : decode cX10_comes 32 = .ok (.iaload, 1) := by decide +kernel
theorem dX10_comes_33 : decode cX10_comes 33 = .ok (.aload_n 0, 1) := by decide +kernel
theorem dX10_comes_34 : decode cX10_comes 34 = .ok (.getfield 7, 3) := by decide +kernel
theorem dX10_comes_37 : decode cX10_comes 37 = .ok (.bipush 40, 2) := by decide +kernel
theorem dX10_comes_39 : decode cX10_comes 39 = .ok (.iload_n 1, 1) := by decide +kernel
theorem dX10_comes_40 : decode cX10_comes 40 = .ok (.iadd, 1) := by decide +kernel
theorem dX10_comes_41 : decode cX10_comes 41 = .ok (.iaload, 1) := by decide +kernel
theorem dX10_comes_42 : decode cX10_comes 42 = .ok (.if_icmp .ne 5, 3) := by decide +kernel
theorem dX10_comes_45 : decode cX10_comes 45 = .ok (.iload_n 2, 1) := by decide +kernel
theorem dX10_comes_46 : decode cX10_comes 46 = .ok (.ireturn, 1) := by decide +kernel
theorem dX10_comes_47 : decode cX10_comes 47 = .ok (.aload_n 0, 1) := by decide +kernel
theorem dX10_comes_48 : decode cX10_comes 48 = .ok (.aload_n 0, 1) := by decide +kernel
theorem dX10_comes_49 : decode cX10_comes 49 = .ok (.getfield 19, 3) := by decide +kernel
theorem dX10_comes_52 : decode cX10_comes 52 = .ok (.invokevirtual 228, 3) := by decide +kernel
theorem dX10_comes_55 : decode cX10_comes 55 = .ok (.iinc 2 1, 3) := by decide +kernel
theorem dX10_comes_58 : decode cX10_comes 58 = .ok (.goto (-41), 3) := by decide +kernel
theorem dX10_comes_61 : decode cX10_comes 61 = .ok (.iconst (-1), 1) := by decide +kernel
theorem dX10_comes_62 : decode cX10_comes 62 = .ok (.ireturn, 1) := by decide +kernel
theorem dX10_weighs_0 : decode cX10_weighs 0 = .ok (.iconst 0, 1) := by decide +kernel
theorem dX10_weighs_1 : decode cX10_weighs 1 = .ok (.istore 4, 2) := by decide +kernel
theorem dX10_weighs_3 : decode cX10_weighs 3 = .ok (.iconst 0, 1) := by decide +kernel
theorem dX10_weighs_4 : decode cX10_weighs 4 = .ok (.istore 5, 2) := by decide +kernel
theorem dX10_weighs_6 : decode cX10_weighs 6 = .ok (.aload_n 0, 1) := by decide +kernel
theorem dX10_weighs_7 : decode cX10_weighs 7 = .ok (.invokevirtual 257, 3) := by decide +kernel
theorem dX10_weighs_10 : decode cX10_weighs 10 = .ok (.iconst 0, 1) := by decide +kernel
theorem dX10_weighs_11 : decode cX10_weighs 11 = .ok (.istore 6, 2) := by decide +kernel
theorem dX10_weighs_13 : decode cX10_weighs 13 = .ok (.iload 6, 2) := by decide +kernel
theorem dX10_weighs_15 : decode cX10_weighs 15 = .ok (.aload_n 0, 1) := by decide +kernel
theorem dX10_weighs_16 : decode cX10_weighs 16 = .ok (.getfield 7, 3) := by decide +kernel
theorem dX10_weighs_19 : decode cX10_weighs 19 = .ok (.iconst 2, 1) := by decide +kernel
theorem dX10_weighs_20 : decode cX10_weighs 20 = .ok (.iaload, 1) := by decide +kernel
theorem dX10_weighs_21 : decode cX10_weighs 21 = .ok (.if_icmp .ge 97, 3) := by decide +kernel
theorem dX10_weighs_24 : decode cX10_weighs 24 = .ok (.aload_n 0, 1) := by decide +kernel
theorem dX10_weighs_25 : decode cX10_weighs 25 = .ok (.getfield 48, 3) := by decide +kernel
theorem dX10_weighs_28 : decode cX10_weighs 28 = .ok (.iload 6, 2) := by decide +kernel
theorem dX10_weighs_30 : decode cX10_weighs 30 = .ok (.iaload, 1) := by decide +kernel
theorem dX10_weighs_31 : decode cX10_weighs 31 = .ok (.aload_n 0, 1) := by decide +kernel
theorem dX10_weighs_32 : decode cX10_weighs 32 = .ok (.getfield 7, 3) := by decide +kernel
theorem dX10_weighs_35 : decode cX10_weighs 35 = .ok (.iconst 1, 1) := by decide +kernel
theorem dX10_weighs_36 : decode cX10_weighs 36 = .ok (.iaload, 1) := by decide +kernel
theorem dX10_weighs_37 : decode cX10_weighs 37 = .ok (.if_icmp .ge 7, 3) := by decide +kernel
theorem dX10_weighs_40 : decode cX10_weighs 40 = .ok (.iconst 1, 1) := by decide +kernel
theorem dX10_weighs_41 : decode cX10_weighs 41 = .ok (.goto 4, 3) := by decide +kernel
theorem dX10_weighs_44 : decode cX10_weighs 44 = .ok (.iconst 0, 1) := by decide +kernel
theorem dX10_weighs_45 : decode cX10_weighs 45 = .ok (.istore 7, 2) := by decide +kernel
theorem dX10_weighs_47 : decode cX10_weighs 47 = .ok (.iload 4, 2) := by decide +kernel
theorem dX10_weighs_49 : decode cX10_weighs 49 = .ok (.iload 7, 2) := by decide +kernel
theorem dX10_weighs_51 : decode cX10_weighs 51 = .ok (.ifCond .eq 7, 3) := by decide +kernel
theorem dX10_weighs_54 : decode cX10_weighs 54 = .ok (.iconst 1, 1) := by decide +kernel
theorem dX10_weighs_55 : decode cX10_weighs 55 = .ok (.goto 4, 3) := by decide +kernel
theorem dX10_weighs_58 : decode cX10_weighs 58 = .ok (.iconst 0, 1) := by decide +kernel
theorem dX10_weighs_59 : decode cX10_weighs 59 = .ok (.iadd, 1) := by decide +kernel
theorem dX10_weighs_60 : decode cX10_weighs 60 = .ok (.istore 4, 2) := by decide +kernel
theorem dX10_weighs_62 : decode cX10_weighs 62 = .ok (.iload 5, 2) := by decide +kernel
theorem dX10_weighs_64 : decode cX10_weighs 64 = .ok (.iload 7, 2) := by decide +kernel
theorem dX10_weighs_66 : decode cX10_weighs 66 = .ok (.ifCond .eq 16, 3) := by decide +kernel
theorem dX10_weighs_69 : decode cX10_weighs 69 = .ok (.aload_n 0, 1) := by decide +kernel
theorem dX10_weighs_70 : decode cX10_weighs 70 = .ok (.getfield 7, 3) := by decide +kernel
theorem dX10_weighs_73 : decode cX10_weighs 73 = .ok (.bipush 26, 2) := by decide +kernel
theorem dX10_weighs_75 : decode cX10_weighs 75 = .ok (.iload 6, 2) := by decide +kernel
theorem dX10_weighs_77 : decode cX10_weighs 77 = .ok (.iadd, 1) := by decide +kernel
theorem dX10_weighs_78 : decode cX10_weighs 78 = .ok (.iaload, 1) := by decide +kernel
theorem dX10_weighs_79 : decode cX10_weighs 79 = .ok (.goto 4, 3) := by decide +kernel
theorem dX10_weighs_82 : decode cX10_weighs 82 = .ok (.iconst 0, 1) := by decide +kernel
theorem dX10_weighs_83 : decode cX10_weighs 83 = .ok (.iadd, 1) := by decide +kernel
theorem dX10_weighs_84 : decode cX10_weighs 84 = .ok (.istore 5, 2) := by decide +kernel
theorem dX10_weighs_86 : decode cX10_weighs 86 = .ok (.aload_n 0, 1) := by decide +kernel
theorem dX10_weighs_87 : decode cX10_weighs 87 = .ok (.getfield 19, 3) := by decide +kernel
theorem dX10_weighs_90 : decode cX10_weighs 90 = .ok (.bipush 12, 2) := by decide +kernel
theorem dX10_weighs_92 : decode cX10_weighs 92 = .ok (.iload 6, 2) := by decide +kernel
theorem dX10_weighs_94 : decode cX10_weighs 94 = .ok (.iadd, 1) := by decide +kernel
theorem dX10_weighs_95 : decode cX10_weighs 95 = .ok (.iload 7, 2) := by decide +kernel
theorem dX10_weighs_97 : decode cX10_weighs 97 = .ok (.ifCond .eq 13, 3) := by decide +kernel
theorem dX10_weighs_100 : decode cX10_weighs 100 = .ok (.aload_n 0, 1) := by decide +kernel
theorem dX10_weighs_101 : decode cX10_weighs 101 = .ok (.getfield 48, 3) := by decide +kernel
theorem dX10_weighs_104 : decode cX10_weighs 104 = .ok (.iload 6, 2) := by decide +kernel
theorem dX10_weighs_106 : decode cX10_weighs 106 = .ok (.iaload, 1) := by decide +kernel
theorem dX10_weighs_107 : decode cX10_weighs 107 = .ok (.goto 4, 3) := by decide +kernel
theorem dX10_weighs_110 : decode cX10_weighs 110 = .ok (.iconst (-1), 1) := by decide +kernel
theorem dX10_weighs_111 : decode cX10_weighs 111 = .ok (.iastore, 1) := by decide +kernel
theorem dX10_weighs_112 : decode cX10_weighs 112 = .ok (.iinc 6 1, 3) := by decide +kernel
theorem dX10_weighs_115 : decode cX10_weighs 115 = .ok (.goto (-102), 3) := by decide +kernel
theorem dX10_weighs_118 : decode cX10_weighs 118 = .ok (.iload 4, 2) := by decide +kernel
theorem dX10_weighs_120 : decode cX10_weighs 120 = .ok (.aload_n 0, 1) := by decide +kernel
theorem dX10_weighs_121 : decode cX10_weighs 121 = .ok (.getfield 260, 3) := by decide +kernel
theorem dX10_weighs_124 : decode cX10_weighs 124 = .ok (.if_icmp .gt 21, 3) := by decide +kernel
theorem dX10_weighs_127 : decode cX10_weighs 127 = .ok (.iload 4, 2) := by decide +kernel
theorem dX10_weighs_129 : decode cX10_weighs 129 = .ok (.aload_n 0, 1) := by decide +kernel
theorem dX10_weighs_130 : decode cX10_weighs 130 = .ok (.getfield 260, 3) := by decide +kernel
theorem dX10_weighs_133 : decode cX10_weighs 133 = .ok (.if_icmp .ne 13, 3) := by decide +kernel
theorem dX10_weighs_136 : decode cX10_weighs 136 = .ok (.iload 5, 2) := by decide +kernel
theorem dX10_weighs_138 : decode cX10_weighs 138 = .ok (.aload_n 0, 1) := by decide +kernel
theorem dX10_weighs_139 : decode cX10_weighs 139 = .ok (.getfield 263, 3) := by decide +kernel
theorem dX10_weighs_142 : decode cX10_weighs 142 = .ok (.if_icmp .lt 4, 3) := by decide +kernel
theorem dX10_weighs_145 : decode cX10_weighs 145 = .ok (.return_, 1) := by decide +kernel
theorem dX10_weighs_146 : decode cX10_weighs 146 = .ok (.iconst 0, 1) := by decide +kernel
theorem dX10_weighs_147 : decode cX10_weighs 147 = .ok (.istore 6, 2) := by decide +kernel
theorem dX10_weighs_149 : decode cX10_weighs 149 = .ok (.iload 6, 2) := by decide +kernel
theorem dX10_weighs_151 : decode cX10_weighs 151 = .ok (.iload_n 3, 1) := by decide +kernel
theorem dX10_weighs_152 : decode cX10_weighs 152 = .ok (.if_icmp .ge 17, 3) := by decide +kernel
theorem dX10_weighs_155 : decode cX10_weighs 155 = .ok (.aload_n 0, 1) := by decide +kernel
theorem dX10_weighs_156 : decode cX10_weighs 156 = .ok (.aload_n 0, 1) := by decide +kernel
theorem dX10_weighs_157 : decode cX10_weighs 157 = .ok (.getfield 19, 3) := by decide +kernel
theorem dX10_weighs_160 : decode cX10_weighs 160 = .ok (.invokevirtual 215, 3) := by decide +kernel
theorem dX10_weighs_163 : decode cX10_weighs 163 = .ok (.iinc 6 1, 3) := by decide +kernel
theorem dX10_weighs_166 : decode cX10_weighs 166 = .ok (.goto (-17), 3) := by decide +kernel
theorem dX10_weighs_169 : decode cX10_weighs 169 = .ok (.aload_n 0, 1) := by decide +kernel
theorem dX10_weighs_170 : decode cX10_weighs 170 = .ok (.aload_n 0, 1) := by decide +kernel
theorem dX10_weighs_171 : decode cX10_weighs 171 = .ok (.getfield 19, 3) := by decide +kernel
theorem dX10_weighs_174 : decode cX10_weighs 174 = .ok (.iload_n 1, 1) := by decide +kernel
theorem dX10_weighs_175 : decode cX10_weighs 175 = .ok (.invokevirtual 166, 3) := by decide +kernel
theorem dX10_weighs_178 : decode cX10_weighs 178 = .ok (.iload_n 2, 1) := by decide +kernel
theorem dX10_weighs_179 : decode cX10_weighs 179 = .ok (.if_icmp .lt 30, 3) := by decide +kernel
theorem dX10_weighs_182 : decode cX10_weighs 182 = .ok (.aload_n 0, 1) := by decide +kernel
theorem dX10_weighs_183 : decode cX10_weighs 183 = .ok (.iload 4, 2) := by decide +kernel
theorem dX10_weighs_185 : decode cX10_weighs 185 = .ok (.putfield 260, 3) := by decide +kernel
theorem dX10_weighs_188 : decode cX10_weighs 188 = .ok (.aload_n 0, 1) := by decide +kernel
theorem dX10_weighs_189 : decode cX10_weighs 189 = .ok (.iload 5, 2) := by decide +kernel
theorem dX10_weighs_191 : decode cX10_weighs 191 = .ok (.putfield 263, 3) := by decide +kernel
theorem dX10_weighs_194 : decode cX10_weighs 194 = .ok (.aload_n 0, 1) := by decide +kernel
theorem dX10_weighs_195 : decode cX10_weighs 195 = .ok (.getfield 48, 3) := by decide +kernel
theorem dX10_weighs_198 : decode cX10_weighs 198 = .ok (.iconst 0, 1) := by decide +kernel
theorem dX10_weighs_199 : decode cX10_weighs 199 = .ok (.aload_n 0, 1) := by decide +kernel
theorem dX10_weighs_200 : decode cX10_weighs 200 = .ok (.getfield 51, 3) := by decide +kernel
theorem dX10_weighs_203 : decode cX10_weighs 203 = .ok (.iconst 0, 1) := by decide +kernel
theorem dX10_weighs_204 : decode cX10_weighs 204 = .ok (.bipush 6, 2) := by decide +kernel
theorem dX10_weighs_206 : decode cX10_weighs 206 = .ok (.invokestatic 68, 3) := by decide +kernel
theorem dX10_weighs_209 : decode cX10_weighs 209 = .ok (.return_, 1) := by decide +kernel
theorem dX10_mayBe_0 : decode cX10_mayBe 0 = .ok (.iconst 1, 1) := by decide +kernel
theorem dX10_mayBe_1 : decode cX10_mayBe 1 = .ok (.istore_n 2, 1) := by decide +kernel
theorem dX10_mayBe_2 : decode cX10_mayBe 2 = .ok (.iconst 0, 1) := by decide +kernel
theorem dX10_mayBe_3 : decode cX10_mayBe 3 = .ok (.istore_n 3, 1) := by decide +kernel
theorem dX10_mayBe_4 : decode cX10_mayBe 4 = .ok (.iload_n 3, 1) := by decide +kernel
theorem dX10_mayBe_5 : decode cX10_mayBe 5 = .ok (.iload_n 1, 1) := by decide +kernel
theorem dX10_mayBe_6 : decode cX10_mayBe 6 = .ok (.if_icmp .ge 49, 3) := by decide +kernel
theorem dX10_mayBe_9 : decode cX10_mayBe 9 = .ok (.iload_n 2, 1) := by decide +kernel
theorem dX10_mayBe_10 : decode cX10_mayBe 10 = .ok (.ifCond .eq 37, 3) := by decide +kernel
theorem dX10_mayBe_13 : decode cX10_mayBe 13 = .ok (.aload_n 0, 1) := by decide +kernel
theorem dX10_mayBe_14 : decode cX10_mayBe 14 = .ok (.getfield 48, 3) := by decide +kernel
theorem dX10_mayBe_17 : decode cX10_mayBe 17 = .ok (.iload_n 1, 1) := by decide +kernel
theorem dX10_mayBe_18 : decode cX10_mayBe 18 = .ok (.iaload, 1) := by decide +kernel
theorem dX10_mayBe_19 : decode cX10_mayBe 19 = .ok (.aload_n 0, 1) := by decide +kernel
theorem dX10_mayBe_20 : decode cX10_mayBe 20 = .ok (.getfield 7, 3) := by decide +kernel
theorem dX10_mayBe_23 : decode cX10_mayBe 23 = .ok (.iconst 1, 1) := by decide +kernel
theorem dX10_mayBe_24 : decode cX10_mayBe 24 = .ok (.iaload, 1) := by decide +kernel
theorem dX10_mayBe_25 : decode cX10_mayBe 25 = .ok (.if_icmp .eq 18, 3) := by decide +kernel
theorem dX10_mayBe_28 : decode cX10_mayBe 28 = .ok (.aload_n 0, 1) := by decide +kernel
theorem dX10_mayBe_29 : decode cX10_mayBe 29 = .ok (.getfield 48, 3) := by decide +kernel
theorem dX10_mayBe_32 : decode cX10_mayBe 32 = .ok (.iload_n 3, 1) := by decide +kernel
theorem dX10_mayBe_33 : decode cX10_mayBe 33 = .ok (.iaload, 1) := by decide +kernel
theorem dX10_mayBe_34 : decode cX10_mayBe 34 = .ok (.aload_n 0, 1) := by decide +kernel
theorem dX10_mayBe_35 : decode cX10_mayBe 35 = .ok (.getfield 48, 3) := by decide +kernel
theorem dX10_mayBe_38 : decode cX10_mayBe 38 = .ok (.iload_n 1, 1) := by decide +kernel
theorem dX10_mayBe_39 : decode cX10_mayBe 39 = .ok (.iaload, 1) := by decide +kernel
theorem dX10_mayBe_40 : decode cX10_mayBe 40 = .ok (.if_icmp .eq 7, 3) := by decide +kernel
theorem dX10_mayBe_43 : decode cX10_mayBe 43 = .ok (.iconst 1, 1) := by decide +kernel
theorem dX10_mayBe_44 : decode cX10_mayBe 44 = .ok (.goto 4, 3) := by decide +kernel
theorem dX10_mayBe_47 : decode cX10_mayBe 47 = .ok (.iconst 0, 1) := by decide +kernel
theorem dX10_mayBe_48 : decode cX10_mayBe 48 = .ok (.istore_n 2, 1) := by decide +kernel
theorem dX10_mayBe_49 : decode cX10_mayBe 49 = .ok (.iinc 3 1, 3) := by decide +kernel
theorem dX10_mayBe_52 : decode cX10_mayBe 52 = .ok (.goto (-48), 3) := by decide +kernel
theorem dX10_mayBe_55 : decode cX10_mayBe 55 = .ok (.iload_n 2, 1) := by decide +kernel
theorem dX10_mayBe_56 : decode cX10_mayBe 56 = .ok (.ireturn, 1) := by decide +kernel
theorem dX10_goesOn_0 : decode cX10_goesOn 0 = .ok (.aload_n 0, 1) := by decide +kernel
theorem dX10_goesOn_1 : decode cX10_goesOn 1 = .ok (.getfield 48, 3) := by decide +kernel
theorem dX10_goesOn_4 : decode cX10_goesOn 4 = .ok (.iload_n 1, 1) := by decide +kernel
theorem dX10_goesOn_5 : decode cX10_goesOn 5 = .ok (.dup2, 1) := by decide +kernel
theorem dX10_goesOn_6 : decode cX10_goesOn 6 = .ok (.iaload, 1) := by decide +kernel
theorem dX10_goesOn_7 : decode cX10_goesOn 7 = .ok (.iconst 1, 1) := by decide +kernel
theorem dX10_goesOn_8 : decode cX10_goesOn 8 = .ok (.iadd, 1) := by decide +kernel
theorem dX10_goesOn_9 : decode cX10_goesOn 9 = .ok (.iastore, 1) := by decide +kernel
theorem dX10_goesOn_10 : decode cX10_goesOn 10 = .ok (.aload_n 0, 1) := by decide +kernel
theorem dX10_goesOn_11 : decode cX10_goesOn 11 = .ok (.getfield 48, 3) := by decide +kernel
theorem dX10_goesOn_14 : decode cX10_goesOn 14 = .ok (.iload_n 1, 1) := by decide +kernel
theorem dX10_goesOn_15 : decode cX10_goesOn 15 = .ok (.iaload, 1) := by decide +kernel
theorem dX10_goesOn_16 : decode cX10_goesOn 16 = .ok (.aload_n 0, 1) := by decide +kernel
theorem dX10_goesOn_17 : decode cX10_goesOn 17 = .ok (.getfield 7, 3) := by decide +kernel
theorem dX10_goesOn_20 : decode cX10_goesOn 20 = .ok (.iconst 1, 1) := by decide +kernel
theorem dX10_goesOn_21 : decode cX10_goesOn 21 = .ok (.iaload, 1) := by decide +kernel
theorem dX10_goesOn_22 : decode cX10_goesOn 22 = .ok (.if_icmp .gt 24, 3) := by decide +kernel
theorem dX10_goesOn_25 : decode cX10_goesOn 25 = .ok (.aload_n 0, 1) := by decide +kernel
theorem dX10_goesOn_26 : decode cX10_goesOn 26 = .ok (.iload_n 1, 1) := by decide +kernel
theorem dX10_goesOn_27 : decode cX10_goesOn 27 = .ok (.invokevirtual 266, 3) := by decide +kernel
theorem dX10_goesOn_30 : decode cX10_goesOn 30 = .ok (.ifCond .ne 16, 3) := by decide +kernel
theorem dX10_goesOn_33 : decode cX10_goesOn 33 = .ok (.aload_n 0, 1) := by decide +kernel
theorem dX10_goesOn_34 : decode cX10_goesOn 34 = .ok (.getfield 48, 3) := by decide +kernel
theorem dX10_goesOn_37 : decode cX10_goesOn 37 = .ok (.iload_n 1, 1) := by decide +kernel
theorem dX10_goesOn_38 : decode cX10_goesOn 38 = .ok (.dup2, 1) := by decide +kernel
theorem dX10_goesOn_39 : decode cX10_goesOn 39 = .ok (.iaload, 1) := by decide +kernel
theorem dX10_goesOn_40 : decode cX10_goesOn 40 = .ok (.iconst 1, 1) := by decide +kernel
theorem dX10_goesOn_41 : decode cX10_goesOn 41 = .ok (.iadd, 1) := by decide +kernel
theorem dX10_goesOn_42 : decode cX10_goesOn 42 = .ok (.iastore, 1) := by decide +kernel
theorem dX10_goesOn_43 : decode cX10_goesOn 43 = .ok (.goto (-33), 3) := by decide +kernel
theorem dX10_goesOn_46 : decode cX10_goesOn 46 = .ok (.aload_n 0, 1) := by decide +kernel
theorem dX10_goesOn_47 : decode cX10_goesOn 47 = .ok (.getfield 48, 3) := by decide +kernel
theorem dX10_goesOn_50 : decode cX10_goesOn 50 = .ok (.iload_n 1, 1) := by decide +kernel
theorem dX10_goesOn_51 : decode cX10_goesOn 51 = .ok (.iaload, 1) := by decide +kernel
theorem dX10_goesOn_52 : decode cX10_goesOn 52 = .ok (.aload_n 0, 1) := by decide +kernel
theorem dX10_goesOn_53 : decode cX10_goesOn 53 = .ok (.getfield 7, 3) := by decide +kernel
theorem dX10_goesOn_56 : decode cX10_goesOn 56 = .ok (.iconst 1, 1) := by decide +kernel
theorem dX10_goesOn_57 : decode cX10_goesOn 57 = .ok (.iaload, 1) := by decide +kernel
theorem dX10_goesOn_58 : decode cX10_goesOn 58 = .ok (.if_icmp .le 7, 3) := by decide +kernel
theorem dX10_goesOn_61 : decode cX10_goesOn 61 = .ok (.iload_n 1, 1) := by decide +kernel
theorem dX10_goesOn_62 : decode cX10_goesOn 62 = .ok (.iconst 1, 1) := by decide +kernel
theorem dX10_goesOn_63 : decode cX10_goesOn 63 = .ok (.isub, 1) := by decide +kernel
theorem dX10_goesOn_64 : decode cX10_goesOn 64 = .ok (.ireturn, 1) := by decide +kernel
theorem dX10_goesOn_65 : decode cX10_goesOn 65 = .ok (.iload_n 1, 1) := by decide +kernel
theorem dX10_goesOn_66 : decode cX10_goesOn 66 = .ok (.iconst 5, 1) := by decide +kernel
theorem dX10_goesOn_67 : decode cX10_goesOn 67 = .ok (.if_icmp .ge 12, 3) := by decide +kernel
theorem dX10_goesOn_70 : decode cX10_goesOn 70 = .ok (.aload_n 0, 1) := by decide +kernel
theorem dX10_goesOn_71 : decode cX10_goesOn 71 = .ok (.getfield 48, 3) := by decide +kernel
theorem dX10_goesOn_74 : decode cX10_goesOn 74 = .ok (.iload_n 1, 1) := by decide +kernel
theorem dX10_goesOn_75 : decode cX10_goesOn 75 = .ok (.iconst 1, 1) := by decide +kernel
theorem dX10_goesOn_76 : decode cX10_goesOn 76 = .ok (.iadd, 1) := by decide +kernel
theorem dX10_goesOn_77 : decode cX10_goesOn 77 = .ok (.iconst (-1), 1) := by decide +kernel
theorem dX10_goesOn_78 : decode cX10_goesOn 78 = .ok (.iastore, 1) := by decide +kernel
theorem dX10_goesOn_79 : decode cX10_goesOn 79 = .ok (.iload_n 1, 1) := by decide +kernel
theorem dX10_goesOn_80 : decode cX10_goesOn 80 = .ok (.iconst 1, 1) := by decide +kernel
theorem dX10_goesOn_81 : decode cX10_goesOn 81 = .ok (.iadd, 1) := by decide +kernel
theorem dX10_goesOn_82 : decode cX10_goesOn 82 = .ok (.ireturn, 1) := by decide +kernel
theorem dX10_plans_0 : decode cX10_plans 0 = .ok (.aload_n 0, 1) := by decide +kernel
theorem dX10_plans_1 : decode cX10_plans 1 = .ok (.ldc_w 269, 3) := by decide +kernel
theorem dX10_plans_4 : decode cX10_plans 4 = .ok (.putfield 260, 3) := by decide +kernel
theorem dX10_plans_7 : decode cX10_plans 7 = .ok (.aload_n 0, 1) := by decide +kernel
theorem dX10_plans_8 : decode cX10_plans 8 = .ok (.ldc_w 269, 3) := by decide +kernel
theorem dX10_plans_11 : decode cX10_plans 11 = .ok (.putfield 263, 3) := by decide +kernel
theorem dX10_plans_14 : decode cX10_plans 14 = .ok (.iconst 0, 1) := by decide +kernel
theorem dX10_plans_15 : decode cX10_plans 15 = .ok (.istore 4, 2) := by decide +kernel
theorem dX10_plans_17 : decode cX10_plans 17 = .ok (.aload_n 0, 1) := by decide +kernel
theorem dX10_plans_18 : decode cX10_plans 18 = .ok (.getfield 48, 3) := by decide +kernel
theorem dX10_plans_21 : decode cX10_plans 21 = .ok (.iconst 0, 1) := by decide +kernel
theorem dX10_plans_22 : decode cX10_plans 22 = .ok (.iconst (-1), 1) := by decide +kernel
theorem dX10_plans_23 : decode cX10_plans 23 = .ok (.iastore, 1) := by decide +kernel
theorem dX10_plans_24 : decode cX10_plans 24 = .ok (.iload 4, 2) := by decide +kernel
theorem dX10_plans_26 : decode cX10_plans 26 = .ok (.ifCond .lt 45, 3) := by decide +kernel
theorem dX10_plans_29 : decode cX10_plans 29 = .ok (.iload 4, 2) := by decide +kernel
theorem dX10_plans_31 : decode cX10_plans 31 = .ok (.aload_n 0, 1) := by decide +kernel
theorem dX10_plans_32 : decode cX10_plans 32 = .ok (.getfield 7, 3) := by decide +kernel
theorem dX10_plans_35 : decode cX10_plans 35 = .ok (.iconst 2, 1) := by decide +kernel
theorem dX10_plans_36 : decode cX10_plans 36 = .ok (.iaload, 1) := by decide +kernel
theorem dX10_plans_37 : decode cX10_plans 37 = .ok (.if_icmp .ne 13, 3) := by decide +kernel
theorem dX10_plans_40 : decode cX10_plans 40 = .ok (.aload_n 0, 1) := by decide +kernel
theorem dX10_plans_41 : decode cX10_plans 41 = .ok (.iload_n 1, 1) := by decide +kernel
theorem dX10_plans_42 : decode cX10_plans 42 = .ok (.iload_n 2, 1) := by decide +kernel
theorem dX10_plans_43 : decode cX10_plans 43 = .ok (.iload_n 3, 1) := by decide +kernel
theorem dX10_plans_44 : decode cX10_plans 44 = .ok (.invokevirtual 270, 3) := by decide +kernel
theorem dX10_plans_47 : decode cX10_plans 47 = .ok (.iinc 4 (-1), 3) := by decide +kernel
theorem dX10_plans_50 : decode cX10_plans 50 = .ok (.iload 4, 2) := by decide +kernel
theorem dX10_plans_52 : decode cX10_plans 52 = .ok (.ifCond .ge 8, 3) := by decide +kernel
theorem dX10_plans_55 : decode cX10_plans 55 = .ok (.iload 4, 2) := by decide +kernel
theorem dX10_plans_57 : decode cX10_plans 57 = .ok (.goto 9, 3) := by decide +kernel
theorem dX10_plans_60 : decode cX10_plans 60 = .ok (.aload_n 0, 1) := by decide +kernel
theorem dX10_plans_61 : decode cX10_plans 61 = .ok (.iload 4, 2) := by decide +kernel
theorem dX10_plans_63 : decode cX10_plans 63 = .ok (.invokevirtual 274, 3) := by decide +kernel
theorem dX10_plans_66 : decode cX10_plans 66 = .ok (.istore 4, 2) := by decide +kernel
theorem dX10_plans_68 : decode cX10_plans 68 = .ok (.goto (-44), 3) := by decide +kernel
theorem dX10_plans_71 : decode cX10_plans 71 = .ok (.return_, 1) := by decide +kernel
theorem dX10_seats_0 : decode cX10_seats 0 = .ok (.aload_n 0, 1) := by decide +kernel
theorem dX10_seats_1 : decode cX10_seats 1 = .ok (.iload_n 1, 1) := by decide +kernel
theorem dX10_seats_2 : decode cX10_seats 2 = .ok (.invokevirtual 188, 3) := by decide +kernel
theorem dX10_seats_5 : decode cX10_seats 5 = .ok (.ifCond .eq 18, 3) := by decide +kernel
theorem dX10_seats_8 : decode cX10_seats 8 = .ok (.iload 4, 2) := by decide +kernel
theorem dX10_seats_10 : decode cX10_seats 10 = .ok (.iconst (-1), 1) := by decide +kernel
theorem dX10_seats_11 : decode cX10_seats 11 = .ok (.if_icmp .eq 15, 3) := by decide +kernel
theorem dX10_seats_14 : decode cX10_seats 14 = .ok (.aload_n 0, 1) := by decide +kernel
theorem dX10_seats_15 : decode cX10_seats 15 = .ok (.iload 4, 2) := by decide +kernel
theorem dX10_seats_17 : decode cX10_seats 17 = .ok (.invokevirtual 202, 3) := by decide +kernel
theorem dX10_seats_20 : decode cX10_seats 20 = .ok (.ifCond .ne 6, 3) := by decide +kernel
theorem dX10_seats_23 : decode cX10_seats 23 = .ok (.ldc 191, 2) := by decide +kernel
theorem dX10_seats_25 : decode cX10_seats 25 = .ok (.ireturn, 1) := by decide +kernel
theorem dX10_seats_26 : decode cX10_seats 26 = .ok (.iload_n 2, 1) := by decide +kernel
theorem dX10_seats_27 : decode cX10_seats 27 = .ok (.i2l, 1) := by decide +kernel
theorem dX10_seats_28 : decode cX10_seats 28 = .ok (.lconst 0, 1) := by decide +kernel
theorem dX10_seats_29 : decode cX10_seats 29 = .ok (.ldc2_w 235, 3) := by decide +kernel
theorem dX10_seats_32 : decode cX10_seats 32 = .ok (.invokestatic 64, 3) := by decide +kernel
theorem dX10_seats_35 : decode cX10_seats 35 = .ok (.ifCond .eq 15, 3) := by decide +kernel
theorem dX10_seats_38 : decode cX10_seats 38 = .ok (.iload_n 3, 1) := by decide +kernel
theorem dX10_seats_39 : decode cX10_seats 39 = .ok (.i2l, 1) := by decide +kernel
theorem dX10_seats_40 : decode cX10_seats 40 = .ok (.lconst 1, 1) := by decide +kernel
theorem dX10_seats_41 : decode cX10_seats 41 = .ok (.ldc2_w 277, 3) := by decide +kernel
theorem dX10_seats_44 : decode cX10_seats 44 = .ok (.invokestatic 64, 3) := by decide +kernel
theorem dX10_seats_47 : decode cX10_seats 47 = .ok (.ifCond .ne 6, 3) := by decide +kernel
theorem dX10_seats_50 : decode cX10_seats 50 = .ok (.ldc 86, 2) := by decide +kernel
theorem dX10_seats_52 : decode cX10_seats 52 = .ok (.ireturn, 1) := by decide +kernel
theorem dX10_seats_53 : decode cX10_seats 53 = .ok (.aload_n 0, 1) := by decide +kernel
theorem dX10_seats_54 : decode cX10_seats 54 = .ok (.iload_n 1, 1) := by decide +kernel
theorem dX10_seats_55 : decode cX10_seats 55 = .ok (.iload_n 2, 1) := by decide +kernel
theorem dX10_seats_56 : decode cX10_seats 56 = .ok (.iload_n 3, 1) := by decide +kernel
theorem dX10_seats_57 : decode cX10_seats 57 = .ok (.invokevirtual 279, 3) := by decide +kernel
theorem dX10_seats_60 : decode cX10_seats 60 = .ok (.aload_n 0, 1) := by decide +kernel
theorem dX10_seats_61 : decode cX10_seats 61 = .ok (.getfield 260, 3) := by decide +kernel
theorem dX10_seats_64 : decode cX10_seats 64 = .ok (.ldc_w 269, 3) := by decide +kernel
theorem dX10_seats_67 : decode cX10_seats 67 = .ok (.if_icmp .eq 9, 3) := by decide +kernel
theorem dX10_seats_70 : decode cX10_seats 70 = .ok (.iload 4, 2) := by decide +kernel
theorem dX10_seats_72 : decode cX10_seats 72 = .ok (.iconst (-1), 1) := by decide +kernel
theorem dX10_seats_73 : decode cX10_seats 73 = .ok (.if_icmp .ne 22, 3) := by decide +kernel
theorem dX10_seats_76 : decode cX10_seats 76 = .ok (.aload_n 0, 1) := by decide +kernel
theorem dX10_seats_77 : decode cX10_seats 77 = .ok (.getfield 260, 3) := by decide +kernel
theorem dX10_seats_80 : decode cX10_seats 80 = .ok (.ldc_w 269, 3) := by decide +kernel
theorem dX10_seats_83 : decode cX10_seats 83 = .ok (.if_icmp .ne 7, 3) := by decide +kernel
theorem dX10_seats_86 : decode cX10_seats 86 = .ok (.iconst (-1), 1) := by decide +kernel
theorem dX10_seats_87 : decode cX10_seats 87 = .ok (.goto 7, 3) := by decide +kernel
theorem dX10_seats_90 : decode cX10_seats 90 = .ok (.aload_n 0, 1) := by decide +kernel
theorem dX10_seats_91 : decode cX10_seats 91 = .ok (.getfield 260, 3) := by decide +kernel
theorem dX10_seats_94 : decode cX10_seats 94 = .ok (.ireturn, 1) := by decide +kernel
theorem dX10_seats_95 : decode cX10_seats 95 = .ok (.aload_n 0, 1) := by decide +kernel
theorem dX10_seats_96 : decode cX10_seats 96 = .ok (.getfield 51, 3) := by decide +kernel
theorem dX10_seats_99 : decode cX10_seats 99 = .ok (.iload 4, 2) := by decide +kernel
theorem dX10_seats_101 : decode cX10_seats 101 = .ok (.iaload, 1) := by decide +kernel
theorem dX10_seats_102 : decode cX10_seats 102 = .ok (.aload_n 0, 1) := by decide +kernel
theorem dX10_seats_103 : decode cX10_seats 103 = .ok (.getfield 7, 3) := by decide +kernel
theorem dX10_seats_106 : decode cX10_seats 106 = .ok (.iconst 1, 1) := by decide +kernel
theorem dX10_seats_107 : decode cX10_seats 107 = .ok (.iaload, 1) := by decide +kernel
theorem dX10_seats_108 : decode cX10_seats 108 = .ok (.if_icmp .ge 13, 3) := by decide +kernel
theorem dX10_seats_111 : decode cX10_seats 111 = .ok (.aload_n 0, 1) := by decide +kernel
theorem dX10_seats_112 : decode cX10_seats 112 = .ok (.getfield 51, 3) := by decide +kernel
theorem dX10_seats_115 : decode cX10_seats 115 = .ok (.iload 4, 2) := by decide +kernel
theorem dX10_seats_117 : decode cX10_seats 117 = .ok (.iaload, 1) := by decide +kernel
theorem dX10_seats_118 : decode cX10_seats 118 = .ok (.goto 4, 3) := by decide +kernel
theorem dX10_seats_121 : decode cX10_seats 121 = .ok (.iconst (-1), 1) := by decide +kernel
theorem dX10_seats_122 : decode cX10_seats 122 = .ok (.ireturn, 1) := by decide +kernel
theorem dX10_leave_0 : decode cX10_leave 0 = .ok (.iload_n 1, 1) := by decide +kernel
theorem dX10_leave_1 : decode cX10_leave 1 = .ok (.i2l, 1) := by decide +kernel
theorem dX10_leave_2 : decode cX10_leave 2 = .ok (.lconst 0, 1) := by decide +kernel
theorem dX10_leave_3 : decode cX10_leave 3 = .ok (.lconst 1, 1) := by decide +kernel
theorem dX10_leave_4 : decode cX10_leave 4 = .ok (.invokestatic 64, 3) := by decide +kernel
theorem dX10_leave_7 : decode cX10_leave 7 = .ok (.ifCond .ne 6, 3) := by decide +kernel
theorem dX10_leave_10 : decode cX10_leave 10 = .ok (.ldc 86, 2) := by decide +kernel
theorem dX10_leave_12 : decode cX10_leave 12 = .ok (.ireturn, 1) := by decide +kernel
theorem dX10_leave_13 : decode cX10_leave 13 = .ok (.iconst (-1), 1) := by decide +kernel
theorem dX10_leave_14 : decode cX10_leave 14 = .ok (.istore_n 2, 1) := by decide +kernel
theorem dX10_leave_15 : decode cX10_leave 15 = .ok (.ldc_w 269, 3) := by decide +kernel
theorem dX10_leave_18 : decode cX10_leave 18 = .ok (.istore_n 3, 1) := by decide +kernel
theorem dX10_leave_19 : decode cX10_leave 19 = .ok (.iconst 0, 1) := by decide +kernel
theorem dX10_leave_20 : decode cX10_leave 20 = .ok (.istore 4, 2) := by decide +kernel
theorem dX10_leave_22 : decode cX10_leave 22 = .ok (.iload 4, 2) := by decide +kernel
theorem dX10_leave_24 : decode cX10_leave 24 = .ok (.aload_n 0, 1) := by decide +kernel
theorem dX10_leave_25 : decode cX10_leave 25 = .ok (.getfield 7, 3) := by decide +kernel
theorem dX10_leave_28 : decode cX10_leave 28 = .ok (.iconst 1, 1) := by decide +kernel
theorem dX10_leave_29 : decode cX10_leave 29 = .ok (.iaload, 1) := by decide +kernel
theorem dX10_leave_30 : decode cX10_leave 30 = .ok (.if_icmp .ge 53, 3) := by decide +kernel
theorem dX10_leave_33 : decode cX10_leave 33 = .ok (.aload_n 0, 1) := by decide +kernel
theorem dX10_leave_34 : decode cX10_leave 34 = .ok (.invokevirtual 257, 3) := by decide +kernel
theorem dX10_leave_37 : decode cX10_leave 37 = .ok (.aload_n 0, 1) := by decide +kernel
theorem dX10_leave_38 : decode cX10_leave 38 = .ok (.getfield 19, 3) := by decide +kernel
theorem dX10_leave_41 : decode cX10_leave 41 = .ok (.iconst 0, 1) := by decide +kernel
theorem dX10_leave_42 : decode cX10_leave 42 = .ok (.iload 4, 2) := by decide +kernel
theorem dX10_leave_44 : decode cX10_leave 44 = .ok (.iadd, 1) := by decide +kernel
theorem dX10_leave_45 : decode cX10_leave 45 = .ok (.iconst 0, 1) := by decide +kernel
theorem dX10_leave_46 : decode cX10_leave 46 = .ok (.iastore, 1) := by decide +kernel
theorem dX10_leave_47 : decode cX10_leave 47 = .ok (.aload_n 0, 1) := by decide +kernel
theorem dX10_leave_48 : decode cX10_leave 48 = .ok (.aload_n 0, 1) := by decide +kernel
theorem dX10_leave_49 : decode cX10_leave 49 = .ok (.getfield 19, 3) := by decide +kernel
theorem dX10_leave_52 : decode cX10_leave 52 = .ok (.invokevirtual 169, 3) := by decide +kernel
theorem dX10_leave_55 : decode cX10_leave 55 = .ok (.istore 5, 2) := by decide +kernel
theorem dX10_leave_57 : decode cX10_leave 57 = .ok (.iload 5, 2) := by decide +kernel
theorem dX10_leave_59 : decode cX10_leave 59 = .ok (.iload_n 3, 1) := by decide +kernel
theorem dX10_leave_60 : decode cX10_leave 60 = .ok (.if_icmp .ge 8, 3) := by decide +kernel
theorem dX10_leave_63 : decode cX10_leave 63 = .ok (.iload 4, 2) := by decide +kernel
theorem dX10_leave_65 : decode cX10_leave 65 = .ok (.goto 4, 3) := by decide +kernel
theorem dX10_leave_68 : decode cX10_leave 68 = .ok (.iload_n 2, 1) := by decide +kernel
theorem dX10_leave_69 : decode cX10_leave 69 = .ok (.istore_n 2, 1) := by decide +kernel
theorem dX10_leave_70 : decode cX10_leave 70 = .ok (.iload 5, 2) := by decide +kernel
theorem dX10_leave_72 : decode cX10_leave 72 = .ok (.iload_n 3, 1) := by decide +kernel
theorem dX10_leave_73 : decode cX10_leave 73 = .ok (.invokestatic 212, 3) := by decide +kernel
theorem dX10_leave_76 : decode cX10_leave 76 = .ok (.istore_n 3, 1) := by decide +kernel
theorem dX10_leave_77 : decode cX10_leave 77 = .ok (.iinc 4 1, 3) := by decide +kernel
theorem dX10_leave_80 : decode cX10_leave 80 = .ok (.goto (-58), 3) := by decide +kernel
theorem dX10_leave_83 : decode cX10_leave 83 = .ok (.iload_n 2, 1) := by decide +kernel
theorem dX10_leave_84 : decode cX10_leave 84 = .ok (.iconst (-1), 1) := by decide +kernel
theorem dX10_leave_85 : decode cX10_leave 85 = .ok (.if_icmp .eq 7, 3) := by decide +kernel
theorem dX10_leave_88 : decode cX10_leave 88 = .ok (.iload_n 1, 1) := by decide +kernel
theorem dX10_leave_89 : decode cX10_leave 89 = .ok (.ifCond .ne 7, 3) := by decide +kernel
theorem dX10_leave_92 : decode cX10_leave 92 = .ok (.iload_n 2, 1) := by decide +kernel
theorem dX10_leave_93 : decode cX10_leave 93 = .ok (.goto 4, 3) := by decide +kernel
theorem dX10_leave_96 : decode cX10_leave 96 = .ok (.iload_n 3, 1) := by decide +kernel
theorem dX10_leave_97 : decode cX10_leave 97 = .ok (.ireturn, 1) := by decide +kernel
theorem dX10_shareOf_0 : decode cX10_shareOf 0 = .ok (.iconst 0, 1) := by decide +kernel
theorem dX10_shareOf_1 : decode cX10_shareOf 1 = .ok (.istore_n 3, 1) := by decide +kernel
theorem dX10_shareOf_2 : decode cX10_shareOf 2 = .ok (.iconst 0, 1) := by decide +kernel
theorem dX10_shareOf_3 : decode cX10_shareOf 3 = .ok (.istore 4, 2) := by decide +kernel
theorem dX10_shareOf_5 : decode cX10_shareOf 5 = .ok (.iload 4, 2) := by decide +kernel
theorem dX10_shareOf_7 : decode cX10_shareOf 7 = .ok (.aload_n 0, 1) := by decide +kernel
theorem dX10_shareOf_8 : decode cX10_shareOf 8 = .ok (.getfield 7, 3) := by decide +kernel
theorem dX10_shareOf_11 : decode cX10_shareOf 11 = .ok (.iconst 0, 1) := by decide +kernel
theorem dX10_shareOf_12 : decode cX10_shareOf 12 = .ok (.iaload, 1) := by decide +kernel
theorem dX10_shareOf_13 : decode cX10_shareOf 13 = .ok (.if_icmp .ge 38, 3) := by decide +kernel
theorem dX10_shareOf_16 : decode cX10_shareOf 16 = .ok (.iload_n 3, 1) := by decide +kernel
theorem dX10_shareOf_17 : decode cX10_shareOf 17 = .ok (.aload_n 0, 1) := by decide +kernel
theorem dX10_shareOf_18 : decode cX10_shareOf 18 = .ok (.aload_n 0, 1) := by decide +kernel
theorem dX10_shareOf_19 : decode cX10_shareOf 19 = .ok (.getfield 16, 3) := by decide +kernel
theorem dX10_shareOf_22 : decode cX10_shareOf 22 = .ok (.iload 4, 2) := by decide +kernel
theorem dX10_shareOf_24 : decode cX10_shareOf 24 = .ok (.invokevirtual 166, 3) := by decide +kernel
theorem dX10_shareOf_27 : decode cX10_shareOf 27 = .ok (.ifCond .le 7, 3) := by decide +kernel
theorem dX10_shareOf_30 : decode cX10_shareOf 30 = .ok (.iconst 0, 1) := by decide +kernel
theorem dX10_shareOf_31 : decode cX10_shareOf 31 = .ok (.goto 12, 3) := by decide +kernel
theorem dX10_shareOf_34 : decode cX10_shareOf 34 = .ok (.aload_n 0, 1) := by decide +kernel
theorem dX10_shareOf_35 : decode cX10_shareOf 35 = .ok (.getfield 7, 3) := by decide +kernel
theorem dX10_shareOf_38 : decode cX10_shareOf 38 = .ok (.iconst 4, 1) := by decide +kernel
theorem dX10_shareOf_39 : decode cX10_shareOf 39 = .ok (.iload 4, 2) := by decide +kernel
theorem dX10_shareOf_41 : decode cX10_shareOf 41 = .ok (.iadd, 1) := by decide +kernel
theorem dX10_shareOf_42 : decode cX10_shareOf 42 = .ok (.iaload, 1) := by decide +kernel
theorem dX10_shareOf_43 : decode cX10_shareOf 43 = .ok (.iadd, 1) := by decide +kernel
theorem dX10_shareOf_44 : decode cX10_shareOf 44 = .ok (.istore_n 3, 1) := by decide +kernel
theorem dX10_shareOf_45 : decode cX10_shareOf 45 = .ok (.iinc 4 1, 3) := by decide +kernel
theorem dX10_shareOf_48 : decode cX10_shareOf 48 = .ok (.goto (-43), 3) := by decide +kernel
theorem dX10_shareOf_51 : decode cX10_shareOf 51 = .ok (.iload_n 3, 1) := by decide +kernel
theorem dX10_shareOf_52 : decode cX10_shareOf 52 = .ok (.ifCond .eq 15, 3) := by decide +kernel
theorem dX10_shareOf_55 : decode cX10_shareOf 55 = .ok (.aload_n 0, 1) := by decide +kernel
theorem dX10_shareOf_56 : decode cX10_shareOf 56 = .ok (.aload_n 0, 1) := by decide +kernel
theorem dX10_shareOf_57 : decode cX10_shareOf 57 = .ok (.getfield 16, 3) := by decide +kernel
theorem dX10_shareOf_60 : decode cX10_shareOf 60 = .ok (.iload_n 2, 1) := by decide +kernel
theorem dX10_shareOf_61 : decode cX10_shareOf 61 = .ok (.invokevirtual 166, 3) := by decide +kernel
theorem dX10_shareOf_64 : decode cX10_shareOf 64 = .ok (.ifCond .le 7, 3) := by decide +kernel
theorem dX10_shareOf_67 : decode cX10_shareOf 67 = .ok (.iconst 0, 1) := by decide +kernel
theorem dX10_shareOf_68 : decode cX10_shareOf 68 = .ok (.goto 15, 3) := by decide +kernel
theorem dX10_shareOf_71 : decode cX10_shareOf 71 = .ok (.iload_n 1, 1) := by decide +kernel
theorem dX10_shareOf_72 : decode cX10_shareOf 72 = .ok (.aload_n 0, 1) := by decide +kernel
theorem dX10_shareOf_73 : decode cX10_shareOf 73 = .ok (.getfield 7, 3) := by decide +kernel
theorem dX10_shareOf_76 : decode cX10_shareOf 76 = .ok (.iconst 4, 1) := by decide +kernel
theorem dX10_shareOf_77 : decode cX10_shareOf 77 = .ok (.iload_n 2, 1) := by decide +kernel
theorem dX10_shareOf_78 : decode cX10_shareOf 78 = .ok (.iadd, 1) := by decide +kernel
theorem dX10_shareOf_79 : decode cX10_shareOf 79 = .ok (.iaload, 1) := by decide +kernel
theorem dX10_shareOf_80 : decode cX10_shareOf 80 = .ok (.imul, 1) := by decide +kernel
theorem dX10_shareOf_81 : decode cX10_shareOf 81 = .ok (.iload_n 3, 1) := by decide +kernel
theorem dX10_shareOf_82 : decode cX10_shareOf 82 = .ok (.idiv, 1) := by decide +kernel
theorem dX10_shareOf_83 : decode cX10_shareOf 83 = .ok (.ireturn, 1) := by decide +kernel
theorem dX10_share_0 : decode cX10_share 0 = .ok (.iload_n 2, 1) := by decide +kernel
theorem dX10_share_1 : decode cX10_share 1 = .ok (.iconst (-1), 1) := by decide +kernel
theorem dX10_share_2 : decode cX10_share 2 = .ok (.if_icmp .eq 14, 3) := by decide +kernel
theorem dX10_share_5 : decode cX10_share 5 = .ok (.aload_n 0, 1) := by decide +kernel
theorem dX10_share_6 : decode cX10_share 6 = .ok (.iload_n 2, 1) := by decide +kernel
theorem dX10_share_7 : decode cX10_share 7 = .ok (.invokevirtual 188, 3) := by decide +kernel
theorem dX10_share_10 : decode cX10_share 10 = .ok (.ifCond .ne 6, 3) := by decide +kernel
theorem dX10_share_13 : decode cX10_share 13 = .ok (.ldc 191, 2) := by decide +kernel
theorem dX10_share_15 : decode cX10_share 15 = .ok (.ireturn, 1) := by decide +kernel
theorem dX10_share_16 : decode cX10_share 16 = .ok (.iload_n 1, 1) := by decide +kernel
theorem dX10_share_17 : decode cX10_share 17 = .ok (.i2l, 1) := by decide +kernel
theorem dX10_share_18 : decode cX10_share 18 = .ok (.lconst 0, 1) := by decide +kernel
theorem dX10_share_19 : decode cX10_share 19 = .ok (.ldc2_w 282, 3) := by decide +kernel
theorem dX10_share_22 : decode cX10_share 22 = .ok (.invokestatic 64, 3) := by decide +kernel
theorem dX10_share_25 : decode cX10_share 25 = .ok (.ifCond .ne 6, 3) := by decide +kernel
theorem dX10_share_28 : decode cX10_share 28 = .ok (.ldc 86, 2) := by decide +kernel
theorem dX10_share_30 : decode cX10_share 30 = .ok (.ireturn, 1) := by decide +kernel
theorem dX10_share_31 : decode cX10_share 31 = .ok (.iload_n 2, 1) := by decide +kernel
theorem dX10_share_32 : decode cX10_share 32 = .ok (.iconst (-1), 1) := by decide +kernel
theorem dX10_share_33 : decode cX10_share 33 = .ok (.if_icmp .eq 10, 3) := by decide +kernel
theorem dX10_share_36 : decode cX10_share 36 = .ok (.aload_n 0, 1) := by decide +kernel
theorem dX10_share_37 : decode cX10_share 37 = .ok (.iload_n 1, 1) := by decide +kernel
theorem dX10_share_38 : decode cX10_share 38 = .ok (.iload_n 2, 1) := by decide +kernel
theorem dX10_share_39 : decode cX10_share 39 = .ok (.invokevirtual 284, 3) := by decide +kernel
theorem dX10_share_42 : decode cX10_share 42 = .ok (.ireturn, 1) := by decide +kernel
theorem dX10_share_43 : decode cX10_share 43 = .ok (.iload_n 1, 1) := by decide +kernel
theorem dX10_share_44 : decode cX10_share 44 = .ok (.istore_n 3, 1) := by decide +kernel
theorem dX10_share_45 : decode cX10_share 45 = .ok (.iconst 0, 1) := by decide +kernel
theorem dX10_share_46 : decode cX10_share 46 = .ok (.istore 4, 2) := by decide +kernel
theorem dX10_share_48 : decode cX10_share 48 = .ok (.iload 4, 2) := by decide +kernel
theorem dX10_share_50 : decode cX10_share 50 = .ok (.aload_n 0, 1) := by decide +kernel
theorem dX10_share_51 : decode cX10_share 51 = .ok (.getfield 7, 3) := by decide +kernel
theorem dX10_share_54 : decode cX10_share 54 = .ok (.iconst 0, 1) := by decide +kernel
theorem dX10_share_55 : decode cX10_share 55 = .ok (.iaload, 1) := by decide +kernel
theorem dX10_share_56 : decode cX10_share 56 = .ok (.if_icmp .ge 19, 3) := by decide +kernel
theorem dX10_share_59 : decode cX10_share 59 = .ok (.iload_n 3, 1) := by decide +kernel
theorem dX10_share_60 : decode cX10_share 60 = .ok (.aload_n 0, 1) := by decide +kernel
theorem dX10_share_61 : decode cX10_share 61 = .ok (.iload_n 1, 1) := by decide +kernel
theorem dX10_share_62 : decode cX10_share 62 = .ok (.iload 4, 2) := by decide +kernel
theorem dX10_share_64 : decode cX10_share 64 = .ok (.invokevirtual 284, 3) := by decide +kernel
theorem dX10_share_67 : decode cX10_share 67 = .ok (.isub, 1) := by decide +kernel
theorem dX10_share_68 : decode cX10_share 68 = .ok (.istore_n 3, 1) := by decide +kernel
theorem dX10_share_69 : decode cX10_share 69 = .ok (.iinc 4 1, 3) := by decide +kernel
theorem dX10_share_72 : decode cX10_share 72 = .ok (.goto (-24), 3) := by decide +kernel
theorem dX10_share_75 : decode cX10_share 75 = .ok (.iload_n 3, 1) := by decide +kernel
theorem dX10_share_76 : decode cX10_share 76 = .ok (.ireturn, 1) := by decide +kernel
theorem dX10_calm_0 : decode cX10_calm 0 = .ok (.iload_n 1, 1) := by decide +kernel
theorem dX10_calm_1 : decode cX10_calm 1 = .ok (.i2l, 1) := by decide +kernel
theorem dX10_calm_2 : decode cX10_calm 2 = .ok (.lconst 0, 1) := by decide +kernel
theorem dX10_calm_3 : decode cX10_calm 3 = .ok (.ldc2_w 219, 3) := by decide +kernel
theorem dX10_calm_6 : decode cX10_calm 6 = .ok (.invokestatic 64, 3) := by decide +kernel
theorem dX10_calm_9 : decode cX10_calm 9 = .ok (.ifCond .eq 15, 3) := by decide +kernel
theorem dX10_calm_12 : decode cX10_calm 12 = .ok (.iload_n 2, 1) := by decide +kernel
theorem dX10_calm_13 : decode cX10_calm 13 = .ok (.i2l, 1) := by decide +kernel
theorem dX10_calm_14 : decode cX10_calm 14 = .ok (.lconst 0, 1) := by decide +kernel
theorem dX10_calm_15 : decode cX10_calm 15 = .ok (.ldc2_w 255, 3) := by decide +kernel
theorem dX10_calm_18 : decode cX10_calm 18 = .ok (.invokestatic 64, 3) := by decide +kernel
theorem dX10_calm_21 : decode cX10_calm 21 = .ok (.ifCond .ne 6, 3) := by decide +kernel
theorem dX10_calm_24 : decode cX10_calm 24 = .ok (.ldc 86, 2) := by decide +kernel
theorem dX10_calm_26 : decode cX10_calm 26 = .ok (.ireturn, 1) := by decide +kernel
theorem dX10_calm_27 : decode cX10_calm 27 = .ok (.ldc2_w 287, 3) := by decide +kernel
theorem dX10_calm_30 : decode cX10_calm 30 = .ok (.lstore_n 3, 1) := by decide +kernel
theorem dX10_calm_31 : decode cX10_calm 31 = .ok (.iconst 0, 1) := by decide +kernel
theorem dX10_calm_32 : decode cX10_calm 32 = .ok (.istore 5, 2) := by decide +kernel
theorem dX10_calm_34 : decode cX10_calm 34 = .ok (.iload 5, 2) := by decide +kernel
theorem dX10_calm_36 : decode cX10_calm 36 = .ok (.iload_n 1, 1) := by decide +kernel
theorem dX10_calm_37 : decode cX10_calm 37 = .ok (.if_icmp .ge 18, 3) := by decide +kernel
theorem dX10_calm_40 : decode cX10_calm 40 = .ok (.lload_n 3, 1) := by decide +kernel
theorem dX10_calm_41 : decode cX10_calm 41 = .ok (.iload_n 2, 1) := by decide +kernel
theorem dX10_calm_42 : decode cX10_calm 42 = .ok (.i2l, 1) := by decide +kernel
theorem dX10_calm_43 : decode cX10_calm 43 = .ok (.lmul, 1) := by decide +kernel
theorem dX10_calm_44 : decode cX10_calm 44 = .ok (.ldc2_w 255, 3) := by decide +kernel
theorem dX10_calm_47 : decode cX10_calm 47 = .ok (.ldiv, 1) := by decide +kernel
theorem dX10_calm_48 : decode cX10_calm 48 = .ok (.lstore_n 3, 1) := by decide +kernel
theorem dX10_calm_49 : decode cX10_calm 49 = .ok (.iinc 5 1, 3) := by decide +kernel
theorem dX10_calm_52 : decode cX10_calm 52 = .ok (.goto (-18), 3) := by decide +kernel
theorem dX10_calm_55 : decode cX10_calm 55 = .ok (.lload_n 3, 1) := by decide +kernel
theorem dX10_calm_56 : decode cX10_calm 56 = .ok (.l2i, 1) := by decide +kernel
theorem dX10_calm_57 : decode cX10_calm 57 = .ok (.ireturn, 1) := by decide +kernel
theorem dX10_mark_0 : decode cX10_mark 0 = .ok (.aload_n 0, 1) := by decide +kernel
theorem dX10_mark_1 : decode cX10_mark 1 = .ok (.iload_n 1, 1) := by decide +kernel
theorem dX10_mark_2 : decode cX10_mark 2 = .ok (.invokevirtual 188, 3) := by decide +kernel
theorem dX10_mark_5 : decode cX10_mark 5 = .ok (.ifCond .ne 6, 3) := by decide +kernel
theorem dX10_mark_8 : decode cX10_mark 8 = .ok (.ldc 191, 2) := by decide +kernel
theorem dX10_mark_10 : decode cX10_mark 10 = .ok (.ireturn, 1) := by decide +kernel
theorem dX10_mark_11 : decode cX10_mark 11 = .ok (.iload_n 2, 1) := by decide +kernel
theorem dX10_mark_12 : decode cX10_mark 12 = .ok (.i2l, 1) := by decide +kernel
theorem dX10_mark_13 : decode cX10_mark 13 = .ok (.lconst 1, 1) := by decide +kernel
theorem dX10_mark_14 : decode cX10_mark 14 = .ok (.ldc2_w 277, 3) := by decide +kernel
theorem dX10_mark_17 : decode cX10_mark 17 = .ok (.invokestatic 64, 3) := by decide +kernel
theorem dX10_mark_20 : decode cX10_mark 20 = .ok (.ifCond .eq 15, 3) := by decide +kernel
theorem dX10_mark_23 : decode cX10_mark 23 = .ok (.iload_n 3, 1) := by decide +kernel
theorem dX10_mark_24 : decode cX10_mark 24 = .ok (.i2l, 1) := by decide +kernel
theorem dX10_mark_25 : decode cX10_mark 25 = .ok (.lconst 0, 1) := by decide +kernel
theorem dX10_mark_26 : decode cX10_mark 26 = .ok (.ldc2_w 282, 3) := by decide +kernel
theorem dX10_mark_29 : decode cX10_mark 29 = .ok (.invokestatic 64, 3) := by decide +kernel
theorem dX10_mark_32 : decode cX10_mark 32 = .ok (.ifCond .ne 6, 3) := by decide +kernel
theorem dX10_mark_35 : decode cX10_mark 35 = .ok (.ldc 86, 2) := by decide +kernel
theorem dX10_mark_37 : decode cX10_mark 37 = .ok (.ireturn, 1) := by decide +kernel
theorem dX10_mark_38 : decode cX10_mark 38 = .ok (.aload_n 0, 1) := by decide +kernel
theorem dX10_mark_39 : decode cX10_mark 39 = .ok (.getfield 75, 3) := by decide +kernel
theorem dX10_mark_42 : decode cX10_mark 42 = .ok (.bipush 6, 2) := by decide +kernel
theorem dX10_mark_44 : decode cX10_mark 44 = .ok (.if_icmp .ne 6, 3) := by decide +kernel
theorem dX10_mark_47 : decode cX10_mark 47 = .ok (.ldc 90, 2) := by decide +kernel
theorem dX10_mark_49 : decode cX10_mark 49 = .ok (.ireturn, 1) := by decide +kernel
theorem dX10_mark_50 : decode cX10_mark 50 = .ok (.aload_n 0, 1) := by decide +kernel
theorem dX10_mark_51 : decode cX10_mark 51 = .ok (.getfield 39, 3) := by decide +kernel
theorem dX10_mark_54 : decode cX10_mark 54 = .ok (.iconst 3, 1) := by decide +kernel
theorem dX10_mark_55 : decode cX10_mark 55 = .ok (.aload_n 0, 1) := by decide +kernel
theorem dX10_mark_56 : decode cX10_mark 56 = .ok (.getfield 75, 3) := by decide +kernel
theorem dX10_mark_59 : decode cX10_mark 59 = .ok (.imul, 1) := by decide +kernel
theorem dX10_mark_60 : decode cX10_mark 60 = .ok (.iload_n 1, 1) := by decide +kernel
theorem dX10_mark_61 : decode cX10_mark 61 = .ok (.iastore, 1) := by decide +kernel
theorem dX10_mark_62 : decode cX10_mark 62 = .ok (.aload_n 0, 1) := by decide +kernel
theorem dX10_mark_63 : decode cX10_mark 63 = .ok (.getfield 39, 3) := by decide +kernel
theorem dX10_mark_66 : decode cX10_mark 66 = .ok (.iconst 3, 1) := by decide +kernel
theorem dX10_mark_67 : decode cX10_mark 67 = .ok (.aload_n 0, 1) := by decide +kernel
theorem dX10_mark_68 : decode cX10_mark 68 = .ok (.getfield 75, 3) := by decide +kernel
theorem dX10_mark_71 : decode cX10_mark 71 = .ok (.imul, 1) := by decide +kernel
theorem dX10_mark_72 : decode cX10_mark 72 = .ok (.iconst 1, 1) := by decide +kernel
theorem dX10_mark_73 : decode cX10_mark 73 = .ok (.iadd, 1) := by decide +kernel
theorem dX10_mark_74 : decode cX10_mark 74 = .ok (.iload_n 2, 1) := by decide +kernel
theorem dX10_mark_75 : decode cX10_mark 75 = .ok (.iastore, 1) := by decide +kernel
theorem dX10_mark_76 : decode cX10_mark 76 = .ok (.aload_n 0, 1) := by decide +kernel
theorem dX10_mark_77 : decode cX10_mark 77 = .ok (.getfield 39, 3) := by decide +kernel
theorem dX10_mark_80 : decode cX10_mark 80 = .ok (.iconst 3, 1) := by decide +kernel
theorem dX10_mark_81 : decode cX10_mark 81 = .ok (.aload_n 0, 1) := by decide +kernel
theorem dX10_mark_82 : decode cX10_mark 82 = .ok (.getfield 75, 3) := by decide +kernel
theorem dX10_mark_85 : decode cX10_mark 85 = .ok (.imul, 1) := by decide +kernel
theorem dX10_mark_86 : decode cX10_mark 86 = .ok (.iconst 2, 1) := by decide +kernel
theorem dX10_mark_87 : decode cX10_mark 87 = .ok (.iadd, 1) := by decide +kernel
theorem dX10_mark_88 : decode cX10_mark 88 = .ok (.iload_n 3, 1) := by decide +kernel
theorem dX10_mark_89 : decode cX10_mark 89 = .ok (.iastore, 1) := by decide +kernel
theorem dX10_mark_90 : decode cX10_mark 90 = .ok (.aload_n 0, 1) := by decide +kernel
theorem dX10_mark_91 : decode cX10_mark 91 = .ok (.dup, 1) := by decide +kernel
theorem dX10_mark_92 : decode cX10_mark 92 = .ok (.getfield 75, 3) := by decide +kernel
theorem dX10_mark_95 : decode cX10_mark 95 = .ok (.iconst 1, 1) := by decide +kernel
theorem dX10_mark_96 : decode cX10_mark 96 = .ok (.iadd, 1) := by decide +kernel
theorem dX10_mark_97 : decode cX10_mark 97 = .ok (.putfield 75, 3) := by decide +kernel
theorem dX10_mark_100 : decode cX10_mark 100 = .ok (.aload_n 0, 1) := by decide +kernel
theorem dX10_mark_101 : decode cX10_mark 101 = .ok (.getfield 75, 3) := by decide +kernel
theorem dX10_mark_104 : decode cX10_mark 104 = .ok (.ireturn, 1) := by decide +kernel
theorem dX10_layThen_0 : decode cX10_layThen 0 = .ok (.aload_n 0, 1) := by decide +kernel
theorem dX10_layThen_1 : decode cX10_layThen 1 = .ok (.invokevirtual 257, 3) := by decide +kernel
theorem dX10_layThen_4 : decode cX10_layThen 4 = .ok (.aload_n 0, 1) := by decide +kernel
theorem dX10_layThen_5 : decode cX10_layThen 5 = .ok (.getfield 19, 3) := by decide +kernel
theorem dX10_layThen_8 : decode cX10_layThen 8 = .ok (.bipush 18, 2) := by decide +kernel
theorem dX10_layThen_10 : decode cX10_layThen 10 = .ok (.iconst 1, 1) := by decide +kernel
theorem dX10_layThen_11 : decode cX10_layThen 11 = .ok (.iload_n 1, 1) := by decide +kernel
theorem dX10_layThen_12 : decode cX10_layThen 12 = .ok (.ishl, 1) := by decide +kernel
theorem dX10_layThen_13 : decode cX10_layThen 13 = .ok (.iastore, 1) := by decide +kernel
theorem dX10_layThen_14 : decode cX10_layThen 14 = .ok (.iconst 0, 1) := by decide +kernel
theorem dX10_layThen_15 : decode cX10_layThen 15 = .ok (.istore_n 2, 1) := by decide +kernel
theorem dX10_layThen_16 : decode cX10_layThen 16 = .ok (.iload_n 2, 1) := by decide +kernel
theorem dX10_layThen_17 : decode cX10_layThen 17 = .ok (.bipush 20, 2) := by decide +kernel
theorem dX10_layThen_19 : decode cX10_layThen 19 = .ok (.if_icmp .ge 61, 3) := by decide +kernel
theorem dX10_layThen_22 : decode cX10_layThen 22 = .ok (.aload_n 0, 1) := by decide +kernel
theorem dX10_layThen_23 : decode cX10_layThen 23 = .ok (.aload_n 0, 1) := by decide +kernel
theorem dX10_layThen_24 : decode cX10_layThen 24 = .ok (.getfield 19, 3) := by decide +kernel
theorem dX10_layThen_27 : decode cX10_layThen 27 = .ok (.invokevirtual 215, 3) := by decide +kernel
theorem dX10_layThen_30 : decode cX10_layThen 30 = .ok (.iconst 0, 1) := by decide +kernel
theorem dX10_layThen_31 : decode cX10_layThen 31 = .ok (.istore_n 3, 1) := by decide +kernel
theorem dX10_layThen_32 : decode cX10_layThen 32 = .ok (.iload_n 3, 1) := by decide +kernel
theorem dX10_layThen_33 : decode cX10_layThen 33 = .ok (.aload_n 0, 1) := by decide +kernel
theorem dX10_layThen_34 : decode cX10_layThen 34 = .ok (.getfield 7, 3) := by decide +kernel
theorem dX10_layThen_37 : decode cX10_layThen 37 = .ok (.iconst 0, 1) := by decide +kernel
theorem dX10_layThen_38 : decode cX10_layThen 38 = .ok (.iaload, 1) := by decide +kernel
theorem dX10_layThen_39 : decode cX10_layThen 39 = .ok (.if_icmp .ge 35, 3) := by decide +kernel
theorem dX10_layThen_42 : decode cX10_layThen 42 = .ok (.aload_n 0, 1) := by decide +kernel
theorem dX10_layThen_43 : decode cX10_layThen 43 = .ok (.getfield 54, 3) := by decide +kernel
theorem dX10_layThen_46 : decode cX10_layThen 46 = .ok (.sipush 200, 3) := by decide +kernel
theorem dX10_layThen_49 : decode cX10_layThen 49 = .ok (.iload_n 1, 1) := by decide +kernel
theorem dX10_layThen_50 : decode cX10_layThen 50 = .ok (.imul, 1) := by decide +kernel
theorem dX10_layThen_51 : decode cX10_layThen 51 = .ok (.bipush 10, 2) := by decide +kernel
theorem dX10_layThen_53 : decode cX10_layThen 53 = .ok (.iload_n 2, 1) := by decide +kernel
theorem dX10_layThen_54 : decode cX10_layThen 54 = .ok (.imul, 1) := by decide +kernel
theorem dX10_layThen_55 : decode cX10_layThen 55 = .ok (.iadd, 1) := by decide +kernel
theorem dX10_layThen_56 : decode cX10_layThen 56 = .ok (.iload_n 3, 1) := by decide +kernel
theorem dX10_layThen_57 : decode cX10_layThen 57 = .ok (.iadd, 1) := by decide +kernel
theorem dX10_layThen_58 : decode cX10_layThen 58 = .ok (.aload_n 0, 1) := by decide +kernel
theorem dX10_layThen_59 : decode cX10_layThen 59 = .ok (.aload_n 0, 1) := by decide +kernel
theorem dX10_layThen_60 : decode cX10_layThen 60 = .ok (.getfield 19, 3) := by decide +kernel
theorem dX10_layThen_63 : decode cX10_layThen 63 = .ok (.iload_n 3, 1) := by decide +kernel
theorem dX10_layThen_64 : decode cX10_layThen 64 = .ok (.invokevirtual 155, 3) := by decide +kernel
theorem dX10_layThen_67 : decode cX10_layThen 67 = .ok (.iastore, 1) := by decide +kernel
theorem dX10_layThen_68 : decode cX10_layThen 68 = .ok (.iinc 3 1, 3) := by decide +kernel
theorem dX10_layThen_71 : decode cX10_layThen 71 = .ok (.goto (-39), 3) := by decide +kernel
theorem dX10_layThen_74 : decode cX10_layThen 74 = .ok (.iinc 2 1, 3) := by decide +kernel
theorem dX10_layThen_77 : decode cX10_layThen 77 = .ok (.goto (-61), 3) := by decide +kernel
theorem dX10_layThen_80 : decode cX10_layThen 80 = .ok (.return_, 1) := by decide +kernel
theorem dX10_slept_0 : decode cX10_slept 0 = .ok (.iconst 0, 1) := by decide +kernel
theorem dX10_slept_1 : decode cX10_slept 1 = .ok (.istore_n 1, 1) := by decide +kernel
theorem dX10_slept_2 : decode cX10_slept 2 = .ok (.iconst 0, 1) := by decide +kernel
theorem dX10_slept_3 : decode cX10_slept 3 = .ok (.istore_n 2, 1) := by decide +kernel
theorem dX10_slept_4 : decode cX10_slept 4 = .ok (.iload_n 2, 1) := by decide +kernel
theorem dX10_slept_5 : decode cX10_slept 5 = .ok (.aload_n 0, 1) := by decide +kernel
theorem dX10_slept_6 : decode cX10_slept 6 = .ok (.getfield 7, 3) := by decide +kernel
theorem dX10_slept_9 : decode cX10_slept 9 = .ok (.iconst 2, 1) := by decide +kernel
theorem dX10_slept_10 : decode cX10_slept 10 = .ok (.iaload, 1) := by decide +kernel
theorem dX10_slept_11 : decode cX10_slept 11 = .ok (.if_icmp .ge 118, 3) := by decide +kernel
theorem dX10_slept_14 : decode cX10_slept 14 = .ok (.aload_n 0, 1) := by decide +kernel
theorem dX10_slept_15 : decode cX10_slept 15 = .ok (.getfield 16, 3) := by decide +kernel
theorem dX10_slept_18 : decode cX10_slept 18 = .ok (.bipush 12, 2) := by decide +kernel
theorem dX10_slept_20 : decode cX10_slept 20 = .ok (.iload_n 2, 1) := by decide +kernel
theorem dX10_slept_21 : decode cX10_slept 21 = .ok (.iadd, 1) := by decide +kernel
theorem dX10_slept_22 : decode cX10_slept 22 = .ok (.iaload, 1) := by decide +kernel
theorem dX10_slept_23 : decode cX10_slept 23 = .ok (.iconst (-1), 1) := by decide +kernel
theorem dX10_slept_24 : decode cX10_slept 24 = .ok (.if_icmp .eq 99, 3) := by decide +kernel
theorem dX10_slept_27 : decode cX10_slept 27 = .ok (.aload_n 0, 1) := by decide +kernel
theorem dX10_slept_28 : decode cX10_slept 28 = .ok (.iload_n 2, 1) := by decide +kernel
theorem dX10_slept_29 : decode cX10_slept 29 = .ok (.invokevirtual 289, 3) := by decide +kernel
theorem dX10_slept_32 : decode cX10_slept 32 = .ok (.iconst 1, 1) := by decide +kernel
theorem dX10_slept_33 : decode cX10_slept 33 = .ok (.istore_n 3, 1) := by decide +kernel
theorem dX10_slept_34 : decode cX10_slept 34 = .ok (.iconst 0, 1) := by decide +kernel
theorem dX10_slept_35 : decode cX10_slept 35 = .ok (.istore 4, 2) := by decide +kernel
theorem dX10_slept_37 : decode cX10_slept 37 = .ok (.iload 4, 2) := by decide +kernel
theorem dX10_slept_39 : decode cX10_slept 39 = .ok (.iconst 3, 1) := by decide +kernel
theorem dX10_slept_40 : decode cX10_slept 40 = .ok (.aload_n 0, 1) := by decide +kernel
theorem dX10_slept_41 : decode cX10_slept 41 = .ok (.getfield 75, 3) := by decide +kernel
theorem dX10_slept_44 : decode cX10_slept 44 = .ok (.imul, 1) := by decide +kernel
theorem dX10_slept_45 : decode cX10_slept 45 = .ok (.if_icmp .ge 64, 3) := by decide +kernel
theorem dX10_slept_48 : decode cX10_slept 48 = .ok (.iload_n 3, 1) := by decide +kernel
theorem dX10_slept_49 : decode cX10_slept 49 = .ok (.ifCond .eq 52, 3) := by decide +kernel
theorem dX10_slept_52 : decode cX10_slept 52 = .ok (.aload_n 0, 1) := by decide +kernel
theorem dX10_slept_53 : decode cX10_slept 53 = .ok (.getfield 54, 3) := by decide +kernel
theorem dX10_slept_56 : decode cX10_slept 56 = .ok (.sipush 200, 3) := by decide +kernel
theorem dX10_slept_59 : decode cX10_slept 59 = .ok (.iload_n 2, 1) := by decide +kernel
theorem dX10_slept_60 : decode cX10_slept 60 = .ok (.imul, 1) := by decide +kernel
theorem dX10_slept_61 : decode cX10_slept 61 = .ok (.bipush 10, 2) := by decide +kernel
theorem dX10_slept_63 : decode cX10_slept 63 = .ok (.aload_n 0, 1) := by decide +kernel
theorem dX10_slept_64 : decode cX10_slept 64 = .ok (.getfield 39, 3) := by decide +kernel
theorem dX10_slept_67 : decode cX10_slept 67 = .ok (.iload 4, 2) := by decide +kernel
theorem dX10_slept_69 : decode cX10_slept 69 = .ok (.iconst 1, 1) := by decide +kernel
theorem dX10_slept_70 : decode cX10_slept 70 = .ok (.iadd, 1) := by decide +kernel
theorem dX10_slept_71 : decode cX10_slept 71 = .ok (.iaload, 1) := by decide +kernel
theorem dX10_slept_72 : decode cX10_slept 72 = .ok (.iconst 1, 1) := by decide +kernel
theorem dX10_slept_73 : decode cX10_slept 73 = .ok (.isub, 1) := by decide +kernel
theorem dX10_slept_74 : decode cX10_slept 74 = .ok (.imul, 1) := by decide +kernel
theorem dX10_slept_75 : decode cX10_slept 75 = .ok (.iadd, 1) := by decide +kernel
theorem dX10_slept_76 : decode cX10_slept 76 = .ok (.aload_n 0, 1) := by decide +kernel
theorem dX10_slept_77 : decode cX10_slept 77 = .ok (.getfield 39, 3) := by decide +kernel
theorem dX10_slept_80 : decode cX10_slept 80 = .ok (.iload 4, 2) := by decide +kernel
theorem dX10_slept_82 : decode cX10_slept 82 = .ok (.iaload, 1) := by decide +kernel
theorem dX10_slept_83 : decode cX10_slept 83 = .ok (.iadd, 1) := by decide +kernel
theorem dX10_slept_84 : decode cX10_slept 84 = .ok (.iaload, 1) := by decide +kernel
theorem dX10_slept_85 : decode cX10_slept 85 = .ok (.aload_n 0, 1) := by decide +kernel
theorem dX10_slept_86 : decode cX10_slept 86 = .ok (.getfield 39, 3) := by decide +kernel
theorem dX10_slept_89 : decode cX10_slept 89 = .ok (.iload 4, 2) := by decide +kernel
theorem dX10_slept_91 : decode cX10_slept 91 = .ok (.iconst 2, 1) := by decide +kernel
theorem dX10_slept_92 : decode cX10_slept 92 = .ok (.iadd, 1) := by decide +kernel
theorem dX10_slept_93 : decode cX10_slept 93 = .ok (.iaload, 1) := by decide +kernel
theorem dX10_slept_94 : decode cX10_slept 94 = .ok (.if_icmp .ne 7, 3) := by decide +kernel
theorem dX10_slept_97 : decode cX10_slept 97 = .ok (.iconst 1, 1) := by decide +kernel
theorem dX10_slept_98 : decode cX10_slept 98 = .ok (.goto 4, 3) := by decide +kernel
theorem dX10_slept_101 : decode cX10_slept 101 = .ok (.iconst 0, 1) := by decide +kernel
theorem dX10_slept_102 : decode cX10_slept 102 = .ok (.istore_n 3, 1) := by decide +kernel
theorem dX10_slept_103 : decode cX10_slept 103 = .ok (.iinc 4 3, 3) := by decide +kernel
theorem dX10_slept_106 : decode cX10_slept 106 = .ok (.goto (-69), 3) := by decide +kernel
theorem dX10_slept_109 : decode cX10_slept 109 = .ok (.iload_n 1, 1) := by decide +kernel
theorem dX10_slept_110 : decode cX10_slept 110 = .ok (.iload_n 3, 1) := by decide +kernel
theorem dX10_slept_111 : decode cX10_slept 111 = .ok (.ifCond .eq 9, 3) := by decide +kernel
theorem dX10_slept_114 : decode cX10_slept 114 = .ok (.iconst 1, 1) := by decide +kernel
theorem dX10_slept_115 : decode cX10_slept 115 = .ok (.iload_n 2, 1) := by decide +kernel
theorem dX10_slept_116 : decode cX10_slept 116 = .ok (.ishl, 1) := by decide +kernel
theorem dX10_slept_117 : decode cX10_slept 117 = .ok (.goto 4, 3) := by decide +kernel
theorem dX10_slept_120 : decode cX10_slept 120 = .ok (.iconst 0, 1) := by decide +kernel
theorem dX10_slept_121 : decode cX10_slept 121 = .ok (.ior, 1) := by decide +kernel
theorem dX10_slept_122 : decode cX10_slept 122 = .ok (.istore_n 1, 1) := by decide +kernel
theorem dX10_slept_123 : decode cX10_slept 123 = .ok (.iinc 2 1, 3) := by decide +kernel
theorem dX10_slept_126 : decode cX10_slept 126 = .ok (.goto (-122), 3) := by decide +kernel
theorem dX10_slept_129 : decode cX10_slept 129 = .ok (.iload_n 1, 1) := by decide +kernel
theorem dX10_slept_130 : decode cX10_slept 130 = .ok (.ireturn, 1) := by decide +kernel
theorem dX10_greatestPart_0 : decode cX10_greatestPart 0 = .ok (.iconst 0, 1) := by decide +kernel
theorem dX10_greatestPart_1 : decode cX10_greatestPart 1 = .ok (.istore_n 3, 1) := by decide +kernel
theorem dX10_greatestPart_2 : decode cX10_greatestPart 2 = .ok (.iconst 0, 1) := by decide +kernel
theorem dX10_greatestPart_3 : decode cX10_greatestPart 3 = .ok (.istore 4, 2) := by decide +kernel
theorem dX10_greatestPart_5 : decode cX10_greatestPart 5 = .ok (.iload 4, 2) := by decide +kernel
theorem dX10_greatestPart_7 : decode cX10_greatestPart 7 = .ok (.aload_n 0, 1) := by decide +kernel
theorem dX10_greatestPart_8 : decode cX10_greatestPart 8 = .ok (.getfield 7, 3) := by decide +kernel
theorem dX10_greatestPart_11 : decode cX10_greatestPart 11 = .ok (.iconst 2, 1) := by decide +kernel
theorem dX10_greatestPart_12 : decode cX10_greatestPart 12 = .ok (.iaload, 1) := by decide +kernel
theorem dX10_greatestPart_13 : decode cX10_greatestPart 13 = .ok (.if_icmp .ge 96, 3) := by decide +kernel
theorem dX10_greatestPart_16 : decode cX10_greatestPart 16 = .ok (.iconst 0, 1) := by decide +kernel
theorem dX10_greatestPart_17 : decode cX10_greatestPart 17 = .ok (.istore 5, 2) := by decide +kernel
theorem dX10_greatestPart_19 : decode cX10_greatestPart 19 = .ok (.iconst 0, 1) := by decide +kernel
theorem dX10_greatestPart_20 : decode cX10_greatestPart 20 = .ok (.istore 6, 2) := by decide +kernel
theorem dX10_greatestPart_22 : decode cX10_greatestPart 22 = .ok (.iload 6, 2) := by decide +kernel
theorem dX10_greatestPart_24 : decode cX10_greatestPart 24 = .ok (.aload_n 0, 1) := by decide +kernel
theorem dX10_greatestPart_25 : decode cX10_greatestPart 25 = .ok (.getfield 7, 3) := by decide +kernel
theorem dX10_greatestPart_28 : decode cX10_greatestPart 28 = .ok (.iconst 2, 1) := by decide +kernel
theorem dX10_greatestPart_29 : decode cX10_greatestPart 29 = .ok (.iaload, 1) := by decide +kernel
theorem dX10_greatestPart_30 : decode cX10_greatestPart 30 = .ok (.if_icmp .ge 66, 3) := by decide +kernel
theorem dX10_greatestPart_33 : decode cX10_greatestPart 33 = .ok (.iload 5, 2) := by decide +kernel
theorem dX10_greatestPart_35 : decode cX10_greatestPart 35 = .ok (.iload_n 1, 1) := by decide +kernel
theorem dX10_greatestPart_36 : decode cX10_greatestPart 36 = .ok (.iload 4, 2) := by decide +kernel
theorem dX10_greatestPart_38 : decode cX10_greatestPart 38 = .ok (.invokestatic 208, 3) := by decide +kernel
theorem dX10_greatestPart_41 : decode cX10_greatestPart 41 = .ok (.ifCond .eq 45, 3) := by decide +kernel
theorem dX10_greatestPart_44 : decode cX10_greatestPart 44 = .ok (.iload_n 1, 1) := by decide +kernel
theorem dX10_greatestPart_45 : decode cX10_greatestPart 45 = .ok (.iload 6, 2) := by decide +kernel
theorem dX10_greatestPart_47 : decode cX10_greatestPart 47 = .ok (.invokestatic 208, 3) := by decide +kernel
theorem dX10_greatestPart_50 : decode cX10_greatestPart 50 = .ok (.ifCond .eq 36, 3) := by decide +kernel
theorem dX10_greatestPart_53 : decode cX10_greatestPart 53 = .ok (.aload_n 0, 1) := by decide +kernel
theorem dX10_greatestPart_54 : decode cX10_greatestPart 54 = .ok (.getfield 54, 3) := by decide +kernel
theorem dX10_greatestPart_57 : decode cX10_greatestPart 57 = .ok (.sipush 200, 3) := by decide +kernel
theorem dX10_greatestPart_60 : decode cX10_greatestPart 60 = .ok (.iload 4, 2) := by decide +kernel
theorem dX10_greatestPart_62 : decode cX10_greatestPart 62 = .ok (.imul, 1) := by decide +kernel
theorem dX10_greatestPart_63 : decode cX10_greatestPart 63 = .ok (.iload_n 2, 1) := by decide +kernel
theorem dX10_greatestPart_64 : decode cX10_greatestPart 64 = .ok (.iadd, 1) := by decide +kernel
theorem dX10_greatestPart_65 : decode cX10_greatestPart 65 = .ok (.iaload, 1) := by decide +kernel
theorem dX10_greatestPart_66 : decode cX10_greatestPart 66 = .ok (.aload_n 0, 1) := by decide +kernel
theorem dX10_greatestPart_67 : decode cX10_greatestPart 67 = .ok (.getfield 54, 3) := by decide +kernel
theorem dX10_greatestPart_70 : decode cX10_greatestPart 70 = .ok (.sipush 200, 3) := by decide +kernel
theorem dX10_greatestPart_73 : decode cX10_greatestPart 73 = .ok (.iload 6, 2) := by decide +kernel
theorem dX10_greatestPart_75 : decode cX10_greatestPart 75 = .ok (.imul, 1) := by decide +kernel
theorem dX10_greatestPart_76 : decode cX10_greatestPart 76 = .ok (.iload_n 2, 1) := by decide +kernel
theorem dX10_greatestPart_77 : decode cX10_greatestPart 77 = .ok (.iadd, 1) := by decide +kernel
theorem dX10_greatestPart_78 : decode cX10_greatestPart 78 = .ok (.iaload, 1) := by decide +kernel
theorem dX10_greatestPart_79 : decode cX10_greatestPart 79 = .ok (.if_icmp .ne 7, 3) := by decide +kernel
theorem dX10_greatestPart_82 : decode cX10_greatestPart 82 = .ok (.iconst 1, 1) := by decide +kernel
theorem dX10_greatestPart_83 : decode cX10_greatestPart 83 = .ok (.goto 4, 3) := by decide +kernel
theorem dX10_greatestPart_86 : decode cX10_greatestPart 86 = .ok (.iconst 0, 1) := by decide +kernel
theorem dX10_greatestPart_87 : decode cX10_greatestPart 87 = .ok (.iadd, 1) := by decide +kernel
theorem dX10_greatestPart_88 : decode cX10_greatestPart 88 = .ok (.istore 5, 2) := by decide +kernel
theorem dX10_greatestPart_90 : decode cX10_greatestPart 90 = .ok (.iinc 6 1, 3) := by decide +kernel
theorem dX10_greatestPart_93 : decode cX10_greatestPart 93 = .ok (.goto (-71), 3) := by decide +kernel
theorem dX10_greatestPart_96 : decode cX10_greatestPart 96 = .ok (.iload_n 3, 1) := by decide +kernel
theorem dX10_greatestPart_97 : decode cX10_greatestPart 97 = .ok (.iload 5, 2) := by decide +kernel
theorem dX10_greatestPart_99 : decode cX10_greatestPart 99 = .ok (.invokestatic 147, 3) := by decide +kernel
theorem dX10_greatestPart_102 : decode cX10_greatestPart 102 = .ok (.istore_n 3, 1) := by decide +kernel
theorem dX10_greatestPart_103 : decode cX10_greatestPart 103 = .ok (.iinc 4 1, 3) := by decide +kernel
theorem dX10_greatestPart_106 : decode cX10_greatestPart 106 = .ok (.goto (-101), 3) := by decide +kernel
theorem dX10_greatestPart_109 : decode cX10_greatestPart 109 = .ok (.iload_n 3, 1) := by decide +kernel
theorem dX10_greatestPart_110 : decode cX10_greatestPart 110 = .ok (.ireturn, 1) := by decide +kernel
theorem dX10_look_0 : decode cX10_look 0 = .ok (.aload_n 0, 1) := by decide +kernel
theorem dX10_look_1 : decode cX10_look 1 = .ok (.invokevirtual 182, 3) := by decide +kernel
theorem dX10_look_4 : decode cX10_look 4 = .ok (.istore_n 1, 1) := by decide +kernel
theorem dX10_look_5 : decode cX10_look 5 = .ok (.iload_n 1, 1) := by decide +kernel
theorem dX10_look_6 : decode cX10_look 6 = .ok (.invokestatic 293, 3) := by decide +kernel
theorem dX10_look_9 : decode cX10_look 9 = .ok (.istore_n 2, 1) := by decide +kernel
theorem dX10_look_10 : decode cX10_look 10 = .ok (.iconst (-1), 1) := by decide +kernel
theorem dX10_look_11 : decode cX10_look 11 = .ok (.istore_n 3, 1) := by decide +kernel
theorem dX10_look_12 : decode cX10_look 12 = .ok (.iconst 0, 1) := by decide +kernel
theorem dX10_look_13 : decode cX10_look 13 = .ok (.istore 4, 2) := by decide +kernel
theorem dX10_look_15 : decode cX10_look 15 = .ok (.iload 4, 2) := by decide +kernel
theorem dX10_look_17 : decode cX10_look 17 = .ok (.aload_n 0, 1) := by decide +kernel
theorem dX10_look_18 : decode cX10_look 18 = .ok (.getfield 7, 3) := by decide +kernel
theorem dX10_look_21 : decode cX10_look 21 = .ok (.iconst 0, 1) := by decide +kernel
theorem dX10_look_22 : decode cX10_look 22 = .ok (.iaload, 1) := by decide +kernel
theorem dX10_look_23 : decode cX10_look 23 = .ok (.if_icmp .ge 68, 3) := by decide +kernel
theorem dX10_look_26 : decode cX10_look 26 = .ok (.iconst 1, 1) := by decide +kernel
theorem dX10_look_27 : decode cX10_look 27 = .ok (.istore 5, 2) := by decide +kernel
theorem dX10_look_29 : decode cX10_look 29 = .ok (.iload 5, 2) := by decide +kernel
theorem dX10_look_31 : decode cX10_look 31 = .ok (.bipush 21, 2) := by decide +kernel
theorem dX10_look_33 : decode cX10_look 33 = .ok (.if_icmp .ge 52, 3) := by decide +kernel
theorem dX10_look_36 : decode cX10_look 36 = .ok (.aload_n 0, 1) := by decide +kernel
theorem dX10_look_37 : decode cX10_look 37 = .ok (.iload_n 1, 1) := by decide +kernel
theorem dX10_look_38 : decode cX10_look 38 = .ok (.bipush 10, 2) := by decide +kernel
theorem dX10_look_40 : decode cX10_look 40 = .ok (.iload 5, 2) := by decide +kernel
theorem dX10_look_42 : decode cX10_look 42 = .ok (.iconst 1, 1) := by decide +kernel
theorem dX10_look_43 : decode cX10_look 43 = .ok (.isub, 1) := by decide +kernel
theorem dX10_look_44 : decode cX10_look 44 = .ok (.imul, 1) := by decide +kernel
theorem dX10_look_45 : decode cX10_look 45 = .ok (.iload 4, 2) := by decide +kernel
theorem dX10_look_47 : decode cX10_look 47 = .ok (.iadd, 1) := by decide +kernel
theorem dX10_look_48 : decode cX10_look 48 = .ok (.invokevirtual 296, 3) := by decide +kernel
theorem dX10_look_51 : decode cX10_look 51 = .ok (.istore 6, 2) := by decide +kernel
theorem dX10_look_53 : decode cX10_look 53 = .ok (.iload 6, 2) := by decide +kernel
theorem dX10_look_55 : decode cX10_look 55 = .ok (.iload_n 2, 1) := by decide +kernel
theorem dX10_look_56 : decode cX10_look 56 = .ok (.if_icmp .ge 14, 3) := by decide +kernel
theorem dX10_look_59 : decode cX10_look 59 = .ok (.bipush 100, 2) := by decide +kernel
theorem dX10_look_61 : decode cX10_look 61 = .ok (.iload 4, 2) := by decide +kernel
theorem dX10_look_63 : decode cX10_look 63 = .ok (.imul, 1) := by decide +kernel
theorem dX10_look_64 : decode cX10_look 64 = .ok (.iload 5, 2) := by decide +kernel
theorem dX10_look_66 : decode cX10_look 66 = .ok (.iadd, 1) := by decide +kernel
theorem dX10_look_67 : decode cX10_look 67 = .ok (.goto 4, 3) := by decide +kernel
theorem dX10_look_70 : decode cX10_look 70 = .ok (.iload_n 3, 1) := by decide +kernel
theorem dX10_look_71 : decode cX10_look 71 = .ok (.istore_n 3, 1) := by decide +kernel
theorem dX10_look_72 : decode cX10_look 72 = .ok (.iload 6, 2) := by decide +kernel
theorem dX10_look_74 : decode cX10_look 74 = .ok (.iload_n 2, 1) := by decide +kernel
theorem dX10_look_75 : decode cX10_look 75 = .ok (.invokestatic 212, 3) := by decide +kernel
theorem dX10_look_78 : decode cX10_look 78 = .ok (.istore_n 2, 1) := by decide +kernel
theorem dX10_look_79 : decode cX10_look 79 = .ok (.iinc 5 1, 3) := by decide +kernel
theorem dX10_look_82 : decode cX10_look 82 = .ok (.goto (-53), 3) := by decide +kernel
theorem dX10_look_85 : decode cX10_look 85 = .ok (.iinc 4 1, 3) := by decide +kernel
theorem dX10_look_88 : decode cX10_look 88 = .ok (.goto (-73), 3) := by decide +kernel
theorem dX10_look_91 : decode cX10_look 91 = .ok (.iload_n 3, 1) := by decide +kernel
theorem dX10_look_92 : decode cX10_look 92 = .ok (.ireturn, 1) := by decide +kernel
theorem dX10_see_0 : decode cX10_see 0 = .ok (.iload_n 1, 1) := by decide +kernel
theorem dX10_see_1 : decode cX10_see 1 = .ok (.i2l, 1) := by decide +kernel
theorem dX10_see_2 : decode cX10_see 2 = .ok (.lconst 0, 1) := by decide +kernel
theorem dX10_see_3 : decode cX10_see 3 = .ok (.ldc2_w 235, 3) := by decide +kernel
theorem dX10_see_6 : decode cX10_see 6 = .ok (.invokestatic 64, 3) := by decide +kernel
theorem dX10_see_9 : decode cX10_see 9 = .ok (.ifCond .eq 27, 3) := by decide +kernel
theorem dX10_see_12 : decode cX10_see 12 = .ok (.iload_n 2, 1) := by decide +kernel
theorem dX10_see_13 : decode cX10_see 13 = .ok (.i2l, 1) := by decide +kernel
theorem dX10_see_14 : decode cX10_see 14 = .ok (.lconst 0, 1) := by decide +kernel
theorem dX10_see_15 : decode cX10_see 15 = .ok (.ldc2_w 299, 3) := by decide +kernel
theorem dX10_see_18 : decode cX10_see 18 = .ok (.invokestatic 64, 3) := by decide +kernel
theorem dX10_see_21 : decode cX10_see 21 = .ok (.ifCond .eq 15, 3) := by decide +kernel
theorem dX10_see_24 : decode cX10_see 24 = .ok (.iload_n 3, 1) := by decide +kernel
theorem dX10_see_25 : decode cX10_see 25 = .ok (.i2l, 1) := by decide +kernel
theorem dX10_see_26 : decode cX10_see 26 = .ok (.lconst 0, 1) := by decide +kernel
theorem dX10_see_27 : decode cX10_see 27 = .ok (.ldc2_w 235, 3) := by decide +kernel
theorem dX10_see_30 : decode cX10_see 30 = .ok (.invokestatic 64, 3) := by decide +kernel
theorem dX10_see_33 : decode cX10_see 33 = .ok (.ifCond .ne 6, 3) := by decide +kernel
theorem dX10_see_36 : decode cX10_see 36 = .ok (.ldc 86, 2) := by decide +kernel
theorem dX10_see_38 : decode cX10_see 38 = .ok (.ireturn, 1) := by decide +kernel
theorem dX10_see_39 : decode cX10_see 39 = .ok (.aload_n 0, 1) := by decide +kernel
theorem dX10_see_40 : decode cX10_see 40 = .ok (.getfield 78, 3) := by decide +kernel
theorem dX10_see_43 : decode cX10_see 43 = .ok (.bipush 6, 2) := by decide +kernel
theorem dX10_see_45 : decode cX10_see 45 = .ok (.if_icmp .ne 6, 3) := by decide +kernel
theorem dX10_see_48 : decode cX10_see 48 = .ok (.ldc 90, 2) := by decide +kernel
theorem dX10_see_50 : decode cX10_see 50 = .ok (.ireturn, 1) := by decide +kernel
theorem dX10_see_51 : decode cX10_see 51 = .ok (.aload_n 0, 1) := by decide +kernel
theorem dX10_see_52 : decode cX10_see 52 = .ok (.getfield 42, 3) := by decide +kernel
theorem dX10_see_55 : decode cX10_see 55 = .ok (.iconst 3, 1) := by decide +kernel
theorem dX10_see_56 : decode cX10_see 56 = .ok (.aload_n 0, 1) := by decide +kernel
theorem dX10_see_57 : decode cX10_see 57 = .ok (.getfield 78, 3) := by decide +kernel
theorem dX10_see_60 : decode cX10_see 60 = .ok (.imul, 1) := by decide +kernel
theorem dX10_see_61 : decode cX10_see 61 = .ok (.iload_n 1, 1) := by decide +kernel
theorem dX10_see_62 : decode cX10_see 62 = .ok (.iastore, 1) := by decide +kernel
theorem dX10_see_63 : decode cX10_see 63 = .ok (.aload_n 0, 1) := by decide +kernel
theorem dX10_see_64 : decode cX10_see 64 = .ok (.getfield 42, 3) := by decide +kernel
theorem dX10_see_67 : decode cX10_see 67 = .ok (.iconst 3, 1) := by decide +kernel
theorem dX10_see_68 : decode cX10_see 68 = .ok (.aload_n 0, 1) := by decide +kernel
theorem dX10_see_69 : decode cX10_see 69 = .ok (.getfield 78, 3) := by decide +kernel
theorem dX10_see_72 : decode cX10_see 72 = .ok (.imul, 1) := by decide +kernel
theorem dX10_see_73 : decode cX10_see 73 = .ok (.iconst 1, 1) := by decide +kernel
theorem dX10_see_74 : decode cX10_see 74 = .ok (.iadd, 1) := by decide +kernel
theorem dX10_see_75 : decode cX10_see 75 = .ok (.iload_n 2, 1) := by decide +kernel
theorem dX10_see_76 : decode cX10_see 76 = .ok (.iastore, 1) := by decide +kernel
theorem dX10_see_77 : decode cX10_see 77 = .ok (.aload_n 0, 1) := by decide +kernel
theorem dX10_see_78 : decode cX10_see 78 = .ok (.getfield 42, 3) := by decide +kernel
theorem dX10_see_81 : decode cX10_see 81 = .ok (.iconst 3, 1) := by decide +kernel
theorem dX10_see_82 : decode cX10_see 82 = .ok (.aload_n 0, 1) := by decide +kernel
theorem dX10_see_83 : decode cX10_see 83 = .ok (.getfield 78, 3) := by decide +kernel
theorem dX10_see_86 : decode cX10_see 86 = .ok (.imul, 1) := by decide +kernel
theorem dX10_see_87 : decode cX10_see 87 = .ok (.iconst 2, 1) := by decide +kernel
theorem dX10_see_88 : decode cX10_see 88 = .ok (.iadd, 1) := by decide +kernel
theorem dX10_see_89 : decode cX10_see 89 = .ok (.iload_n 3, 1) := by decide +kernel
theorem dX10_see_90 : decode cX10_see 90 = .ok (.iastore, 1) := by decide +kernel
theorem dX10_see_91 : decode cX10_see 91 = .ok (.aload_n 0, 1) := by decide +kernel
theorem dX10_see_92 : decode cX10_see 92 = .ok (.dup, 1) := by decide +kernel
theorem dX10_see_93 : decode cX10_see 93 = .ok (.getfield 78, 3) := by decide +kernel
theorem dX10_see_96 : decode cX10_see 96 = .ok (.iconst 1, 1) := by decide +kernel
theorem dX10_see_97 : decode cX10_see 97 = .ok (.iadd, 1) := by decide +kernel
theorem dX10_see_98 : decode cX10_see 98 = .ok (.putfield 78, 3) := by decide +kernel
theorem dX10_see_101 : decode cX10_see 101 = .ok (.aload_n 0, 1) := by decide +kernel
theorem dX10_see_102 : decode cX10_see 102 = .ok (.getfield 78, 3) := by decide +kernel
theorem dX10_see_105 : decode cX10_see 105 = .ok (.ireturn, 1) := by decide +kernel
theorem dX10_write_0 : decode cX10_write 0 = .ok (.aload_n 0, 1) := by decide +kernel
theorem dX10_write_1 : decode cX10_write 1 = .ok (.iload_n 1, 1) := by decide +kernel
theorem dX10_write_2 : decode cX10_write 2 = .ok (.invokevirtual 188, 3) := by decide +kernel
theorem dX10_write_5 : decode cX10_write 5 = .ok (.ifCond .ne 6, 3) := by decide +kernel
theorem dX10_write_8 : decode cX10_write 8 = .ok (.ldc 191, 2) := by decide +kernel
theorem dX10_write_10 : decode cX10_write 10 = .ok (.ireturn, 1) := by decide +kernel
theorem dX10_write_11 : decode cX10_write 11 = .ok (.iload_n 2, 1) := by decide +kernel
theorem dX10_write_12 : decode cX10_write 12 = .ok (.i2l, 1) := by decide +kernel
theorem dX10_write_13 : decode cX10_write 13 = .ok (.lconst 0, 1) := by decide +kernel
theorem dX10_write_14 : decode cX10_write 14 = .ok (.ldc2_w 282, 3) := by decide +kernel
theorem dX10_write_17 : decode cX10_write 17 = .ok (.invokestatic 64, 3) := by decide +kernel
theorem dX10_write_20 : decode cX10_write 20 = .ok (.ifCond .ne 6, 3) := by decide +kernel
theorem dX10_write_23 : decode cX10_write 23 = .ok (.ldc 86, 2) := by decide +kernel
theorem dX10_write_25 : decode cX10_write 25 = .ok (.ireturn, 1) := by decide +kernel
theorem dX10_write_26 : decode cX10_write 26 = .ok (.aload_n 0, 1) := by decide +kernel
theorem dX10_write_27 : decode cX10_write 27 = .ok (.getfield 81, 3) := by decide +kernel
theorem dX10_write_30 : decode cX10_write 30 = .ok (.bipush 15, 2) := by decide +kernel
theorem dX10_write_32 : decode cX10_write 32 = .ok (.if_icmp .ne 6, 3) := by decide +kernel
theorem dX10_write_35 : decode cX10_write 35 = .ok (.ldc 90, 2) := by decide +kernel
theorem dX10_write_37 : decode cX10_write 37 = .ok (.ireturn, 1) := by decide +kernel
theorem dX10_write_38 : decode cX10_write 38 = .ok (.aload_n 0, 1) := by decide +kernel
theorem dX10_write_39 : decode cX10_write 39 = .ok (.getfield 45, 3) := by decide +kernel
theorem dX10_write_42 : decode cX10_write 42 = .ok (.iconst 2, 1) := by decide +kernel
theorem dX10_write_43 : decode cX10_write 43 = .ok (.aload_n 0, 1) := by decide +kernel
theorem dX10_write_44 : decode cX10_write 44 = .ok (.getfield 81, 3) := by decide +kernel
theorem dX10_write_47 : decode cX10_write 47 = .ok (.imul, 1) := by decide +kernel
theorem dX10_write_48 : decode cX10_write 48 = .ok (.iload_n 1, 1) := by decide +kernel
theorem dX10_write_49 : decode cX10_write 49 = .ok (.iastore, 1) := by decide +kernel
theorem dX10_write_50 : decode cX10_write 50 = .ok (.aload_n 0, 1) := by decide +kernel
theorem dX10_write_51 : decode cX10_write 51 = .ok (.getfield 45, 3) := by decide +kernel
theorem dX10_write_54 : decode cX10_write 54 = .ok (.iconst 2, 1) := by decide +kernel
theorem dX10_write_55 : decode cX10_write 55 = .ok (.aload_n 0, 1) := by decide +kernel
theorem dX10_write_56 : decode cX10_write 56 = .ok (.getfield 81, 3) := by decide +kernel
theorem dX10_write_59 : decode cX10_write 59 = .ok (.imul, 1) := by decide +kernel
theorem dX10_write_60 : decode cX10_write 60 = .ok (.iconst 1, 1) := by decide +kernel
theorem dX10_write_61 : decode cX10_write 61 = .ok (.iadd, 1) := by decide +kernel
theorem dX10_write_62 : decode cX10_write 62 = .ok (.iload_n 2, 1) := by decide +kernel
theorem dX10_write_63 : decode cX10_write 63 = .ok (.iastore, 1) := by decide +kernel
theorem dX10_write_64 : decode cX10_write 64 = .ok (.aload_n 0, 1) := by decide +kernel
theorem dX10_write_65 : decode cX10_write 65 = .ok (.dup, 1) := by decide +kernel
theorem dX10_write_66 : decode cX10_write 66 = .ok (.getfield 81, 3) := by decide +kernel
theorem dX10_write_69 : decode cX10_write 69 = .ok (.iconst 1, 1) := by decide +kernel
theorem dX10_write_70 : decode cX10_write 70 = .ok (.iadd, 1) := by decide +kernel
theorem dX10_write_71 : decode cX10_write 71 = .ok (.putfield 81, 3) := by decide +kernel
theorem dX10_write_74 : decode cX10_write 74 = .ok (.aload_n 0, 1) := by decide +kernel
theorem dX10_write_75 : decode cX10_write 75 = .ok (.getfield 81, 3) := by decide +kernel
theorem dX10_write_78 : decode cX10_write 78 = .ok (.ireturn, 1) := by decide +kernel
theorem dX10_tear_0 : decode cX10_tear 0 = .ok (.aload_n 0, 1) := by decide +kernel
theorem dX10_tear_1 : decode cX10_tear 1 = .ok (.getfield 75, 3) := by decide +kernel
theorem dX10_tear_4 : decode cX10_tear 4 = .ok (.aload_n 0, 1) := by decide +kernel
theorem dX10_tear_5 : decode cX10_tear 5 = .ok (.getfield 78, 3) := by decide +kernel
theorem dX10_tear_8 : decode cX10_tear 8 = .ok (.iadd, 1) := by decide +kernel
theorem dX10_tear_9 : decode cX10_tear 9 = .ok (.aload_n 0, 1) := by decide +kernel
theorem dX10_tear_10 : decode cX10_tear 10 = .ok (.getfield 81, 3) := by decide +kernel
theorem dX10_tear_13 : decode cX10_tear 13 = .ok (.iadd, 1) := by decide +kernel
theorem dX10_tear_14 : decode cX10_tear 14 = .ok (.istore_n 1, 1) := by decide +kernel
theorem dX10_tear_15 : decode cX10_tear 15 = .ok (.aload_n 0, 1) := by decide +kernel
theorem dX10_tear_16 : decode cX10_tear 16 = .ok (.iconst 0, 1) := by decide +kernel
theorem dX10_tear_17 : decode cX10_tear 17 = .ok (.putfield 75, 3) := by decide +kernel
theorem dX10_tear_20 : decode cX10_tear 20 = .ok (.aload_n 0, 1) := by decide +kernel
theorem dX10_tear_21 : decode cX10_tear 21 = .ok (.iconst 0, 1) := by decide +kernel
theorem dX10_tear_22 : decode cX10_tear 22 = .ok (.putfield 78, 3) := by decide +kernel
theorem dX10_tear_25 : decode cX10_tear 25 = .ok (.aload_n 0, 1) := by decide +kernel
theorem dX10_tear_26 : decode cX10_tear 26 = .ok (.iconst 0, 1) := by decide +kernel
theorem dX10_tear_27 : decode cX10_tear 27 = .ok (.putfield 81, 3) := by decide +kernel
theorem dX10_tear_30 : decode cX10_tear 30 = .ok (.iload_n 1, 1) := by decide +kernel
theorem dX10_tear_31 : decode cX10_tear 31 = .ok (.ireturn, 1) := by decide +kernel
theorem dX10_judge_0 : decode cX10_judge 0 = .ok (.iconst 0, 1) := by decide +kernel
theorem dX10_judge_1 : decode cX10_judge 1 = .ok (.istore_n 1, 1) := by decide +kernel
theorem dX10_judge_2 : decode cX10_judge 2 = .ok (.iload_n 1, 1) := by decide +kernel
theorem dX10_judge_3 : decode cX10_judge 3 = .ok (.aload_n 0, 1) := by decide +kernel
theorem dX10_judge_4 : decode cX10_judge 4 = .ok (.getfield 81, 3) := by decide +kernel
theorem dX10_judge_7 : decode cX10_judge 7 = .ok (.if_icmp .ge 40, 3) := by decide +kernel
theorem dX10_judge_10 : decode cX10_judge 10 = .ok (.aload_n 0, 1) := by decide +kernel
theorem dX10_judge_11 : decode cX10_judge 11 = .ok (.aload_n 0, 1) := by decide +kernel
theorem dX10_judge_12 : decode cX10_judge 12 = .ok (.getfield 16, 3) := by decide +kernel
theorem dX10_judge_15 : decode cX10_judge 15 = .ok (.aload_n 0, 1) := by decide +kernel
theorem dX10_judge_16 : decode cX10_judge 16 = .ok (.getfield 45, 3) := by decide +kernel
theorem dX10_judge_19 : decode cX10_judge 19 = .ok (.iconst 2, 1) := by decide +kernel
theorem dX10_judge_20 : decode cX10_judge 20 = .ok (.iload_n 1, 1) := by decide +kernel
theorem dX10_judge_21 : decode cX10_judge 21 = .ok (.imul, 1) := by decide +kernel
theorem dX10_judge_22 : decode cX10_judge 22 = .ok (.iaload, 1) := by decide +kernel
theorem dX10_judge_23 : decode cX10_judge 23 = .ok (.invokevirtual 155, 3) := by decide +kernel
theorem dX10_judge_26 : decode cX10_judge 26 = .ok (.aload_n 0, 1) := by decide +kernel
theorem dX10_judge_27 : decode cX10_judge 27 = .ok (.getfield 45, 3) := by decide +kernel
theorem dX10_judge_30 : decode cX10_judge 30 = .ok (.iconst 2, 1) := by decide +kernel
theorem dX10_judge_31 : decode cX10_judge 31 = .ok (.iload_n 1, 1) := by decide +kernel
theorem dX10_judge_32 : decode cX10_judge 32 = .ok (.imul, 1) := by decide +kernel
theorem dX10_judge_33 : decode cX10_judge 33 = .ok (.iconst 1, 1) := by decide +kernel
theorem dX10_judge_34 : decode cX10_judge 34 = .ok (.iadd, 1) := by decide +kernel
theorem dX10_judge_35 : decode cX10_judge 35 = .ok (.iaload, 1) := by decide +kernel
theorem dX10_judge_36 : decode cX10_judge 36 = .ok (.if_icmp .eq 5, 3) := by decide +kernel
theorem dX10_judge_39 : decode cX10_judge 39 = .ok (.iload_n 1, 1) := by decide +kernel
theorem dX10_judge_40 : decode cX10_judge 40 = .ok (.ireturn, 1) := by decide +kernel
theorem dX10_judge_41 : decode cX10_judge 41 = .ok (.iinc 1 1, 3) := by decide +kernel
theorem dX10_judge_44 : decode cX10_judge 44 = .ok (.goto (-42), 3) := by decide +kernel
theorem dX10_judge_47 : decode cX10_judge 47 = .ok (.iconst (-1), 1) := by decide +kernel
theorem dX10_judge_48 : decode cX10_judge 48 = .ok (.ireturn, 1) := by decide +kernel
theorem dX10_seed_0 : decode cX10_seed 0 = .ok (.iload_n 1, 1) := by decide +kernel
theorem dX10_seed_1 : decode cX10_seed 1 = .ok (.ifCond .ge 6, 3) := by decide +kernel
theorem dX10_seed_4 : decode cX10_seed 4 = .ok (.ldc 86, 2) := by decide +kernel
theorem dX10_seed_6 : decode cX10_seed 6 = .ok (.ireturn, 1) := by decide +kernel
theorem dX10_seed_7 : decode cX10_seed 7 = .ok (.aload_n 0, 1) := by decide +kernel
theorem dX10_seed_8 : decode cX10_seed 8 = .ok (.getfield 237, 3) := by decide +kernel
theorem dX10_seed_11 : decode cX10_seed 11 = .ok (.l2i, 1) := by decide +kernel
theorem dX10_seed_12 : decode cX10_seed 12 = .ok (.istore_n 2, 1) := by decide +kernel
theorem dX10_seed_13 : decode cX10_seed 13 = .ok (.aload_n 0, 1) := by decide +kernel
theorem dX10_seed_14 : decode cX10_seed 14 = .ok (.iload_n 1, 1) := by decide +kernel
theorem dX10_seed_15 : decode cX10_seed 15 = .ok (.i2l, 1) := by decide +kernel
theorem dX10_seed_16 : decode cX10_seed 16 = .ok (.putfield 237, 3) := by decide +kernel
theorem dX10_seed_19 : decode cX10_seed 19 = .ok (.iload_n 2, 1) := by decide +kernel
theorem dX10_seed_20 : decode cX10_seed 20 = .ok (.ireturn, 1) := by decide +kernel
theorem dX10_keep_0 : decode cX10_keep 0 = .ok (.iload_n 1, 1) := by decide +kernel
theorem dX10_keep_1 : decode cX10_keep 1 = .ok (.i2l, 1) := by decide +kernel
theorem dX10_keep_2 : decode cX10_keep 2 = .ok (.lconst 0, 1) := by decide +kernel
theorem dX10_keep_3 : decode cX10_keep 3 = .ok (.lconst 1, 1) := by decide +kernel
theorem dX10_keep_4 : decode cX10_keep 4 = .ok (.invokestatic 64, 3) := by decide +kernel
theorem dX10_keep_7 : decode cX10_keep 7 = .ok (.ifCond .ne 6, 3) := by decide +kernel
theorem dX10_keep_10 : decode cX10_keep 10 = .ok (.ldc 191, 2) := by decide +kernel
theorem dX10_keep_12 : decode cX10_keep 12 = .ok (.ireturn, 1) := by decide +kernel
theorem dX10_keep_13 : decode cX10_keep 13 = .ok (.aload_n 0, 1) := by decide +kernel
theorem dX10_keep_14 : decode cX10_keep 14 = .ok (.getfield 16, 3) := by decide +kernel
theorem dX10_keep_17 : decode cX10_keep 17 = .ok (.iconst 0, 1) := by decide +kernel
theorem dX10_keep_18 : decode cX10_keep 18 = .ok (.aload_n 0, 1) := by decide +kernel
theorem dX10_keep_19 : decode cX10_keep 19 = .ok (.getfield 25, 3) := by decide +kernel
theorem dX10_keep_22 : decode cX10_keep 22 = .ok (.bipush 25, 2) := by decide +kernel
theorem dX10_keep_24 : decode cX10_keep 24 = .ok (.iload_n 1, 1) := by decide +kernel
theorem dX10_keep_25 : decode cX10_keep 25 = .ok (.imul, 1) := by decide +kernel
theorem dX10_keep_26 : decode cX10_keep 26 = .ok (.bipush 24, 2) := by decide +kernel
theorem dX10_keep_28 : decode cX10_keep 28 = .ok (.invokestatic 68, 3) := by decide +kernel
theorem dX10_keep_31 : decode cX10_keep 31 = .ok (.aload_n 0, 1) := by decide +kernel
theorem dX10_keep_32 : decode cX10_keep 32 = .ok (.getfield 25, 3) := by decide +kernel
theorem dX10_keep_35 : decode cX10_keep 35 = .ok (.bipush 25, 2) := by decide +kernel
theorem dX10_keep_37 : decode cX10_keep 37 = .ok (.iload_n 1, 1) := by decide +kernel
theorem dX10_keep_38 : decode cX10_keep 38 = .ok (.imul, 1) := by decide +kernel
theorem dX10_keep_39 : decode cX10_keep 39 = .ok (.bipush 24, 2) := by decide +kernel
theorem dX10_keep_41 : decode cX10_keep 41 = .ok (.iadd, 1) := by decide +kernel
theorem dX10_keep_42 : decode cX10_keep 42 = .ok (.aload_n 0, 1) := by decide +kernel
theorem dX10_keep_43 : decode cX10_keep 43 = .ok (.getfield 237, 3) := by decide +kernel
theorem dX10_keep_46 : decode cX10_keep 46 = .ok (.l2i, 1) := by decide +kernel
theorem dX10_keep_47 : decode cX10_keep 47 = .ok (.iastore, 1) := by decide +kernel
theorem dX10_keep_48 : decode cX10_keep 48 = .ok (.aload_n 0, 1) := by decide +kernel
theorem dX10_keep_49 : decode cX10_keep 49 = .ok (.getfield 28, 3) := by decide +kernel
theorem dX10_keep_52 : decode cX10_keep 52 = .ok (.iload_n 1, 1) := by decide +kernel
theorem dX10_keep_53 : decode cX10_keep 53 = .ok (.iconst 1, 1) := by decide +kernel
theorem dX10_keep_54 : decode cX10_keep 54 = .ok (.bastore, 1) := by decide +kernel
theorem dX10_keep_55 : decode cX10_keep 55 = .ok (.aload_n 0, 1) := by decide +kernel
theorem dX10_keep_56 : decode cX10_keep 56 = .ok (.iconst 0, 1) := by decide +kernel
theorem dX10_keep_57 : decode cX10_keep 57 = .ok (.putfield 72, 3) := by decide +kernel
theorem dX10_keep_60 : decode cX10_keep 60 = .ok (.iconst 1, 1) := by decide +kernel
theorem dX10_keep_61 : decode cX10_keep 61 = .ok (.ireturn, 1) := by decide +kernel
theorem dX10_goBack_0 : decode cX10_goBack 0 = .ok (.iload_n 1, 1) := by decide +kernel
theorem dX10_goBack_1 : decode cX10_goBack 1 = .ok (.i2l, 1) := by decide +kernel
theorem dX10_goBack_2 : decode cX10_goBack 2 = .ok (.lconst 0, 1) := by decide +kernel
theorem dX10_goBack_3 : decode cX10_goBack 3 = .ok (.lconst 1, 1) := by decide +kernel
theorem dX10_goBack_4 : decode cX10_goBack 4 = .ok (.invokestatic 64, 3) := by decide +kernel
theorem dX10_goBack_7 : decode cX10_goBack 7 = .ok (.ifCond .ne 6, 3) := by decide +kernel
theorem dX10_goBack_10 : decode cX10_goBack 10 = .ok (.ldc 191, 2) := by decide +kernel
theorem dX10_goBack_12 : decode cX10_goBack 12 = .ok (.ireturn, 1) := by decide +kernel
theorem dX10_goBack_13 : decode cX10_goBack 13 = .ok (.aload_n 0, 1) := by decide +kernel
theorem dX10_goBack_14 : decode cX10_goBack 14 = .ok (.getfield 28, 3) := by decide +kernel
theorem dX10_goBack_17 : decode cX10_goBack 17 = .ok (.iload_n 1, 1) := by decide +kernel
theorem dX10_goBack_18 : decode cX10_goBack 18 = .ok (.baload, 1) := by decide +kernel
theorem dX10_goBack_19 : decode cX10_goBack 19 = .ok (.ifCond .ne 6, 3) := by decide +kernel
theorem dX10_goBack_22 : decode cX10_goBack 22 = .ok (.ldc 221, 2) := by decide +kernel
theorem dX10_goBack_24 : decode cX10_goBack 24 = .ok (.ireturn, 1) := by decide +kernel
theorem dX10_goBack_25 : decode cX10_goBack 25 = .ok (.aload_n 0, 1) := by decide +kernel
theorem dX10_goBack_26 : decode cX10_goBack 26 = .ok (.getfield 25, 3) := by decide +kernel
theorem dX10_goBack_29 : decode cX10_goBack 29 = .ok (.bipush 25, 2) := by decide +kernel
theorem dX10_goBack_31 : decode cX10_goBack 31 = .ok (.iload_n 1, 1) := by decide +kernel
theorem dX10_goBack_32 : decode cX10_goBack 32 = .ok (.imul, 1) := by decide +kernel
theorem dX10_goBack_33 : decode cX10_goBack 33 = .ok (.aload_n 0, 1) := by decide +kernel
theorem dX10_goBack_34 : decode cX10_goBack 34 = .ok (.getfield 16, 3) := by decide +kernel
theorem dX10_goBack_37 : decode cX10_goBack 37 = .ok (.iconst 0, 1) := by decide +kernel
theorem dX10_goBack_38 : decode cX10_goBack 38 = .ok (.bipush 24, 2) := by decide +kernel
theorem dX10_goBack_40 : decode cX10_goBack 40 = .ok (.invokestatic 68, 3) := by decide +kernel
theorem dX10_goBack_43 : decode cX10_goBack 43 = .ok (.aload_n 0, 1) := by decide +kernel
theorem dX10_goBack_44 : decode cX10_goBack 44 = .ok (.aload_n 0, 1) := by decide +kernel
theorem dX10_goBack_45 : decode cX10_goBack 45 = .ok (.getfield 25, 3) := by decide +kernel
theorem dX10_goBack_48 : decode cX10_goBack 48 = .ok (.bipush 25, 2) := by decide +kernel
theorem dX10_goBack_50 : decode cX10_goBack 50 = .ok (.iload_n 1, 1) := by decide +kernel
theorem dX10_goBack_51 : decode cX10_goBack 51 = .ok (.imul, 1) := by decide +kernel
theorem dX10_goBack_52 : decode cX10_goBack 52 = .ok (.bipush 24, 2) := by decide +kernel
theorem dX10_goBack_54 : decode cX10_goBack 54 = .ok (.iadd, 1) := by decide +kernel
theorem dX10_goBack_55 : decode cX10_goBack 55 = .ok (.iaload, 1) := by decide +kernel
theorem dX10_goBack_56 : decode cX10_goBack 56 = .ok (.i2l, 1) := by decide +kernel
theorem dX10_goBack_57 : decode cX10_goBack 57 = .ok (.putfield 237, 3) := by decide +kernel
theorem dX10_goBack_60 : decode cX10_goBack 60 = .ok (.aload_n 0, 1) := by decide +kernel
theorem dX10_goBack_61 : decode cX10_goBack 61 = .ok (.iconst 0, 1) := by decide +kernel
theorem dX10_goBack_62 : decode cX10_goBack 62 = .ok (.putfield 72, 3) := by decide +kernel
theorem dX10_goBack_65 : decode cX10_goBack 65 = .ok (.iconst 1, 1) := by decide +kernel
theorem dX10_goBack_66 : decode cX10_goBack 66 = .ok (.ireturn, 1) := by decide +kernel
