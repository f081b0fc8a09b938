theorem dX9_init_0 : decode cX9_init 0 = .ok (.aload_n 0, 1) := by decide +kernel
theorem dX9_init_1 : decode cX9_init 1 = .ok (.invokespecial 1, 3) := by decide +kernel
theorem dX9_init_4 : decode cX9_init 4 = .ok (.aload_n 0, 1) := by decide +kernel
theorem dX9_init_5 : decode cX9_init 5 = .ok (.new 7, 3) := by decide +kernel
theorem dX9_init_8 : decode cX9_init 8 = .ok (.dup, 1) := by decide +kernel
theorem dX9_init_9 : decode cX9_init 9 = .ok (.invokespecial 9, 3) := by decide +kernel
theorem dX9_init_12 : decode cX9_init 12 = .ok (.putfield 10, 3) := by decide +kernel
theorem dX9_init_15 : decode cX9_init 15 = .ok (.aload_n 0, 1) := by decide +kernel
theorem dX9_init_16 : decode cX9_init 16 = .ok (.new 16, 3) := by decide +kernel
theorem dX9_init_19 : decode cX9_init 19 = .ok (.dup, 1) := by decide +kernel
theorem dX9_init_20 : decode cX9_init 20 = .ok (.invokespecial 18, 3) := by decide +kernel
theorem dX9_init_23 : decode cX9_init 23 = .ok (.putfield 19, 3) := by decide +kernel
theorem dX9_init_26 : decode cX9_init 26 = .ok (.aload_n 0, 1) := by decide +kernel
theorem dX9_init_27 : decode cX9_init 27 = .ok (.new 16, 3) := by decide +kernel
theorem dX9_init_30 : decode cX9_init 30 = .ok (.dup, 1) := by decide +kernel
theorem dX9_init_31 : decode cX9_init 31 = .ok (.invokespecial 18, 3) := by decide +kernel
theorem dX9_init_34 : decode cX9_init 34 = .ok (.putfield 23, 3) := by decide +kernel
theorem dX9_init_37 : decode cX9_init 37 = .ok (.aload_n 0, 1) := by decide +kernel
theorem dX9_init_38 : decode cX9_init 38 = .ok (.new 26, 3) := by decide +kernel
theorem dX9_init_41 : decode cX9_init 41 = .ok (.dup, 1) := by decide +kernel
theorem dX9_init_42 : decode cX9_init 42 = .ok (.invokespecial 28, 3) := by decide +kernel
theorem dX9_init_45 : decode cX9_init 45 = .ok (.putfield 29, 3) := by decide +kernel
theorem dX9_init_48 : decode cX9_init 48 = .ok (.aload_n 0, 1) := by decide +kernel
theorem dX9_init_49 : decode cX9_init 49 = .ok (.new 26, 3) := by decide +kernel
theorem dX9_init_52 : decode cX9_init 52 = .ok (.dup, 1) := by decide +kernel
theorem dX9_init_53 : decode cX9_init 53 = .ok (.invokespecial 28, 3) := by decide +kernel
theorem dX9_init_56 : decode cX9_init 56 = .ok (.putfield 33, 3) := by decide +kernel
theorem dX9_init_59 : decode cX9_init 59 = .ok (.aload_n 0, 1) := by decide +kernel
theorem dX9_init_60 : decode cX9_init 60 = .ok (.new 36, 3) := by decide +kernel
theorem dX9_init_63 : decode cX9_init 63 = .ok (.dup, 1) := by decide +kernel
theorem dX9_init_64 : decode cX9_init 64 = .ok (.invokespecial 38, 3) := by decide +kernel
theorem dX9_init_67 : decode cX9_init 67 = .ok (.putfield 39, 3) := by decide +kernel
theorem dX9_init_70 : decode cX9_init 70 = .ok (.aload_n 0, 1) := by decide +kernel
theorem dX9_init_71 : decode cX9_init 71 = .ok (.iconst 2, 1) := by decide +kernel
theorem dX9_init_72 : decode cX9_init 72 = .ok (.anewarray 43, 3) := by decide +kernel
theorem dX9_init_75 : decode cX9_init 75 = .ok (.putfield 45, 3) := by decide +kernel
theorem dX9_init_78 : decode cX9_init 78 = .ok (.aload_n 0, 1) := by decide +kernel
theorem dX9_init_79 : decode cX9_init 79 = .ok (.new 49, 3) := by decide +kernel
theorem dX9_init_82 : decode cX9_init 82 = .ok (.dup, 1) := by decide +kernel
theorem dX9_init_83 : decode cX9_init 83 = .ok (.invokespecial 51, 3) := by decide +kernel
theorem dX9_init_86 : decode cX9_init 86 = .ok (.putfield 52, 3) := by decide +kernel
theorem dX9_init_89 : decode cX9_init 89 = .ok (.aload_n 0, 1) := by decide +kernel
theorem dX9_init_90 : decode cX9_init 90 = .ok (.new 56, 3) := by decide +kernel
theorem dX9_init_93 : decode cX9_init 93 = .ok (.dup, 1) := by decide +kernel
theorem dX9_init_94 : decode cX9_init 94 = .ok (.invokespecial 58, 3) := by decide +kernel
theorem dX9_init_97 : decode cX9_init 97 = .ok (.putfield 59, 3) := by decide +kernel
theorem dX9_init_100 : decode cX9_init 100 = .ok (.aload_n 0, 1) := by decide +kernel
theorem dX9_init_101 : decode cX9_init 101 = .ok (.new 63, 3) := by decide +kernel
theorem dX9_init_104 : decode cX9_init 104 = .ok (.dup, 1) := by decide +kernel
theorem dX9_init_105 : decode cX9_init 105 = .ok (.invokespecial 65, 3) := by decide +kernel
theorem dX9_init_108 : decode cX9_init 108 = .ok (.putfield 66, 3) := by decide +kernel
theorem dX9_init_111 : decode cX9_init 111 = .ok (.aload_n 0, 1) := by decide +kernel
theorem dX9_init_112 : decode cX9_init 112 = .ok (.new 70, 3) := by decide +kernel
theorem dX9_init_115 : decode cX9_init 115 = .ok (.dup, 1) := by decide +kernel
theorem dX9_init_116 : decode cX9_init 116 = .ok (.invokespecial 72, 3) := by decide +kernel
theorem dX9_init_119 : decode cX9_init 119 = .ok (.putfield 73, 3) := by decide +kernel
theorem dX9_init_122 : decode cX9_init 122 = .ok (.aload_n 0, 1) := by decide +kernel
theorem dX9_init_123 : decode cX9_init 123 = .ok (.iconst (-1), 1) := by decide +kernel
theorem dX9_init_124 : decode cX9_init 124 = .ok (.putfield 77, 3) := by decide +kernel
theorem dX9_init_127 : decode cX9_init 127 = .ok (.iconst 0, 1) := by decide +kernel
theorem dX9_init_128 : decode cX9_init 128 = .ok (.istore_n 1, 1) := by decide +kernel
theorem dX9_init_129 : decode cX9_init 129 = .ok (.iload_n 1, 1) := by decide +kernel
theorem dX9_init_130 : decode cX9_init 130 = .ok (.iconst 2, 1) := by decide +kernel
theorem dX9_init_131 : decode cX9_init 131 = .ok (.if_icmp .ge 22, 3) := by decide +kernel
theorem dX9_init_134 : decode cX9_init 134 = .ok (.aload_n 0, 1) := by decide +kernel
theorem dX9_init_135 : decode cX9_init 135 = .ok (.getfield 45, 3) := by decide +kernel
theorem dX9_init_138 : decode cX9_init 138 = .ok (.iload_n 1, 1) := by decide +kernel
theorem dX9_init_139 : decode cX9_init 139 = .ok (.new 43, 3) := by decide +kernel
theorem dX9_init_142 : decode cX9_init 142 = .ok (.dup, 1) := by decide +kernel
theorem dX9_init_143 : decode cX9_init 143 = .ok (.invokespecial 81, 3) := by decide +kernel
theorem dX9_init_146 : decode cX9_init 146 = .ok (.aastore, 1) := by decide +kernel
theorem dX9_init_147 : decode cX9_init 147 = .ok (.iinc 1 1, 3) := by decide +kernel
theorem dX9_init_150 : decode cX9_init 150 = .ok (.goto (-21), 3) := by decide +kernel
theorem dX9_init_153 : decode cX9_init 153 = .ok (.return_, 1) := by decide +kernel
theorem dX9_feed_0 : decode cX9_feed 0 = .ok (.iload_n 1, 1) := by decide +kernel
theorem dX9_feed_1 : decode cX9_feed 1 = .ok (.iconst 0, 1) := by decide +kernel
theorem dX9_feed_2 : decode cX9_feed 2 = .ok (.sipush 255, 3) := by decide +kernel
theorem dX9_feed_5 : decode cX9_feed 5 = .ok (.invokestatic 82, 3) := by decide +kernel
theorem dX9_feed_8 : decode cX9_feed 8 = .ok (.ifCond .ne 6, 3) := by decide +kernel
theorem dX9_feed_11 : decode cX9_feed 11 = .ok (.ldc 86, 2) := by decide +kernel
theorem dX9_feed_13 : decode cX9_feed 13 = .ok (.ireturn, 1) := by decide +kernel
theorem dX9_feed_14 : decode cX9_feed 14 = .ok (.aload_n 0, 1) := by decide +kernel
theorem dX9_feed_15 : decode cX9_feed 15 = .ok (.getfield 10, 3) := by decide +kernel
theorem dX9_feed_18 : decode cX9_feed 18 = .ok (.iload_n 1, 1) := by decide +kernel
theorem dX9_feed_19 : decode cX9_feed 19 = .ok (.invokevirtual 87, 3) := by decide +kernel
theorem dX9_feed_22 : decode cX9_feed 22 = .ok (.ireturn, 1) := by decide +kernel
theorem dX9_coast_0 : decode cX9_coast 0 = .ok (.aload_n 0, 1) := by decide +kernel
theorem dX9_coast_1 : decode cX9_coast 1 = .ok (.getfield 10, 3) := by decide +kernel
theorem dX9_coast_4 : decode cX9_coast 4 = .ok (.aload_n 0, 1) := by decide +kernel
theorem dX9_coast_5 : decode cX9_coast 5 = .ok (.getfield 23, 3) := by decide +kernel
theorem dX9_coast_8 : decode cX9_coast 8 = .ok (.invokevirtual 91, 3) := by decide +kernel
theorem dX9_coast_11 : decode cX9_coast 11 = .ok (.istore_n 1, 1) := by decide +kernel
theorem dX9_coast_12 : decode cX9_coast 12 = .ok (.aload_n 0, 1) := by decide +kernel
theorem dX9_coast_13 : decode cX9_coast 13 = .ok (.aload_n 0, 1) := by decide +kernel
theorem dX9_coast_14 : decode cX9_coast 14 = .ok (.getfield 10, 3) := by decide +kernel
theorem dX9_coast_17 : decode cX9_coast 17 = .ok (.invokevirtual 95, 3) := by decide +kernel
theorem dX9_coast_20 : decode cX9_coast 20 = .ok (.putfield 77, 3) := by decide +kernel
theorem dX9_coast_23 : decode cX9_coast 23 = .ok (.iload_n 1, 1) := by decide +kernel
theorem dX9_coast_24 : decode cX9_coast 24 = .ok (.ifCond .eq 8, 3) := by decide +kernel
theorem dX9_coast_27 : decode cX9_coast 27 = .ok (.bipush (-10), 2) := by decide +kernel
theorem dX9_coast_29 : decode cX9_coast 29 = .ok (.iload_n 1, 1) := by decide +kernel
theorem dX9_coast_30 : decode cX9_coast 30 = .ok (.isub, 1) := by decide +kernel
theorem dX9_coast_31 : decode cX9_coast 31 = .ok (.ireturn, 1) := by decide +kernel
theorem dX9_coast_32 : decode cX9_coast 32 = .ok (.aload_n 0, 1) := by decide +kernel
theorem dX9_coast_33 : decode cX9_coast 33 = .ok (.getfield 19, 3) := by decide +kernel
theorem dX9_coast_36 : decode cX9_coast 36 = .ok (.astore_n 2, 1) := by decide +kernel
theorem dX9_coast_37 : decode cX9_coast 37 = .ok (.aload_n 0, 1) := by decide +kernel
theorem dX9_coast_38 : decode cX9_coast 38 = .ok (.aload_n 0, 1) := by decide +kernel
theorem dX9_coast_39 : decode cX9_coast 39 = .ok (.getfield 23, 3) := by decide +kernel
theorem dX9_coast_42 : decode cX9_coast 42 = .ok (.putfield 19, 3) := by decide +kernel
theorem dX9_coast_45 : decode cX9_coast 45 = .ok (.aload_n 0, 1) := by decide +kernel
theorem dX9_coast_46 : decode cX9_coast 46 = .ok (.aload_n 2, 1) := by decide +kernel
theorem dX9_coast_47 : decode cX9_coast 47 = .ok (.putfield 23, 3) := by decide +kernel
theorem dX9_coast_50 : decode cX9_coast 50 = .ok (.aload_n 0, 1) := by decide +kernel
theorem dX9_coast_51 : decode cX9_coast 51 = .ok (.getfield 29, 3) := by decide +kernel
theorem dX9_coast_54 : decode cX9_coast 54 = .ok (.aload_n 0, 1) := by decide +kernel
theorem dX9_coast_55 : decode cX9_coast 55 = .ok (.getfield 19, 3) := by decide +kernel
theorem dX9_coast_58 : decode cX9_coast 58 = .ok (.invokevirtual 99, 3) := by decide +kernel
theorem dX9_coast_61 : decode cX9_coast 61 = .ok (.aload_n 0, 1) := by decide +kernel
theorem dX9_coast_62 : decode cX9_coast 62 = .ok (.getfield 39, 3) := by decide +kernel
theorem dX9_coast_65 : decode cX9_coast 65 = .ok (.invokevirtual 103, 3) := by decide +kernel
theorem dX9_coast_68 : decode cX9_coast 68 = .ok (.aload_n 0, 1) := by decide +kernel
theorem dX9_coast_69 : decode cX9_coast 69 = .ok (.getfield 59, 3) := by decide +kernel
theorem dX9_coast_72 : decode cX9_coast 72 = .ok (.invokevirtual 106, 3) := by decide +kernel
theorem dX9_coast_75 : decode cX9_coast 75 = .ok (.iconst 0, 1) := by decide +kernel
theorem dX9_coast_76 : decode cX9_coast 76 = .ok (.istore_n 3, 1) := by decide +kernel
theorem dX9_coast_77 : decode cX9_coast 77 = .ok (.iload_n 3, 1) := by decide +kernel
theorem dX9_coast_78 : decode cX9_coast 78 = .ok (.iconst 2, 1) := by decide +kernel
theorem dX9_coast_79 : decode cX9_coast 79 = .ok (.if_icmp .ge 19, 3) := by decide +kernel
theorem dX9_coast_82 : decode cX9_coast 82 = .ok (.aload_n 0, 1) := by decide +kernel
theorem dX9_coast_83 : decode cX9_coast 83 = .ok (.getfield 45, 3) := by decide +kernel
theorem dX9_coast_86 : decode cX9_coast 86 = .ok (.iload_n 3, 1) := by decide +kernel
theorem dX9_coast_87 : decode cX9_coast 87 = .ok (.aaload, 1) := by decide +kernel
theorem dX9_coast_88 : decode cX9_coast 88 = .ok (.iconst 0, 1) := by decide +kernel
theorem dX9_coast_89 : decode cX9_coast 89 = .ok (.putfield 109, 3) := by decide +kernel
theorem dX9_coast_92 : decode cX9_coast 92 = .ok (.iinc 3 1, 3) := by decide +kernel
theorem dX9_coast_95 : decode cX9_coast 95 = .ok (.goto (-18), 3) := by decide +kernel
theorem dX9_coast_98 : decode cX9_coast 98 = .ok (.aload_n 0, 1) := by decide +kernel
theorem dX9_coast_99 : decode cX9_coast 99 = .ok (.getfield 19, 3) := by decide +kernel
theorem dX9_coast_102 : decode cX9_coast 102 = .ok (.getfield 113, 3) := by decide +kernel
theorem dX9_coast_105 : decode cX9_coast 105 = .ok (.ireturn, 1) := by decide +kernel
theorem dX9_fault_0 : decode cX9_fault 0 = .ok (.aload_n 0, 1) := by decide +kernel
theorem dX9_fault_1 : decode cX9_fault 1 = .ok (.getfield 77, 3) := by decide +kernel
theorem dX9_fault_4 : decode cX9_fault 4 = .ok (.ireturn, 1) := by decide +kernel
theorem dX9_told_0 : decode cX9_told 0 = .ok (.iload_n 1, 1) := by decide +kernel
theorem dX9_told_1 : decode cX9_told 1 = .ok (.tableswitch 283 0 18 #[91, 99, 107, 115, 123, 131, 139, 151, 163, 175, 187, 199, 211, 219, 227, 251, 259, 267, 275], 91) := by decide +kernel
theorem dX9_told_92 : decode cX9_told 92 = .ok (.aload_n 0, 1) := by decide +kernel
theorem dX9_told_93 : decode cX9_told 93 = .ok (.getfield 19, 3) := by decide +kernel
theorem dX9_told_96 : decode cX9_told 96 = .ok (.getfield 113, 3) := by decide +kernel
theorem dX9_told_99 : decode cX9_told 99 = .ok (.ireturn, 1) := by decide +kernel
theorem dX9_told_100 : decode cX9_told 100 = .ok (.aload_n 0, 1) := by decide +kernel
theorem dX9_told_101 : decode cX9_told 101 = .ok (.getfield 19, 3) := by decide +kernel
theorem dX9_told_104 : decode cX9_told 104 = .ok (.getfield 116, 3) := by decide +kernel
theorem dX9_told_107 : decode cX9_told 107 = .ok (.ireturn, 1) := by decide +kernel
theorem dX9_told_108 : decode cX9_told 108 = .ok (.aload_n 0, 1) := by decide +kernel
theorem dX9_told_109 : decode cX9_told 109 = .ok (.getfield 19, 3) := by decide +kernel
theorem dX9_told_112 : decode cX9_told 112 = .ok (.getfield 119, 3) := by decide +kernel
theorem dX9_told_115 : decode cX9_told 115 = .ok (.ireturn, 1) := by decide +kernel
theorem dX9_told_116 : decode cX9_told 116 = .ok (.aload_n 0, 1) := by decide +kernel
theorem dX9_told_117 : decode cX9_told 117 = .ok (.getfield 19, 3) := by decide +kernel
theorem dX9_told_120 : decode cX9_told 120 = .ok (.getfield 122, 3) := by decide +kernel
theorem dX9_told_123 : decode cX9_told 123 = .ok (.ireturn, 1) := by decide +kernel
theorem dX9_told_124 : decode cX9_told 124 = .ok (.aload_n 0, 1) := by decide +kernel
theorem dX9_told_125 : decode cX9_told 125 = .ok (.getfield 10, 3) := by decide +kernel
theorem dX9_told_128 : decode cX9_told 128 = .ok (.invokevirtual 125, 3) := by decide +kernel
theorem dX9_told_131 : decode cX9_told 131 = .ok (.ireturn, 1) := by decide +kernel
theorem dX9_told_132 : decode cX9_told 132 = .ok (.aload_n 0, 1) := by decide +kernel
theorem dX9_told_133 : decode cX9_told 133 = .ok (.getfield 29, 3) := by decide +kernel
theorem dX9_told_136 : decode cX9_told 136 = .ok (.getfield 128, 3) := by decide +kernel
theorem dX9_told_139 : decode cX9_told 139 = .ok (.ireturn, 1) := by decide +kernel
theorem dX9_told_140 : decode cX9_told 140 = .ok (.aload_n 0, 1) := by decide +kernel
theorem dX9_told_141 : decode cX9_told 141 = .ok (.getfield 29, 3) := by decide +kernel
theorem dX9_told_144 : decode cX9_told 144 = .ok (.aload_n 0, 1) := by decide +kernel
theorem dX9_told_145 : decode cX9_told 145 = .ok (.getfield 19, 3) := by decide +kernel
theorem dX9_told_148 : decode cX9_told 148 = .ok (.invokevirtual 131, 3) := by decide +kernel
theorem dX9_told_151 : decode cX9_told 151 = .ok (.ireturn, 1) := by decide +kernel
theorem dX9_told_152 : decode cX9_told 152 = .ok (.aload_n 0, 1) := by decide +kernel
theorem dX9_told_153 : decode cX9_told 153 = .ok (.getfield 29, 3) := by decide +kernel
theorem dX9_told_156 : decode cX9_told 156 = .ok (.aload_n 0, 1) := by decide +kernel
theorem dX9_told_157 : decode cX9_told 157 = .ok (.getfield 19, 3) := by decide +kernel
theorem dX9_told_160 : decode cX9_told 160 = .ok (.invokevirtual 134, 3) := by decide +kernel
theorem dX9_told_163 : decode cX9_told 163 = .ok (.ireturn, 1) := by decide +kernel
theorem dX9_told_164 : decode cX9_told 164 = .ok (.aload_n 0, 1) := by decide +kernel
theorem dX9_told_165 : decode cX9_told 165 = .ok (.getfield 29, 3) := by decide +kernel
theorem dX9_told_168 : decode cX9_told 168 = .ok (.aload_n 0, 1) := by decide +kernel
theorem dX9_told_169 : decode cX9_told 169 = .ok (.getfield 19, 3) := by decide +kernel
theorem dX9_told_172 : decode cX9_told 172 = .ok (.invokevirtual 137, 3) := by decide +kernel
theorem dX9_told_175 : decode cX9_told 175 = .ok (.ireturn, 1) := by decide +kernel
theorem dX9_told_176 : decode cX9_told 176 = .ok (.aload_n 0, 1) := by decide +kernel
theorem dX9_told_177 : decode cX9_told 177 = .ok (.getfield 29, 3) := by decide +kernel
theorem dX9_told_180 : decode cX9_told 180 = .ok (.aload_n 0, 1) := by decide +kernel
theorem dX9_told_181 : decode cX9_told 181 = .ok (.getfield 19, 3) := by decide +kernel
theorem dX9_told_184 : decode cX9_told 184 = .ok (.invokevirtual 140, 3) := by decide +kernel
theorem dX9_told_187 : decode cX9_told 187 = .ok (.ireturn, 1) := by decide +kernel
theorem dX9_told_188 : decode cX9_told 188 = .ok (.aload_n 0, 1) := by decide +kernel
theorem dX9_told_189 : decode cX9_told 189 = .ok (.getfield 29, 3) := by decide +kernel
theorem dX9_told_192 : decode cX9_told 192 = .ok (.aload_n 0, 1) := by decide +kernel
theorem dX9_told_193 : decode cX9_told 193 = .ok (.getfield 19, 3) := by decide +kernel
theorem dX9_told_196 : decode cX9_told 196 = .ok (.invokevirtual 143, 3) := by decide +kernel
theorem dX9_told_199 : decode cX9_told 199 = .ok (.ireturn, 1) := by decide +kernel
theorem dX9_told_200 : decode cX9_told 200 = .ok (.aload_n 0, 1) := by decide +kernel
theorem dX9_told_201 : decode cX9_told 201 = .ok (.getfield 29, 3) := by decide +kernel
theorem dX9_told_204 : decode cX9_told 204 = .ok (.aload_n 0, 1) := by decide +kernel
theorem dX9_told_205 : decode cX9_told 205 = .ok (.getfield 19, 3) := by decide +kernel
theorem dX9_told_208 : decode cX9_told 208 = .ok (.invokevirtual 146, 3) := by decide +kernel
theorem dX9_told_211 : decode cX9_told 211 = .ok (.ireturn, 1) := by decide +kernel
theorem dX9_told_212 : decode cX9_told 212 = .ok (.aload_n 0, 1) := by decide +kernel
theorem dX9_told_213 : decode cX9_told 213 = .ok (.getfield 29, 3) := by decide +kernel
theorem dX9_told_216 : decode cX9_told 216 = .ok (.getfield 149, 3) := by decide +kernel
theorem dX9_told_219 : decode cX9_told 219 = .ok (.ireturn, 1) := by decide +kernel
theorem dX9_told_220 : decode cX9_told 220 = .ok (.aload_n 0, 1) := by decide +kernel
theorem dX9_told_221 : decode cX9_told 221 = .ok (.getfield 59, 3) := by decide +kernel
theorem dX9_told_224 : decode cX9_told 224 = .ok (.getfield 152, 3) := by decide +kernel
theorem dX9_told_227 : decode cX9_told 227 = .ok (.ireturn, 1) := by decide +kernel
theorem dX9_told_228 : decode cX9_told 228 = .ok (.aload_n 0, 1) := by decide +kernel
theorem dX9_told_229 : decode cX9_told 229 = .ok (.getfield 73, 3) := by decide +kernel
theorem dX9_told_232 : decode cX9_told 232 = .ok (.aload_n 0, 1) := by decide +kernel
theorem dX9_told_233 : decode cX9_told 233 = .ok (.getfield 19, 3) := by decide +kernel
theorem dX9_told_236 : decode cX9_told 236 = .ok (.aload_n 0, 1) := by decide +kernel
theorem dX9_told_237 : decode cX9_told 237 = .ok (.getfield 29, 3) := by decide +kernel
theorem dX9_told_240 : decode cX9_told 240 = .ok (.aload_n 0, 1) := by decide +kernel
theorem dX9_told_241 : decode cX9_told 241 = .ok (.getfield 59, 3) := by decide +kernel
theorem dX9_told_244 : decode cX9_told 244 = .ok (.aload_n 0, 1) := by decide +kernel
theorem dX9_told_245 : decode cX9_told 245 = .ok (.getfield 33, 3) := by decide +kernel
theorem dX9_told_248 : decode cX9_told 248 = .ok (.invokevirtual 155, 3) := by decide +kernel
theorem dX9_told_251 : decode cX9_told 251 = .ok (.ireturn, 1) := by decide +kernel
theorem dX9_told_252 : decode cX9_told 252 = .ok (.aload_n 0, 1) := by decide +kernel
theorem dX9_told_253 : decode cX9_told 253 = .ok (.getfield 59, 3) := by decide +kernel
theorem dX9_told_256 : decode cX9_told 256 = .ok (.getfield 159, 3) := by decide +kernel
theorem dX9_told_259 : decode cX9_told 259 = .ok (.ireturn, 1) := by decide +kernel
theorem dX9_told_260 : decode cX9_told 260 = .ok (.aload_n 0, 1) := by decide +kernel
theorem dX9_told_261 : decode cX9_told 261 = .ok (.getfield 59, 3) := by decide +kernel
theorem dX9_told_264 : decode cX9_told 264 = .ok (.invokevirtual 162, 3) := by decide +kernel
theorem dX9_told_267 : decode cX9_told 267 = .ok (.ireturn, 1) := by decide +kernel
theorem dX9_told_268 : decode cX9_told 268 = .ok (.aload_n 0, 1) := by decide +kernel
theorem dX9_told_269 : decode cX9_told 269 = .ok (.getfield 59, 3) := by decide +kernel
theorem dX9_told_272 : decode cX9_told 272 = .ok (.getfield 165, 3) := by decide +kernel
theorem dX9_told_275 : decode cX9_told 275 = .ok (.ireturn, 1) := by decide +kernel
theorem dX9_told_276 : decode cX9_told 276 = .ok (.aload_n 0, 1) := by decide +kernel
theorem dX9_told_277 : decode cX9_told 277 = .ok (.getfield 39, 3) := by decide +kernel
theorem dX9_told_280 : decode cX9_told 280 = .ok (.getfield 168, 3) := by decide +kernel
theorem dX9_told_283 : decode cX9_told 283 = .ok (.ireturn, 1) := by decide +kernel
theorem dX9_told_284 : decode cX9_told 284 = .ok (.ldc 86, 2) := by decide +kernel
theorem dX9_told_286 : decode cX9_told 286 = .ok (.ireturn, 1) := by decide +kernel
theorem dX9_cell_0 : decode cX9_cell 0 = .ok (.aload_n 0, 1) := by decide +kernel
theorem dX9_cell_1 : decode cX9_cell 1 = .ok (.getfield 19, 3) := by decide +kernel
theorem dX9_cell_4 : decode cX9_cell 4 = .ok (.iload_n 1, 1) := by decide +kernel
theorem dX9_cell_5 : decode cX9_cell 5 = .ok (.invokevirtual 171, 3) := by decide +kernel
theorem dX9_cell_8 : decode cX9_cell 8 = .ok (.ifCond .ne 6, 3) := by decide +kernel
theorem dX9_cell_11 : decode cX9_cell 11 = .ok (.ldc 175, 2) := by decide +kernel
theorem dX9_cell_13 : decode cX9_cell 13 = .ok (.ireturn, 1) := by decide +kernel
theorem dX9_cell_14 : decode cX9_cell 14 = .ok (.iload_n 2, 1) := by decide +kernel
theorem dX9_cell_15 : decode cX9_cell 15 = .ok (.tableswitch 78 0 3 #[29, 39, 52, 65], 29) := by decide +kernel
theorem dX9_cell_44 : decode cX9_cell 44 = .ok (.aload_n 0, 1) := by decide +kernel
theorem dX9_cell_45 : decode cX9_cell 45 = .ok (.getfield 19, 3) := by decide +kernel
theorem dX9_cell_48 : decode cX9_cell 48 = .ok (.getfield 176, 3) := by decide +kernel
theorem dX9_cell_51 : decode cX9_cell 51 = .ok (.iload_n 1, 1) := by decide +kernel
theorem dX9_cell_52 : decode cX9_cell 52 = .ok (.iaload, 1) := by decide +kernel
theorem dX9_cell_53 : decode cX9_cell 53 = .ok (.ireturn, 1) := by decide +kernel
theorem dX9_cell_54 : decode cX9_cell 54 = .ok (.aload_n 0, 1) := by decide +kernel
theorem dX9_cell_55 : decode cX9_cell 55 = .ok (.getfield 29, 3) := by decide +kernel
theorem dX9_cell_58 : decode cX9_cell 58 = .ok (.aload_n 0, 1) := by decide +kernel
theorem dX9_cell_59 : decode cX9_cell 59 = .ok (.getfield 19, 3) := by decide +kernel
theorem dX9_cell_62 : decode cX9_cell 62 = .ok (.iload_n 1, 1) := by decide +kernel
theorem dX9_cell_63 : decode cX9_cell 63 = .ok (.invokevirtual 180, 3) := by decide +kernel
theorem dX9_cell_66 : decode cX9_cell 66 = .ok (.ireturn, 1) := by decide +kernel
theorem dX9_cell_67 : decode cX9_cell 67 = .ok (.aload_n 0, 1) := by decide +kernel
theorem dX9_cell_68 : decode cX9_cell 68 = .ok (.getfield 29, 3) := by decide +kernel
theorem dX9_cell_71 : decode cX9_cell 71 = .ok (.aload_n 0, 1) := by decide +kernel
theorem dX9_cell_72 : decode cX9_cell 72 = .ok (.getfield 19, 3) := by decide +kernel
theorem dX9_cell_75 : decode cX9_cell 75 = .ok (.iload_n 1, 1) := by decide +kernel
theorem dX9_cell_76 : decode cX9_cell 76 = .ok (.invokevirtual 184, 3) := by decide +kernel
theorem dX9_cell_79 : decode cX9_cell 79 = .ok (.ireturn, 1) := by decide +kernel
theorem dX9_cell_80 : decode cX9_cell 80 = .ok (.aload_n 0, 1) := by decide +kernel
theorem dX9_cell_81 : decode cX9_cell 81 = .ok (.getfield 29, 3) := by decide +kernel
theorem dX9_cell_84 : decode cX9_cell 84 = .ok (.aload_n 0, 1) := by decide +kernel
theorem dX9_cell_85 : decode cX9_cell 85 = .ok (.getfield 19, 3) := by decide +kernel
theorem dX9_cell_88 : decode cX9_cell 88 = .ok (.iload_n 1, 1) := by decide +kernel
theorem dX9_cell_89 : decode cX9_cell 89 = .ok (.invokevirtual 187, 3) := by decide +kernel
theorem dX9_cell_92 : decode cX9_cell 92 = .ok (.ireturn, 1) := by decide +kernel
theorem dX9_cell_93 : decode cX9_cell 93 = .ok (.ldc 86, 2) := by decide +kernel
theorem dX9_cell_95 : decode cX9_cell 95 = .ok (.ireturn, 1) := by decide +kernel
theorem dX9_tower_0 : decode cX9_tower 0 = .ok (.aload_n 0, 1) := by decide +kernel
theorem dX9_tower_1 : decode cX9_tower 1 = .ok (.getfield 19, 3) := by decide +kernel
theorem dX9_tower_4 : decode cX9_tower 4 = .ok (.iload_n 1, 1) := by decide +kernel
theorem dX9_tower_5 : decode cX9_tower 5 = .ok (.invokevirtual 190, 3) := by decide +kernel
theorem dX9_tower_8 : decode cX9_tower 8 = .ok (.ifCond .ne 6, 3) := by decide +kernel
theorem dX9_tower_11 : decode cX9_tower 11 = .ok (.ldc 175, 2) := by decide +kernel
theorem dX9_tower_13 : decode cX9_tower 13 = .ok (.ireturn, 1) := by decide +kernel
theorem dX9_tower_14 : decode cX9_tower 14 = .ok (.iload_n 2, 1) := by decide +kernel
theorem dX9_tower_15 : decode cX9_tower 15 = .ok (.tableswitch 72 0 3 #[29, 39, 49, 59], 29) := by decide +kernel
theorem dX9_tower_44 : decode cX9_tower 44 = .ok (.aload_n 0, 1) := by decide +kernel
theorem dX9_tower_45 : decode cX9_tower 45 = .ok (.getfield 19, 3) := by decide +kernel
theorem dX9_tower_48 : decode cX9_tower 48 = .ok (.getfield 193, 3) := by decide +kernel
theorem dX9_tower_51 : decode cX9_tower 51 = .ok (.iload_n 1, 1) := by decide +kernel
theorem dX9_tower_52 : decode cX9_tower 52 = .ok (.iaload, 1) := by decide +kernel
theorem dX9_tower_53 : decode cX9_tower 53 = .ok (.ireturn, 1) := by decide +kernel
theorem dX9_tower_54 : decode cX9_tower 54 = .ok (.aload_n 0, 1) := by decide +kernel
theorem dX9_tower_55 : decode cX9_tower 55 = .ok (.getfield 19, 3) := by decide +kernel
theorem dX9_tower_58 : decode cX9_tower 58 = .ok (.getfield 196, 3) := by decide +kernel
theorem dX9_tower_61 : decode cX9_tower 61 = .ok (.iload_n 1, 1) := by decide +kernel
theorem dX9_tower_62 : decode cX9_tower 62 = .ok (.iaload, 1) := by decide +kernel
theorem dX9_tower_63 : decode cX9_tower 63 = .ok (.ireturn, 1) := by decide +kernel
theorem dX9_tower_64 : decode cX9_tower 64 = .ok (.aload_n 0, 1) := by decide +kernel
theorem dX9_tower_65 : decode cX9_tower 65 = .ok (.getfield 29, 3) := by decide +kernel
theorem dX9_tower_68 : decode cX9_tower 68 = .ok (.getfield 199, 3) := by decide +kernel
theorem dX9_tower_71 : decode cX9_tower 71 = .ok (.iload_n 1, 1) := by decide +kernel
theorem dX9_tower_72 : decode cX9_tower 72 = .ok (.iaload, 1) := by decide +kernel
theorem dX9_tower_73 : decode cX9_tower 73 = .ok (.ireturn, 1) := by decide +kernel
theorem dX9_tower_74 : decode cX9_tower 74 = .ok (.aload_n 0, 1) := by decide +kernel
theorem dX9_tower_75 : decode cX9_tower 75 = .ok (.getfield 29, 3) := by decide +kernel
theorem dX9_tower_78 : decode cX9_tower 78 = .ok (.aload_n 0, 1) := by decide +kernel
theorem dX9_tower_79 : decode cX9_tower 79 = .ok (.getfield 19, 3) := by decide +kernel
theorem dX9_tower_82 : decode cX9_tower 82 = .ok (.iload_n 1, 1) := by decide +kernel
theorem dX9_tower_83 : decode cX9_tower 83 = .ok (.invokevirtual 202, 3) := by decide +kernel
theorem dX9_tower_86 : decode cX9_tower 86 = .ok (.ireturn, 1) := by decide +kernel
theorem dX9_tower_87 : decode cX9_tower 87 = .ok (.ldc 86, 2) := by decide +kernel
theorem dX9_tower_89 : decode cX9_tower 89 = .ok (.ireturn, 1) := by decide +kernel
theorem dX9_player_0 : decode cX9_player 0 = .ok (.aload_n 0, 1) := by decide +kernel
theorem dX9_player_1 : decode cX9_player 1 = .ok (.getfield 19, 3) := by decide +kernel
theorem dX9_player_4 : decode cX9_player 4 = .ok (.iload_n 1, 1) := by decide +kernel
theorem dX9_player_5 : decode cX9_player 5 = .ok (.invokevirtual 205, 3) := by decide +kernel
theorem dX9_player_8 : decode cX9_player 8 = .ok (.ifCond .ne 6, 3) := by decide +kernel
theorem dX9_player_11 : decode cX9_player 11 = .ok (.ldc 175, 2) := by decide +kernel
theorem dX9_player_13 : decode cX9_player 13 = .ok (.ireturn, 1) := by decide +kernel
theorem dX9_player_14 : decode cX9_player 14 = .ok (.iload_n 2, 1) := by decide +kernel
theorem dX9_player_15 : decode cX9_player 15 = .ok (.tableswitch 76 0 3 #[29, 39, 49, 59], 29) := by decide +kernel
theorem dX9_player_44 : decode cX9_player 44 = .ok (.aload_n 0, 1) := by decide +kernel
theorem dX9_player_45 : decode cX9_player 45 = .ok (.getfield 19, 3) := by decide +kernel
theorem dX9_player_48 : decode cX9_player 48 = .ok (.getfield 208, 3) := by decide +kernel
theorem dX9_player_51 : decode cX9_player 51 = .ok (.iload_n 1, 1) := by decide +kernel
theorem dX9_player_52 : decode cX9_player 52 = .ok (.iaload, 1) := by decide +kernel
theorem dX9_player_53 : decode cX9_player 53 = .ok (.ireturn, 1) := by decide +kernel
theorem dX9_player_54 : decode cX9_player 54 = .ok (.aload_n 0, 1) := by decide +kernel
theorem dX9_player_55 : decode cX9_player 55 = .ok (.getfield 29, 3) := by decide +kernel
theorem dX9_player_58 : decode cX9_player 58 = .ok (.getfield 211, 3) := by decide +kernel
theorem dX9_player_61 : decode cX9_player 61 = .ok (.iload_n 1, 1) := by decide +kernel
theorem dX9_player_62 : decode cX9_player 62 = .ok (.iaload, 1) := by decide +kernel
theorem dX9_player_63 : decode cX9_player 63 = .ok (.ireturn, 1) := by decide +kernel
theorem dX9_player_64 : decode cX9_player 64 = .ok (.aload_n 0, 1) := by decide +kernel
theorem dX9_player_65 : decode cX9_player 65 = .ok (.getfield 29, 3) := by decide +kernel
theorem dX9_player_68 : decode cX9_player 68 = .ok (.getfield 214, 3) := by decide +kernel
theorem dX9_player_71 : decode cX9_player 71 = .ok (.iload_n 1, 1) := by decide +kernel
theorem dX9_player_72 : decode cX9_player 72 = .ok (.iaload, 1) := by decide +kernel
theorem dX9_player_73 : decode cX9_player 73 = .ok (.ireturn, 1) := by decide +kernel
theorem dX9_player_74 : decode cX9_player 74 = .ok (.aload_n 0, 1) := by decide +kernel
theorem dX9_player_75 : decode cX9_player 75 = .ok (.getfield 29, 3) := by decide +kernel
theorem dX9_player_78 : decode cX9_player 78 = .ok (.iload_n 1, 1) := by decide +kernel
theorem dX9_player_79 : decode cX9_player 79 = .ok (.invokevirtual 217, 3) := by decide +kernel
theorem dX9_player_82 : decode cX9_player 82 = .ok (.ifCond .eq 7, 3) := by decide +kernel
theorem dX9_player_85 : decode cX9_player 85 = .ok (.iconst 1, 1) := by decide +kernel
theorem dX9_player_86 : decode cX9_player 86 = .ok (.goto 4, 3) := by decide +kernel
theorem dX9_player_89 : decode cX9_player 89 = .ok (.iconst 0, 1) := by decide +kernel
theorem dX9_player_90 : decode cX9_player 90 = .ok (.ireturn, 1) := by decide +kernel
theorem dX9_player_91 : decode cX9_player 91 = .ok (.ldc 86, 2) := by decide +kernel
theorem dX9_player_93 : decode cX9_player 93 = .ok (.ireturn, 1) := by decide +kernel
theorem dX9_boat_0 : decode cX9_boat 0 = .ok (.aload_n 0, 1) := by decide +kernel
theorem dX9_boat_1 : decode cX9_boat 1 = .ok (.getfield 19, 3) := by decide +kernel
theorem dX9_boat_4 : decode cX9_boat 4 = .ok (.iload_n 1, 1) := by decide +kernel
theorem dX9_boat_5 : decode cX9_boat 5 = .ok (.invokevirtual 220, 3) := by decide +kernel
theorem dX9_boat_8 : decode cX9_boat 8 = .ok (.ifCond .ne 6, 3) := by decide +kernel
theorem dX9_boat_11 : decode cX9_boat 11 = .ok (.ldc 175, 2) := by decide +kernel
theorem dX9_boat_13 : decode cX9_boat 13 = .ok (.ireturn, 1) := by decide +kernel
theorem dX9_boat_14 : decode cX9_boat 14 = .ok (.iload_n 2, 1) := by decide +kernel
theorem dX9_boat_15 : decode cX9_boat 15 = .ok (.tableswitch 69 0 3 #[29, 39, 49, 59], 29) := by decide +kernel
theorem dX9_boat_44 : decode cX9_boat 44 = .ok (.aload_n 0, 1) := by decide +kernel
theorem dX9_boat_45 : decode cX9_boat 45 = .ok (.getfield 19, 3) := by decide +kernel
theorem dX9_boat_48 : decode cX9_boat 48 = .ok (.getfield 223, 3) := by decide +kernel
theorem dX9_boat_51 : decode cX9_boat 51 = .ok (.iload_n 1, 1) := by decide +kernel
theorem dX9_boat_52 : decode cX9_boat 52 = .ok (.iaload, 1) := by decide +kernel
theorem dX9_boat_53 : decode cX9_boat 53 = .ok (.ireturn, 1) := by decide +kernel
theorem dX9_boat_54 : decode cX9_boat 54 = .ok (.aload_n 0, 1) := by decide +kernel
theorem dX9_boat_55 : decode cX9_boat 55 = .ok (.getfield 29, 3) := by decide +kernel
theorem dX9_boat_58 : decode cX9_boat 58 = .ok (.getfield 226, 3) := by decide +kernel
theorem dX9_boat_61 : decode cX9_boat 61 = .ok (.iload_n 1, 1) := by decide +kernel
theorem dX9_boat_62 : decode cX9_boat 62 = .ok (.iaload, 1) := by decide +kernel
theorem dX9_boat_63 : decode cX9_boat 63 = .ok (.ireturn, 1) := by decide +kernel
theorem dX9_boat_64 : decode cX9_boat 64 = .ok (.aload_n 0, 1) := by decide +kernel
theorem dX9_boat_65 : decode cX9_boat 65 = .ok (.getfield 19, 3) := by decide +kernel
theorem dX9_boat_68 : decode cX9_boat 68 = .ok (.getfield 229, 3) := by decide +kernel
theorem dX9_boat_71 : decode cX9_boat 71 = .ok (.iload_n 1, 1) := by decide +kernel
theorem dX9_boat_72 : decode cX9_boat 72 = .ok (.iaload, 1) := by decide +kernel
theorem dX9_boat_73 : decode cX9_boat 73 = .ok (.ireturn, 1) := by decide +kernel
theorem dX9_boat_74 : decode cX9_boat 74 = .ok (.aload_n 0, 1) := by decide +kernel
theorem dX9_boat_75 : decode cX9_boat 75 = .ok (.getfield 19, 3) := by decide +kernel
theorem dX9_boat_78 : decode cX9_boat 78 = .ok (.getfield 232, 3) := by decide +kernel
theorem dX9_boat_81 : decode cX9_boat 81 = .ok (.iload_n 1, 1) := by decide +kernel
theorem dX9_boat_82 : decode cX9_boat 82 = .ok (.iaload, 1) := by decide +kernel
theorem dX9_boat_83 : decode cX9_boat 83 = .ok (.ireturn, 1) := by decide +kernel
theorem dX9_boat_84 : decode cX9_boat 84 = .ok (.ldc 86, 2) := by decide +kernel
theorem dX9_boat_86 : decode cX9_boat 86 = .ok (.ireturn, 1) := by decide +kernel
theorem dX9_hour_0 : decode cX9_hour 0 = .ok (.aload_n 0, 1) := by decide +kernel
theorem dX9_hour_1 : decode cX9_hour 1 = .ok (.iload_n 1, 1) := by decide +kernel
theorem dX9_hour_2 : decode cX9_hour 2 = .ok (.invokevirtual 235, 3) := by decide +kernel
theorem dX9_hour_5 : decode cX9_hour 5 = .ok (.istore_n 2, 1) := by decide +kernel
theorem dX9_hour_6 : decode cX9_hour 6 = .ok (.iload_n 2, 1) := by decide +kernel
theorem dX9_hour_7 : decode cX9_hour 7 = .ok (.ifCond .eq 5, 3) := by decide +kernel
theorem dX9_hour_10 : decode cX9_hour 10 = .ok (.iload_n 2, 1) := by decide +kernel
theorem dX9_hour_11 : decode cX9_hour 11 = .ok (.ireturn, 1) := by decide +kernel
theorem dX9_hour_12 : decode cX9_hour 12 = .ok (.aload_n 0, 1) := by decide +kernel
theorem dX9_hour_13 : decode cX9_hour 13 = .ok (.getfield 39, 3) := by decide +kernel
theorem dX9_hour_16 : decode cX9_hour 16 = .ok (.aload_n 0, 1) := by decide +kernel
theorem dX9_hour_17 : decode cX9_hour 17 = .ok (.getfield 29, 3) := by decide +kernel
theorem dX9_hour_20 : decode cX9_hour 20 = .ok (.invokevirtual 238, 3) := by decide +kernel
theorem dX9_hour_23 : decode cX9_hour 23 = .ok (.iconst 0, 1) := by decide +kernel
theorem dX9_hour_24 : decode cX9_hour 24 = .ok (.istore_n 3, 1) := by decide +kernel
theorem dX9_hour_25 : decode cX9_hour 25 = .ok (.iload_n 3, 1) := by decide +kernel
theorem dX9_hour_26 : decode cX9_hour 26 = .ok (.iload_n 1, 1) := by decide +kernel
theorem dX9_hour_27 : decode cX9_hour 27 = .ok (.if_icmp .ge 20, 3) := by decide +kernel
theorem dX9_hour_30 : decode cX9_hour 30 = .ok (.aload_n 0, 1) := by decide +kernel
theorem dX9_hour_31 : decode cX9_hour 31 = .ok (.getfield 29, 3) := by decide +kernel
theorem dX9_hour_34 : decode cX9_hour 34 = .ok (.aload_n 0, 1) := by decide +kernel
theorem dX9_hour_35 : decode cX9_hour 35 = .ok (.getfield 19, 3) := by decide +kernel
theorem dX9_hour_38 : decode cX9_hour 38 = .ok (.invokevirtual 242, 3) := by decide +kernel
theorem dX9_hour_41 : decode cX9_hour 41 = .ok (.iinc 3 1, 3) := by decide +kernel
theorem dX9_hour_44 : decode cX9_hour 44 = .ok (.goto (-19), 3) := by decide +kernel
theorem dX9_hour_47 : decode cX9_hour 47 = .ok (.aload_n 0, 1) := by decide +kernel
theorem dX9_hour_48 : decode cX9_hour 48 = .ok (.getfield 29, 3) := by decide +kernel
theorem dX9_hour_51 : decode cX9_hour 51 = .ok (.getfield 128, 3) := by decide +kernel
theorem dX9_hour_54 : decode cX9_hour 54 = .ok (.ireturn, 1) := by decide +kernel
theorem dX9_sit_0 : decode cX9_sit 0 = .ok (.aload_n 0, 1) := by decide +kernel
theorem dX9_sit_1 : decode cX9_sit 1 = .ok (.getfield 19, 3) := by decide +kernel
theorem dX9_sit_4 : decode cX9_sit 4 = .ok (.iload_n 1, 1) := by decide +kernel
theorem dX9_sit_5 : decode cX9_sit 5 = .ok (.invokevirtual 205, 3) := by decide +kernel
theorem dX9_sit_8 : decode cX9_sit 8 = .ok (.ifCond .eq 14, 3) := by decide +kernel
theorem dX9_sit_11 : decode cX9_sit 11 = .ok (.aload_n 0, 1) := by decide +kernel
theorem dX9_sit_12 : decode cX9_sit 12 = .ok (.getfield 19, 3) := by decide +kernel
theorem dX9_sit_15 : decode cX9_sit 15 = .ok (.iload_n 2, 1) := by decide +kernel
theorem dX9_sit_16 : decode cX9_sit 16 = .ok (.invokevirtual 190, 3) := by decide +kernel
theorem dX9_sit_19 : decode cX9_sit 19 = .ok (.ifCond .ne 6, 3) := by decide +kernel
theorem dX9_sit_22 : decode cX9_sit 22 = .ok (.ldc 175, 2) := by decide +kernel
theorem dX9_sit_24 : decode cX9_sit 24 = .ok (.ireturn, 1) := by decide +kernel
theorem dX9_sit_25 : decode cX9_sit 25 = .ok (.aload_n 0, 1) := by decide +kernel
theorem dX9_sit_26 : decode cX9_sit 26 = .ok (.getfield 29, 3) := by decide +kernel
theorem dX9_sit_29 : decode cX9_sit 29 = .ok (.aload_n 0, 1) := by decide +kernel
theorem dX9_sit_30 : decode cX9_sit 30 = .ok (.getfield 19, 3) := by decide +kernel
theorem dX9_sit_33 : decode cX9_sit 33 = .ok (.iload_n 2, 1) := by decide +kernel
theorem dX9_sit_34 : decode cX9_sit 34 = .ok (.invokevirtual 202, 3) := by decide +kernel
theorem dX9_sit_37 : decode cX9_sit 37 = .ok (.iconst (-1), 1) := by decide +kernel
theorem dX9_sit_38 : decode cX9_sit 38 = .ok (.if_icmp .eq 6, 3) := by decide +kernel
theorem dX9_sit_41 : decode cX9_sit 41 = .ok (.ldc 245, 2) := by decide +kernel
theorem dX9_sit_43 : decode cX9_sit 43 = .ok (.ireturn, 1) := by decide +kernel
theorem dX9_sit_44 : decode cX9_sit 44 = .ok (.aload_n 0, 1) := by decide +kernel
theorem dX9_sit_45 : decode cX9_sit 45 = .ok (.getfield 39, 3) := by decide +kernel
theorem dX9_sit_48 : decode cX9_sit 48 = .ok (.aload_n 0, 1) := by decide +kernel
theorem dX9_sit_49 : decode cX9_sit 49 = .ok (.getfield 29, 3) := by decide +kernel
theorem dX9_sit_52 : decode cX9_sit 52 = .ok (.invokevirtual 238, 3) := by decide +kernel
theorem dX9_sit_55 : decode cX9_sit 55 = .ok (.aload_n 0, 1) := by decide +kernel
theorem dX9_sit_56 : decode cX9_sit 56 = .ok (.getfield 29, 3) := by decide +kernel
theorem dX9_sit_59 : decode cX9_sit 59 = .ok (.getfield 214, 3) := by decide +kernel
theorem dX9_sit_62 : decode cX9_sit 62 = .ok (.iload_n 1, 1) := by decide +kernel
theorem dX9_sit_63 : decode cX9_sit 63 = .ok (.iaload, 1) := by decide +kernel
theorem dX9_sit_64 : decode cX9_sit 64 = .ok (.istore_n 3, 1) := by decide +kernel
theorem dX9_sit_65 : decode cX9_sit 65 = .ok (.aload_n 0, 1) := by decide +kernel
theorem dX9_sit_66 : decode cX9_sit 66 = .ok (.getfield 29, 3) := by decide +kernel
theorem dX9_sit_69 : decode cX9_sit 69 = .ok (.getfield 214, 3) := by decide +kernel
theorem dX9_sit_72 : decode cX9_sit 72 = .ok (.iload_n 1, 1) := by decide +kernel
theorem dX9_sit_73 : decode cX9_sit 73 = .ok (.iload_n 2, 1) := by decide +kernel
theorem dX9_sit_74 : decode cX9_sit 74 = .ok (.iastore, 1) := by decide +kernel
theorem dX9_sit_75 : decode cX9_sit 75 = .ok (.iload_n 3, 1) := by decide +kernel
theorem dX9_sit_76 : decode cX9_sit 76 = .ok (.ireturn, 1) := by decide +kernel
theorem dX9_rest_0 : decode cX9_rest 0 = .ok (.aload_n 0, 1) := by decide +kernel
theorem dX9_rest_1 : decode cX9_rest 1 = .ok (.getfield 19, 3) := by decide +kernel
theorem dX9_rest_4 : decode cX9_rest 4 = .ok (.iload_n 1, 1) := by decide +kernel
theorem dX9_rest_5 : decode cX9_rest 5 = .ok (.invokevirtual 205, 3) := by decide +kernel
theorem dX9_rest_8 : decode cX9_rest 8 = .ok (.ifCond .ne 6, 3) := by decide +kernel
theorem dX9_rest_11 : decode cX9_rest 11 = .ok (.ldc 175, 2) := by decide +kernel
theorem dX9_rest_13 : decode cX9_rest 13 = .ok (.ireturn, 1) := by decide +kernel
theorem dX9_rest_14 : decode cX9_rest 14 = .ok (.aload_n 0, 1) := by decide +kernel
theorem dX9_rest_15 : decode cX9_rest 15 = .ok (.getfield 29, 3) := by decide +kernel
theorem dX9_rest_18 : decode cX9_rest 18 = .ok (.getfield 214, 3) := by decide +kernel
theorem dX9_rest_21 : decode cX9_rest 21 = .ok (.iload_n 1, 1) := by decide +kernel
theorem dX9_rest_22 : decode cX9_rest 22 = .ok (.iaload, 1) := by decide +kernel
theorem dX9_rest_23 : decode cX9_rest 23 = .ok (.istore_n 2, 1) := by decide +kernel
theorem dX9_rest_24 : decode cX9_rest 24 = .ok (.iload_n 2, 1) := by decide +kernel
theorem dX9_rest_25 : decode cX9_rest 25 = .ok (.iconst (-1), 1) := by decide +kernel
theorem dX9_rest_26 : decode cX9_rest 26 = .ok (.if_icmp .ne 6, 3) := by decide +kernel
theorem dX9_rest_29 : decode cX9_rest 29 = .ok (.ldc 245, 2) := by decide +kernel
theorem dX9_rest_31 : decode cX9_rest 31 = .ok (.ireturn, 1) := by decide +kernel
theorem dX9_rest_32 : decode cX9_rest 32 = .ok (.aload_n 0, 1) := by decide +kernel
theorem dX9_rest_33 : decode cX9_rest 33 = .ok (.getfield 39, 3) := by decide +kernel
theorem dX9_rest_36 : decode cX9_rest 36 = .ok (.aload_n 0, 1) := by decide +kernel
theorem dX9_rest_37 : decode cX9_rest 37 = .ok (.getfield 29, 3) := by decide +kernel
theorem dX9_rest_40 : decode cX9_rest 40 = .ok (.invokevirtual 238, 3) := by decide +kernel
theorem dX9_rest_43 : decode cX9_rest 43 = .ok (.aload_n 0, 1) := by decide +kernel
theorem dX9_rest_44 : decode cX9_rest 44 = .ok (.getfield 29, 3) := by decide +kernel
theorem dX9_rest_47 : decode cX9_rest 47 = .ok (.getfield 214, 3) := by decide +kernel
theorem dX9_rest_50 : decode cX9_rest 50 = .ok (.iload_n 1, 1) := by decide +kernel
theorem dX9_rest_51 : decode cX9_rest 51 = .ok (.iconst (-1), 1) := by decide +kernel
theorem dX9_rest_52 : decode cX9_rest 52 = .ok (.iastore, 1) := by decide +kernel
theorem dX9_rest_53 : decode cX9_rest 53 = .ok (.iload_n 2, 1) := by decide +kernel
theorem dX9_rest_54 : decode cX9_rest 54 = .ok (.ireturn, 1) := by decide +kernel
theorem dX9_sleep_0 : decode cX9_sleep 0 = .ok (.aload_n 0, 1) := by decide +kernel
theorem dX9_sleep_1 : decode cX9_sleep 1 = .ok (.getfield 19, 3) := by decide +kernel
theorem dX9_sleep_4 : decode cX9_sleep 4 = .ok (.iload_n 1, 1) := by decide +kernel
theorem dX9_sleep_5 : decode cX9_sleep 5 = .ok (.invokevirtual 205, 3) := by decide +kernel
theorem dX9_sleep_8 : decode cX9_sleep 8 = .ok (.ifCond .ne 6, 3) := by decide +kernel
theorem dX9_sleep_11 : decode cX9_sleep 11 = .ok (.ldc 175, 2) := by decide +kernel
theorem dX9_sleep_13 : decode cX9_sleep 13 = .ok (.ireturn, 1) := by decide +kernel
theorem dX9_sleep_14 : decode cX9_sleep 14 = .ok (.aload_n 0, 1) := by decide +kernel
theorem dX9_sleep_15 : decode cX9_sleep 15 = .ok (.getfield 39, 3) := by decide +kernel
theorem dX9_sleep_18 : decode cX9_sleep 18 = .ok (.aload_n 0, 1) := by decide +kernel
theorem dX9_sleep_19 : decode cX9_sleep 19 = .ok (.getfield 29, 3) := by decide +kernel
theorem dX9_sleep_22 : decode cX9_sleep 22 = .ok (.invokevirtual 238, 3) := by decide +kernel
theorem dX9_sleep_25 : decode cX9_sleep 25 = .ok (.aload_n 0, 1) := by decide +kernel
theorem dX9_sleep_26 : decode cX9_sleep 26 = .ok (.getfield 29, 3) := by decide +kernel
theorem dX9_sleep_29 : decode cX9_sleep 29 = .ok (.iload_n 1, 1) := by decide +kernel
theorem dX9_sleep_30 : decode cX9_sleep 30 = .ok (.invokevirtual 217, 3) := by decide +kernel
theorem dX9_sleep_33 : decode cX9_sleep 33 = .ok (.ifCond .eq 7, 3) := by decide +kernel
theorem dX9_sleep_36 : decode cX9_sleep 36 = .ok (.iconst 1, 1) := by decide +kernel
theorem dX9_sleep_37 : decode cX9_sleep 37 = .ok (.goto 4, 3) := by decide +kernel
theorem dX9_sleep_40 : decode cX9_sleep 40 = .ok (.iconst 0, 1) := by decide +kernel
theorem dX9_sleep_41 : decode cX9_sleep 41 = .ok (.istore_n 3, 1) := by decide +kernel
theorem dX9_sleep_42 : decode cX9_sleep 42 = .ok (.aload_n 0, 1) := by decide +kernel
theorem dX9_sleep_43 : decode cX9_sleep 43 = .ok (.getfield 29, 3) := by decide +kernel
theorem dX9_sleep_46 : decode cX9_sleep 46 = .ok (.iload_n 1, 1) := by decide +kernel
theorem dX9_sleep_47 : decode cX9_sleep 47 = .ok (.iload_n 2, 1) := by decide +kernel
theorem dX9_sleep_48 : decode cX9_sleep 48 = .ok (.invokevirtual 246, 3) := by decide +kernel
theorem dX9_sleep_51 : decode cX9_sleep 51 = .ok (.iload_n 3, 1) := by decide +kernel
theorem dX9_sleep_52 : decode cX9_sleep 52 = .ok (.ireturn, 1) := by decide +kernel
theorem dX9_turn_0 : decode cX9_turn 0 = .ok (.aload_n 0, 1) := by decide +kernel
theorem dX9_turn_1 : decode cX9_turn 1 = .ok (.getfield 19, 3) := by decide +kernel
theorem dX9_turn_4 : decode cX9_turn 4 = .ok (.iload_n 1, 1) := by decide +kernel
theorem dX9_turn_5 : decode cX9_turn 5 = .ok (.invokevirtual 190, 3) := by decide +kernel
theorem dX9_turn_8 : decode cX9_turn 8 = .ok (.ifCond .ne 6, 3) := by decide +kernel
theorem dX9_turn_11 : decode cX9_turn 11 = .ok (.ldc 175, 2) := by decide +kernel
theorem dX9_turn_13 : decode cX9_turn 13 = .ok (.ireturn, 1) := by decide +kernel
theorem dX9_turn_14 : decode cX9_turn 14 = .ok (.iload_n 2, 1) := by decide +kernel
theorem dX9_turn_15 : decode cX9_turn 15 = .ok (.iconst 0, 1) := by decide +kernel
theorem dX9_turn_16 : decode cX9_turn 16 = .ok (.bipush 99, 2) := by decide +kernel
theorem dX9_turn_18 : decode cX9_turn 18 = .ok (.invokestatic 82, 3) := by decide +kernel
theorem dX9_turn_21 : decode cX9_turn 21 = .ok (.ifCond .ne 6, 3) := by decide +kernel
theorem dX9_turn_24 : decode cX9_turn 24 = .ok (.ldc 86, 2) := by decide +kernel
theorem dX9_turn_26 : decode cX9_turn 26 = .ok (.ireturn, 1) := by decide +kernel
theorem dX9_turn_27 : decode cX9_turn 27 = .ok (.aload_n 0, 1) := by decide +kernel
theorem dX9_turn_28 : decode cX9_turn 28 = .ok (.getfield 39, 3) := by decide +kernel
theorem dX9_turn_31 : decode cX9_turn 31 = .ok (.aload_n 0, 1) := by decide +kernel
theorem dX9_turn_32 : decode cX9_turn 32 = .ok (.getfield 29, 3) := by decide +kernel
theorem dX9_turn_35 : decode cX9_turn 35 = .ok (.invokevirtual 238, 3) := by decide +kernel
theorem dX9_turn_38 : decode cX9_turn 38 = .ok (.aload_n 0, 1) := by decide +kernel
theorem dX9_turn_39 : decode cX9_turn 39 = .ok (.getfield 29, 3) := by decide +kernel
theorem dX9_turn_42 : decode cX9_turn 42 = .ok (.getfield 199, 3) := by decide +kernel
theorem dX9_turn_45 : decode cX9_turn 45 = .ok (.iload_n 1, 1) := by decide +kernel
theorem dX9_turn_46 : decode cX9_turn 46 = .ok (.iaload, 1) := by decide +kernel
theorem dX9_turn_47 : decode cX9_turn 47 = .ok (.istore_n 3, 1) := by decide +kernel
theorem dX9_turn_48 : decode cX9_turn 48 = .ok (.aload_n 0, 1) := by decide +kernel
theorem dX9_turn_49 : decode cX9_turn 49 = .ok (.getfield 29, 3) := by decide +kernel
theorem dX9_turn_52 : decode cX9_turn 52 = .ok (.getfield 199, 3) := by decide +kernel
theorem dX9_turn_55 : decode cX9_turn 55 = .ok (.iload_n 1, 1) := by decide +kernel
theorem dX9_turn_56 : decode cX9_turn 56 = .ok (.iload_n 2, 1) := by decide +kernel
theorem dX9_turn_57 : decode cX9_turn 57 = .ok (.iastore, 1) := by decide +kernel
theorem dX9_turn_58 : decode cX9_turn 58 = .ok (.iload_n 3, 1) := by decide +kernel
theorem dX9_turn_59 : decode cX9_turn 59 = .ok (.ireturn, 1) := by decide +kernel
theorem dX9_send_0 : decode cX9_send 0 = .ok (.aload_n 0, 1) := by decide +kernel
theorem dX9_send_1 : decode cX9_send 1 = .ok (.getfield 19, 3) := by decide +kernel
theorem dX9_send_4 : decode cX9_send 4 = .ok (.iload_n 1, 1) := by decide +kernel
theorem dX9_send_5 : decode cX9_send 5 = .ok (.invokevirtual 220, 3) := by decide +kernel
theorem dX9_send_8 : decode cX9_send 8 = .ok (.ifCond .ne 6, 3) := by decide +kernel
theorem dX9_send_11 : decode cX9_send 11 = .ok (.ldc 175, 2) := by decide +kernel
theorem dX9_send_13 : decode cX9_send 13 = .ok (.ireturn, 1) := by decide +kernel
theorem dX9_send_14 : decode cX9_send 14 = .ok (.aload_n 0, 1) := by decide +kernel
theorem dX9_send_15 : decode cX9_send 15 = .ok (.getfield 39, 3) := by decide +kernel
theorem dX9_send_18 : decode cX9_send 18 = .ok (.aload_n 0, 1) := by decide +kernel
theorem dX9_send_19 : decode cX9_send 19 = .ok (.getfield 29, 3) := by decide +kernel
theorem dX9_send_22 : decode cX9_send 22 = .ok (.invokevirtual 238, 3) := by decide +kernel
theorem dX9_send_25 : decode cX9_send 25 = .ok (.aload_n 0, 1) := by decide +kernel
theorem dX9_send_26 : decode cX9_send 26 = .ok (.getfield 29, 3) := by decide +kernel
theorem dX9_send_29 : decode cX9_send 29 = .ok (.getfield 226, 3) := by decide +kernel
theorem dX9_send_32 : decode cX9_send 32 = .ok (.iload_n 1, 1) := by decide +kernel
theorem dX9_send_33 : decode cX9_send 33 = .ok (.iaload, 1) := by decide +kernel
theorem dX9_send_34 : decode cX9_send 34 = .ok (.istore_n 2, 1) := by decide +kernel
theorem dX9_send_35 : decode cX9_send 35 = .ok (.aload_n 0, 1) := by decide +kernel
theorem dX9_send_36 : decode cX9_send 36 = .ok (.getfield 29, 3) := by decide +kernel
theorem dX9_send_39 : decode cX9_send 39 = .ok (.getfield 226, 3) := by decide +kernel
theorem dX9_send_42 : decode cX9_send 42 = .ok (.iload_n 1, 1) := by decide +kernel
theorem dX9_send_43 : decode cX9_send 43 = .ok (.aload_n 0, 1) := by decide +kernel
theorem dX9_send_44 : decode cX9_send 44 = .ok (.getfield 19, 3) := by decide +kernel
theorem dX9_send_47 : decode cX9_send 47 = .ok (.getfield 229, 3) := by decide +kernel
theorem dX9_send_50 : decode cX9_send 50 = .ok (.iload_n 1, 1) := by decide +kernel
theorem dX9_send_51 : decode cX9_send 51 = .ok (.iaload, 1) := by decide +kernel
theorem dX9_send_52 : decode cX9_send 52 = .ok (.iastore, 1) := by decide +kernel
theorem dX9_send_53 : decode cX9_send 53 = .ok (.iload_n 2, 1) := by decide +kernel
theorem dX9_send_54 : decode cX9_send 54 = .ok (.ireturn, 1) := by decide +kernel
theorem dX9_drift_0 : decode cX9_drift 0 = .ok (.aload_n 0, 1) := by decide +kernel
theorem dX9_drift_1 : decode cX9_drift 1 = .ok (.iload_n 1, 1) := by decide +kernel
theorem dX9_drift_2 : decode cX9_drift 2 = .ok (.invokevirtual 235, 3) := by decide +kernel
theorem dX9_drift_5 : decode cX9_drift 5 = .ok (.istore_n 2, 1) := by decide +kernel
theorem dX9_drift_6 : decode cX9_drift 6 = .ok (.iload_n 2, 1) := by decide +kernel
theorem dX9_drift_7 : decode cX9_drift 7 = .ok (.ifCond .eq 5, 3) := by decide +kernel
theorem dX9_drift_10 : decode cX9_drift 10 = .ok (.iload_n 2, 1) := by decide +kernel
theorem dX9_drift_11 : decode cX9_drift 11 = .ok (.ireturn, 1) := by decide +kernel
theorem dX9_drift_12 : decode cX9_drift 12 = .ok (.aload_n 0, 1) := by decide +kernel
theorem dX9_drift_13 : decode cX9_drift 13 = .ok (.getfield 39, 3) := by decide +kernel
theorem dX9_drift_16 : decode cX9_drift 16 = .ok (.aload_n 0, 1) := by decide +kernel
theorem dX9_drift_17 : decode cX9_drift 17 = .ok (.getfield 29, 3) := by decide +kernel
theorem dX9_drift_20 : decode cX9_drift 20 = .ok (.invokevirtual 238, 3) := by decide +kernel
theorem dX9_drift_23 : decode cX9_drift 23 = .ok (.iconst 0, 1) := by decide +kernel
theorem dX9_drift_24 : decode cX9_drift 24 = .ok (.istore_n 3, 1) := by decide +kernel
theorem dX9_drift_25 : decode cX9_drift 25 = .ok (.iload_n 3, 1) := by decide +kernel
theorem dX9_drift_26 : decode cX9_drift 26 = .ok (.iload_n 1, 1) := by decide +kernel
theorem dX9_drift_27 : decode cX9_drift 27 = .ok (.if_icmp .ge 35, 3) := by decide +kernel
theorem dX9_drift_30 : decode cX9_drift 30 = .ok (.aload_n 0, 1) := by decide +kernel
theorem dX9_drift_31 : decode cX9_drift 31 = .ok (.getfield 52, 3) := by decide +kernel
theorem dX9_drift_34 : decode cX9_drift 34 = .ok (.aload_n 0, 1) := by decide +kernel
theorem dX9_drift_35 : decode cX9_drift 35 = .ok (.getfield 19, 3) := by decide +kernel
theorem dX9_drift_38 : decode cX9_drift 38 = .ok (.aload_n 0, 1) := by decide +kernel
theorem dX9_drift_39 : decode cX9_drift 39 = .ok (.getfield 29, 3) := by decide +kernel
theorem dX9_drift_42 : decode cX9_drift 42 = .ok (.invokevirtual 250, 3) := by decide +kernel
theorem dX9_drift_45 : decode cX9_drift 45 = .ok (.aload_n 0, 1) := by decide +kernel
theorem dX9_drift_46 : decode cX9_drift 46 = .ok (.getfield 29, 3) := by decide +kernel
theorem dX9_drift_49 : decode cX9_drift 49 = .ok (.aload_n 0, 1) := by decide +kernel
theorem dX9_drift_50 : decode cX9_drift 50 = .ok (.getfield 19, 3) := by decide +kernel
theorem dX9_drift_53 : decode cX9_drift 53 = .ok (.invokevirtual 242, 3) := by decide +kernel
theorem dX9_drift_56 : decode cX9_drift 56 = .ok (.iinc 3 1, 3) := by decide +kernel
theorem dX9_drift_59 : decode cX9_drift 59 = .ok (.goto (-34), 3) := by decide +kernel
theorem dX9_drift_62 : decode cX9_drift 62 = .ok (.aload_n 0, 1) := by decide +kernel
theorem dX9_drift_63 : decode cX9_drift 63 = .ok (.getfield 29, 3) := by decide +kernel
theorem dX9_drift_66 : decode cX9_drift 66 = .ok (.getfield 128, 3) := by decide +kernel
theorem dX9_drift_69 : decode cX9_drift 69 = .ok (.ireturn, 1) := by decide +kernel
theorem dX9_undo_0 : decode cX9_undo 0 = .ok (.aload_n 0, 1) := by decide +kernel
theorem dX9_undo_1 : decode cX9_undo 1 = .ok (.getfield 39, 3) := by decide +kernel
theorem dX9_undo_4 : decode cX9_undo 4 = .ok (.getfield 168, 3) := by decide +kernel
theorem dX9_undo_7 : decode cX9_undo 7 = .ok (.ifCond .ne 6, 3) := by decide +kernel
theorem dX9_undo_10 : decode cX9_undo 10 = .ok (.ldc 245, 2) := by decide +kernel
theorem dX9_undo_12 : decode cX9_undo 12 = .ok (.ireturn, 1) := by decide +kernel
theorem dX9_undo_13 : decode cX9_undo 13 = .ok (.aload_n 0, 1) := by decide +kernel
theorem dX9_undo_14 : decode cX9_undo 14 = .ok (.getfield 39, 3) := by decide +kernel
theorem dX9_undo_17 : decode cX9_undo 17 = .ok (.aload_n 0, 1) := by decide +kernel
theorem dX9_undo_18 : decode cX9_undo 18 = .ok (.getfield 29, 3) := by decide +kernel
theorem dX9_undo_21 : decode cX9_undo 21 = .ok (.invokevirtual 254, 3) := by decide +kernel
theorem dX9_undo_24 : decode cX9_undo 24 = .ok (.aload_n 0, 1) := by decide +kernel
theorem dX9_undo_25 : decode cX9_undo 25 = .ok (.getfield 39, 3) := by decide +kernel
theorem dX9_undo_28 : decode cX9_undo 28 = .ok (.getfield 168, 3) := by decide +kernel
theorem dX9_undo_31 : decode cX9_undo 31 = .ok (.ireturn, 1) := by decide +kernel
theorem dX9_sea_0 : decode cX9_sea 0 = .ok (.aload_n 0, 1) := by decide +kernel
theorem dX9_sea_1 : decode cX9_sea 1 = .ok (.getfield 19, 3) := by decide +kernel
theorem dX9_sea_4 : decode cX9_sea 4 = .ok (.iload_n 1, 1) := by decide +kernel
theorem dX9_sea_5 : decode cX9_sea 5 = .ok (.invokevirtual 171, 3) := by decide +kernel
theorem dX9_sea_8 : decode cX9_sea 8 = .ok (.ifCond .ne 6, 3) := by decide +kernel
theorem dX9_sea_11 : decode cX9_sea 11 = .ok (.ldc 175, 2) := by decide +kernel
theorem dX9_sea_13 : decode cX9_sea 13 = .ok (.ireturn, 1) := by decide +kernel
theorem dX9_sea_14 : decode cX9_sea 14 = .ok (.iload_n 2, 1) := by decide +kernel
theorem dX9_sea_15 : decode cX9_sea 15 = .ok (.iconst 0, 1) := by decide +kernel
theorem dX9_sea_16 : decode cX9_sea 16 = .ok (.bipush 100, 2) := by decide +kernel
theorem dX9_sea_18 : decode cX9_sea 18 = .ok (.invokestatic 82, 3) := by decide +kernel
theorem dX9_sea_21 : decode cX9_sea 21 = .ok (.ifCond .eq 12, 3) := by decide +kernel
theorem dX9_sea_24 : decode cX9_sea 24 = .ok (.iload_n 3, 1) := by decide +kernel
theorem dX9_sea_25 : decode cX9_sea 25 = .ok (.iconst 0, 1) := by decide +kernel
theorem dX9_sea_26 : decode cX9_sea 26 = .ok (.iconst 1, 1) := by decide +kernel
theorem dX9_sea_27 : decode cX9_sea 27 = .ok (.invokestatic 82, 3) := by decide +kernel
theorem dX9_sea_30 : decode cX9_sea 30 = .ok (.ifCond .ne 6, 3) := by decide +kernel
theorem dX9_sea_33 : decode cX9_sea 33 = .ok (.ldc 86, 2) := by decide +kernel
theorem dX9_sea_35 : decode cX9_sea 35 = .ok (.ireturn, 1) := by decide +kernel
theorem dX9_sea_36 : decode cX9_sea 36 = .ok (.aload_n 0, 1) := by decide +kernel
theorem dX9_sea_37 : decode cX9_sea 37 = .ok (.getfield 33, 3) := by decide +kernel
theorem dX9_sea_40 : decode cX9_sea 40 = .ok (.aload_n 0, 1) := by decide +kernel
theorem dX9_sea_41 : decode cX9_sea 41 = .ok (.getfield 29, 3) := by decide +kernel
theorem dX9_sea_44 : decode cX9_sea 44 = .ok (.invokevirtual 257, 3) := by decide +kernel
theorem dX9_sea_47 : decode cX9_sea 47 = .ok (.iconst 0, 1) := by decide +kernel
theorem dX9_sea_48 : decode cX9_sea 48 = .ok (.istore 4, 2) := by decide +kernel
theorem dX9_sea_50 : decode cX9_sea 50 = .ok (.iload 4, 2) := by decide +kernel
theorem dX9_sea_52 : decode cX9_sea 52 = .ok (.iload_n 2, 1) := by decide +kernel
theorem dX9_sea_53 : decode cX9_sea 53 = .ok (.if_icmp .ge 20, 3) := by decide +kernel
theorem dX9_sea_56 : decode cX9_sea 56 = .ok (.aload_n 0, 1) := by decide +kernel
theorem dX9_sea_57 : decode cX9_sea 57 = .ok (.getfield 33, 3) := by decide +kernel
theorem dX9_sea_60 : decode cX9_sea 60 = .ok (.aload_n 0, 1) := by decide +kernel
theorem dX9_sea_61 : decode cX9_sea 61 = .ok (.getfield 19, 3) := by decide +kernel
theorem dX9_sea_64 : decode cX9_sea 64 = .ok (.invokevirtual 260, 3) := by decide +kernel
theorem dX9_sea_67 : decode cX9_sea 67 = .ok (.iinc 4 1, 3) := by decide +kernel
theorem dX9_sea_70 : decode cX9_sea 70 = .ok (.goto (-20), 3) := by decide +kernel
theorem dX9_sea_73 : decode cX9_sea 73 = .ok (.iload_n 3, 1) := by decide +kernel
theorem dX9_sea_74 : decode cX9_sea 74 = .ok (.ifCond .ne 18, 3) := by decide +kernel
theorem dX9_sea_77 : decode cX9_sea 77 = .ok (.aload_n 0, 1) := by decide +kernel
theorem dX9_sea_78 : decode cX9_sea 78 = .ok (.getfield 33, 3) := by decide +kernel
theorem dX9_sea_81 : decode cX9_sea 81 = .ok (.aload_n 0, 1) := by decide +kernel
theorem dX9_sea_82 : decode cX9_sea 82 = .ok (.getfield 19, 3) := by decide +kernel
theorem dX9_sea_85 : decode cX9_sea 85 = .ok (.iload_n 1, 1) := by decide +kernel
theorem dX9_sea_86 : decode cX9_sea 86 = .ok (.invokevirtual 180, 3) := by decide +kernel
theorem dX9_sea_89 : decode cX9_sea 89 = .ok (.goto 15, 3) := by decide +kernel
theorem dX9_sea_92 : decode cX9_sea 92 = .ok (.aload_n 0, 1) := by decide +kernel
theorem dX9_sea_93 : decode cX9_sea 93 = .ok (.getfield 33, 3) := by decide +kernel
theorem dX9_sea_96 : decode cX9_sea 96 = .ok (.aload_n 0, 1) := by decide +kernel
theorem dX9_sea_97 : decode cX9_sea 97 = .ok (.getfield 19, 3) := by decide +kernel
theorem dX9_sea_100 : decode cX9_sea 100 = .ok (.iload_n 1, 1) := by decide +kernel
theorem dX9_sea_101 : decode cX9_sea 101 = .ok (.invokevirtual 184, 3) := by decide +kernel
theorem dX9_sea_104 : decode cX9_sea 104 = .ok (.ireturn, 1) := by decide +kernel
theorem dX9_deepest_0 : decode cX9_deepest 0 = .ok (.aload_n 0, 1) := by decide +kernel
theorem dX9_deepest_1 : decode cX9_deepest 1 = .ok (.getfield 19, 3) := by decide +kernel
theorem dX9_deepest_4 : decode cX9_deepest 4 = .ok (.iload_n 1, 1) := by decide +kernel
theorem dX9_deepest_5 : decode cX9_deepest 5 = .ok (.invokevirtual 171, 3) := by decide +kernel
theorem dX9_deepest_8 : decode cX9_deepest 8 = .ok (.ifCond .ne 6, 3) := by decide +kernel
theorem dX9_deepest_11 : decode cX9_deepest 11 = .ok (.ldc 175, 2) := by decide +kernel
theorem dX9_deepest_13 : decode cX9_deepest 13 = .ok (.ireturn, 1) := by decide +kernel
theorem dX9_deepest_14 : decode cX9_deepest 14 = .ok (.iload_n 2, 1) := by decide +kernel
theorem dX9_deepest_15 : decode cX9_deepest 15 = .ok (.iconst 0, 1) := by decide +kernel
theorem dX9_deepest_16 : decode cX9_deepest 16 = .ok (.bipush 100, 2) := by decide +kernel
theorem dX9_deepest_18 : decode cX9_deepest 18 = .ok (.invokestatic 82, 3) := by decide +kernel
theorem dX9_deepest_21 : decode cX9_deepest 21 = .ok (.ifCond .eq 12, 3) := by decide +kernel
theorem dX9_deepest_24 : decode cX9_deepest 24 = .ok (.iload_n 3, 1) := by decide +kernel
theorem dX9_deepest_25 : decode cX9_deepest 25 = .ok (.iconst 0, 1) := by decide +kernel
theorem dX9_deepest_26 : decode cX9_deepest 26 = .ok (.iconst 1, 1) := by decide +kernel
theorem dX9_deepest_27 : decode cX9_deepest 27 = .ok (.invokestatic 82, 3) := by decide +kernel
theorem dX9_deepest_30 : decode cX9_deepest 30 = .ok (.ifCond .ne 6, 3) := by decide +kernel
theorem dX9_deepest_33 : decode cX9_deepest 33 = .ok (.ldc 86, 2) := by decide +kernel
theorem dX9_deepest_35 : decode cX9_deepest 35 = .ok (.ireturn, 1) := by decide +kernel
theorem dX9_deepest_36 : decode cX9_deepest 36 = .ok (.aload_n 0, 1) := by decide +kernel
theorem dX9_deepest_37 : decode cX9_deepest 37 = .ok (.getfield 33, 3) := by decide +kernel
theorem dX9_deepest_40 : decode cX9_deepest 40 = .ok (.aload_n 0, 1) := by decide +kernel
theorem dX9_deepest_41 : decode cX9_deepest 41 = .ok (.getfield 29, 3) := by decide +kernel
theorem dX9_deepest_44 : decode cX9_deepest 44 = .ok (.invokevirtual 257, 3) := by decide +kernel
theorem dX9_deepest_47 : decode cX9_deepest 47 = .ok (.iconst 0, 1) := by decide +kernel
theorem dX9_deepest_48 : decode cX9_deepest 48 = .ok (.istore 4, 2) := by decide +kernel
theorem dX9_deepest_50 : decode cX9_deepest 50 = .ok (.aload_n 0, 1) := by decide +kernel
theorem dX9_deepest_51 : decode cX9_deepest 51 = .ok (.getfield 33, 3) := by decide +kernel
theorem dX9_deepest_54 : decode cX9_deepest 54 = .ok (.aload_n 0, 1) := by decide +kernel
theorem dX9_deepest_55 : decode cX9_deepest 55 = .ok (.getfield 19, 3) := by decide +kernel
theorem dX9_deepest_58 : decode cX9_deepest 58 = .ok (.iload_n 1, 1) := by decide +kernel
theorem dX9_deepest_59 : decode cX9_deepest 59 = .ok (.invokevirtual 184, 3) := by decide +kernel
theorem dX9_deepest_62 : decode cX9_deepest 62 = .ok (.istore 5, 2) := by decide +kernel
theorem dX9_deepest_64 : decode cX9_deepest 64 = .ok (.iconst 1, 1) := by decide +kernel
theorem dX9_deepest_65 : decode cX9_deepest 65 = .ok (.istore 6, 2) := by decide +kernel
theorem dX9_deepest_67 : decode cX9_deepest 67 = .ok (.iload 6, 2) := by decide +kernel
theorem dX9_deepest_69 : decode cX9_deepest 69 = .ok (.iload_n 2, 1) := by decide +kernel
theorem dX9_deepest_70 : decode cX9_deepest 70 = .ok (.if_icmp .gt 49, 3) := by decide +kernel
theorem dX9_deepest_73 : decode cX9_deepest 73 = .ok (.aload_n 0, 1) := by decide +kernel
theorem dX9_deepest_74 : decode cX9_deepest 74 = .ok (.getfield 33, 3) := by decide +kernel
theorem dX9_deepest_77 : decode cX9_deepest 77 = .ok (.aload_n 0, 1) := by decide +kernel
theorem dX9_deepest_78 : decode cX9_deepest 78 = .ok (.getfield 19, 3) := by decide +kernel
theorem dX9_deepest_81 : decode cX9_deepest 81 = .ok (.invokevirtual 260, 3) := by decide +kernel
theorem dX9_deepest_84 : decode cX9_deepest 84 = .ok (.aload_n 0, 1) := by decide +kernel
theorem dX9_deepest_85 : decode cX9_deepest 85 = .ok (.getfield 33, 3) := by decide +kernel
theorem dX9_deepest_88 : decode cX9_deepest 88 = .ok (.aload_n 0, 1) := by decide +kernel
theorem dX9_deepest_89 : decode cX9_deepest 89 = .ok (.getfield 19, 3) := by decide +kernel
theorem dX9_deepest_92 : decode cX9_deepest 92 = .ok (.iload_n 1, 1) := by decide +kernel
theorem dX9_deepest_93 : decode cX9_deepest 93 = .ok (.invokevirtual 184, 3) := by decide +kernel
theorem dX9_deepest_96 : decode cX9_deepest 96 = .ok (.istore 7, 2) := by decide +kernel
theorem dX9_deepest_98 : decode cX9_deepest 98 = .ok (.iload 7, 2) := by decide +kernel
theorem dX9_deepest_100 : decode cX9_deepest 100 = .ok (.iload 5, 2) := by decide +kernel
theorem dX9_deepest_102 : decode cX9_deepest 102 = .ok (.if_icmp .le 11, 3) := by decide +kernel
theorem dX9_deepest_105 : decode cX9_deepest 105 = .ok (.iload 7, 2) := by decide +kernel
theorem dX9_deepest_107 : decode cX9_deepest 107 = .ok (.istore 5, 2) := by decide +kernel
theorem dX9_deepest_109 : decode cX9_deepest 109 = .ok (.iload 6, 2) := by decide +kernel
theorem dX9_deepest_111 : decode cX9_deepest 111 = .ok (.istore 4, 2) := by decide +kernel
theorem dX9_deepest_113 : decode cX9_deepest 113 = .ok (.iinc 6 1, 3) := by decide +kernel
theorem dX9_deepest_116 : decode cX9_deepest 116 = .ok (.goto (-49), 3) := by decide +kernel
theorem dX9_deepest_119 : decode cX9_deepest 119 = .ok (.iload_n 3, 1) := by decide +kernel
theorem dX9_deepest_120 : decode cX9_deepest 120 = .ok (.ifCond .ne 8, 3) := by decide +kernel
theorem dX9_deepest_123 : decode cX9_deepest 123 = .ok (.iload 4, 2) := by decide +kernel
theorem dX9_deepest_125 : decode cX9_deepest 125 = .ok (.goto 5, 3) := by decide +kernel
theorem dX9_deepest_128 : decode cX9_deepest 128 = .ok (.iload 5, 2) := by decide +kernel
theorem dX9_deepest_130 : decode cX9_deepest 130 = .ok (.ireturn, 1) := by decide +kernel
theorem dX9_comes_0 : decode cX9_comes 0 = .ok (.aload_n 0, 1) := by decide +kernel
theorem dX9_comes_1 : decode cX9_comes 1 = .ok (.getfield 19, 3) := by decide +kernel
theorem dX9_comes_4 : decode cX9_comes 4 = .ok (.iload_n 1, 1) := by decide +kernel
theorem dX9_comes_5 : decode cX9_comes 5 = .ok (.invokevirtual 220, 3) := by decide +kernel
theorem dX9_comes_8 : decode cX9_comes 8 = .ok (.ifCond .ne 6, 3) := by decide +kernel
theorem dX9_comes_11 : decode cX9_comes 11 = .ok (.ldc 175, 2) := by decide +kernel
theorem dX9_comes_13 : decode cX9_comes 13 = .ok (.ireturn, 1) := by decide +kernel
theorem dX9_comes_14 : decode cX9_comes 14 = .ok (.aload_n 0, 1) := by decide +kernel
theorem dX9_comes_15 : decode cX9_comes 15 = .ok (.getfield 33, 3) := by decide +kernel
theorem dX9_comes_18 : decode cX9_comes 18 = .ok (.aload_n 0, 1) := by decide +kernel
theorem dX9_comes_19 : decode cX9_comes 19 = .ok (.getfield 29, 3) := by decide +kernel
theorem dX9_comes_22 : decode cX9_comes 22 = .ok (.invokevirtual 257, 3) := by decide +kernel
theorem dX9_comes_25 : decode cX9_comes 25 = .ok (.iconst 0, 1) := by decide +kernel
theorem dX9_comes_26 : decode cX9_comes 26 = .ok (.istore_n 2, 1) := by decide +kernel
theorem dX9_comes_27 : decode cX9_comes 27 = .ok (.iload_n 2, 1) := by decide +kernel
theorem dX9_comes_28 : decode cX9_comes 28 = .ok (.sipush 200, 3) := by decide +kernel
theorem dX9_comes_31 : decode cX9_comes 31 = .ok (.if_icmp .gt 55, 3) := by decide +kernel
theorem dX9_comes_34 : decode cX9_comes 34 = .ok (.aload_n 0, 1) := by decide +kernel
theorem dX9_comes_35 : decode cX9_comes 35 = .ok (.getfield 33, 3) := by decide +kernel
theorem dX9_comes_38 : decode cX9_comes 38 = .ok (.getfield 226, 3) := by decide +kernel
theorem dX9_comes_41 : decode cX9_comes 41 = .ok (.iload_n 1, 1) := by decide +kernel
theorem dX9_comes_42 : decode cX9_comes 42 = .ok (.iaload, 1) := by decide +kernel
theorem dX9_comes_43 : decode cX9_comes 43 = .ok (.aload_n 0, 1) := by decide +kernel
theorem dX9_comes_44 : decode cX9_comes 44 = .ok (.getfield 19, 3) := by decide +kernel
theorem dX9_comes_47 : decode cX9_comes 47 = .ok (.getfield 232, 3) := by decide +kernel
theorem dX9_comes_50 : decode cX9_comes 50 = .ok (.iload_n 1, 1) := by decide +kernel
theorem dX9_comes_51 : decode cX9_comes 51 = .ok (.iaload, 1) := by decide +kernel
theorem dX9_comes_52 : decode cX9_comes 52 = .ok (.if_icmp .ne 5, 3) := by decide +kernel
theorem dX9_comes_55 : decode cX9_comes 55 = .ok (.iload_n 2, 1) := by decide +kernel
theorem dX9_comes_56 : decode cX9_comes 56 = .ok (.ireturn, 1) := by decide +kernel
theorem dX9_comes_57 : decode cX9_comes 57 = .ok (.aload_n 0, 1) := by decide +kernel
theorem dX9_comes_58 : decode cX9_comes 58 = .ok (.getfield 33, 3) := by decide +kernel
theorem dX9_comes_61 : decode cX9_comes 61 = .ok (.aload_n 0, 1) := by decide +kernel
theorem dX9_comes_62 : decode cX9_comes 62 = .ok (.getfield 19, 3) := by decide +kernel
theorem dX9_comes_65 : decode cX9_comes 65 = .ok (.invokevirtual 260, 3) := by decide +kernel
theorem dX9_comes_68 : decode cX9_comes 68 = .ok (.aload_n 0, 1) := by decide +kernel
theorem dX9_comes_69 : decode cX9_comes 69 = .ok (.getfield 33, 3) := by decide +kernel
theorem dX9_comes_72 : decode cX9_comes 72 = .ok (.aload_n 0, 1) := by decide +kernel
theorem dX9_comes_73 : decode cX9_comes 73 = .ok (.getfield 19, 3) := by decide +kernel
theorem dX9_comes_76 : decode cX9_comes 76 = .ok (.iload_n 1, 1) := by decide +kernel
theorem dX9_comes_77 : decode cX9_comes 77 = .ok (.invokevirtual 263, 3) := by decide +kernel
theorem dX9_comes_80 : decode cX9_comes 80 = .ok (.iinc 2 1, 3) := by decide +kernel
theorem dX9_comes_83 : decode cX9_comes 83 = .ok (.goto (-56), 3) := by decide +kernel
theorem dX9_comes_86 : decode cX9_comes 86 = .ok (.iconst (-1), 1) := by decide +kernel
theorem dX9_comes_87 : decode cX9_comes 87 = .ok (.ireturn, 1) := by decide +kernel
theorem dX9_seats_0 : decode cX9_seats 0 = .ok (.aload_n 0, 1) := by decide +kernel
theorem dX9_seats_1 : decode cX9_seats 1 = .ok (.getfield 19, 3) := by decide +kernel
theorem dX9_seats_4 : decode cX9_seats 4 = .ok (.iload_n 1, 1) := by decide +kernel
theorem dX9_seats_5 : decode cX9_seats 5 = .ok (.invokevirtual 171, 3) := by decide +kernel
theorem dX9_seats_8 : decode cX9_seats 8 = .ok (.ifCond .eq 21, 3) := by decide +kernel
theorem dX9_seats_11 : decode cX9_seats 11 = .ok (.iload 4, 2) := by decide +kernel
theorem dX9_seats_13 : decode cX9_seats 13 = .ok (.iconst (-1), 1) := by decide +kernel
theorem dX9_seats_14 : decode cX9_seats 14 = .ok (.if_icmp .eq 18, 3) := by decide +kernel
theorem dX9_seats_17 : decode cX9_seats 17 = .ok (.aload_n 0, 1) := by decide +kernel
theorem dX9_seats_18 : decode cX9_seats 18 = .ok (.getfield 19, 3) := by decide +kernel
theorem dX9_seats_21 : decode cX9_seats 21 = .ok (.iload 4, 2) := by decide +kernel
theorem dX9_seats_23 : decode cX9_seats 23 = .ok (.invokevirtual 205, 3) := by decide +kernel
theorem dX9_seats_26 : decode cX9_seats 26 = .ok (.ifCond .ne 6, 3) := by decide +kernel
theorem dX9_seats_29 : decode cX9_seats 29 = .ok (.ldc 175, 2) := by decide +kernel
theorem dX9_seats_31 : decode cX9_seats 31 = .ok (.ireturn, 1) := by decide +kernel
theorem dX9_seats_32 : decode cX9_seats 32 = .ok (.iload_n 2, 1) := by decide +kernel
theorem dX9_seats_33 : decode cX9_seats 33 = .ok (.iconst 0, 1) := by decide +kernel
theorem dX9_seats_34 : decode cX9_seats 34 = .ok (.bipush 99, 2) := by decide +kernel
theorem dX9_seats_36 : decode cX9_seats 36 = .ok (.invokestatic 82, 3) := by decide +kernel
theorem dX9_seats_39 : decode cX9_seats 39 = .ok (.ifCond .eq 13, 3) := by decide +kernel
theorem dX9_seats_42 : decode cX9_seats 42 = .ok (.iload_n 3, 1) := by decide +kernel
theorem dX9_seats_43 : decode cX9_seats 43 = .ok (.iconst 1, 1) := by decide +kernel
theorem dX9_seats_44 : decode cX9_seats 44 = .ok (.bipush 20, 2) := by decide +kernel
theorem dX9_seats_46 : decode cX9_seats 46 = .ok (.invokestatic 82, 3) := by decide +kernel
theorem dX9_seats_49 : decode cX9_seats 49 = .ok (.ifCond .ne 6, 3) := by decide +kernel
theorem dX9_seats_52 : decode cX9_seats 52 = .ok (.ldc 86, 2) := by decide +kernel
theorem dX9_seats_54 : decode cX9_seats 54 = .ok (.ireturn, 1) := by decide +kernel
theorem dX9_seats_55 : decode cX9_seats 55 = .ok (.aload_n 0, 1) := by decide +kernel
theorem dX9_seats_56 : decode cX9_seats 56 = .ok (.getfield 66, 3) := by decide +kernel
theorem dX9_seats_59 : decode cX9_seats 59 = .ok (.aload_n 0, 1) := by decide +kernel
theorem dX9_seats_60 : decode cX9_seats 60 = .ok (.getfield 19, 3) := by decide +kernel
theorem dX9_seats_63 : decode cX9_seats 63 = .ok (.aload_n 0, 1) := by decide +kernel
theorem dX9_seats_64 : decode cX9_seats 64 = .ok (.getfield 29, 3) := by decide +kernel
theorem dX9_seats_67 : decode cX9_seats 67 = .ok (.iload_n 1, 1) := by decide +kernel
theorem dX9_seats_68 : decode cX9_seats 68 = .ok (.iload_n 2, 1) := by decide +kernel
theorem dX9_seats_69 : decode cX9_seats 69 = .ok (.iload_n 3, 1) := by decide +kernel
theorem dX9_seats_70 : decode cX9_seats 70 = .ok (.invokevirtual 267, 3) := by decide +kernel
theorem dX9_seats_73 : decode cX9_seats 73 = .ok (.istore 5, 2) := by decide +kernel
theorem dX9_seats_75 : decode cX9_seats 75 = .ok (.iload 4, 2) := by decide +kernel
theorem dX9_seats_77 : decode cX9_seats 77 = .ok (.iconst (-1), 1) := by decide +kernel
theorem dX9_seats_78 : decode cX9_seats 78 = .ok (.if_icmp .eq 9, 3) := by decide +kernel
theorem dX9_seats_81 : decode cX9_seats 81 = .ok (.iload 5, 2) := by decide +kernel
theorem dX9_seats_83 : decode cX9_seats 83 = .ok (.iconst (-1), 1) := by decide +kernel
theorem dX9_seats_84 : decode cX9_seats 84 = .ok (.if_icmp .ne 8, 3) := by decide +kernel
theorem dX9_seats_87 : decode cX9_seats 87 = .ok (.iload 5, 2) := by decide +kernel
theorem dX9_seats_89 : decode cX9_seats 89 = .ok (.goto 13, 3) := by decide +kernel
theorem dX9_seats_92 : decode cX9_seats 92 = .ok (.aload_n 0, 1) := by decide +kernel
theorem dX9_seats_93 : decode cX9_seats 93 = .ok (.getfield 66, 3) := by decide +kernel
theorem dX9_seats_96 : decode cX9_seats 96 = .ok (.getfield 271, 3) := by decide +kernel
theorem dX9_seats_99 : decode cX9_seats 99 = .ok (.iload 4, 2) := by decide +kernel
theorem dX9_seats_101 : decode cX9_seats 101 = .ok (.iaload, 1) := by decide +kernel
theorem dX9_seats_102 : decode cX9_seats 102 = .ok (.ireturn, 1) := by decide +kernel
theorem dX9_leave_0 : decode cX9_leave 0 = .ok (.iload_n 1, 1) := by decide +kernel
theorem dX9_leave_1 : decode cX9_leave 1 = .ok (.iconst 0, 1) := by decide +kernel
theorem dX9_leave_2 : decode cX9_leave 2 = .ok (.iconst 1, 1) := by decide +kernel
theorem dX9_leave_3 : decode cX9_leave 3 = .ok (.invokestatic 82, 3) := by decide +kernel
theorem dX9_leave_6 : decode cX9_leave 6 = .ok (.ifCond .ne 6, 3) := by decide +kernel
theorem dX9_leave_9 : decode cX9_leave 9 = .ok (.ldc 86, 2) := by decide +kernel
theorem dX9_leave_11 : decode cX9_leave 11 = .ok (.ireturn, 1) := by decide +kernel
theorem dX9_leave_12 : decode cX9_leave 12 = .ok (.iconst (-1), 1) := by decide +kernel
theorem dX9_leave_13 : decode cX9_leave 13 = .ok (.istore_n 2, 1) := by decide +kernel
theorem dX9_leave_14 : decode cX9_leave 14 = .ok (.iconst (-1), 1) := by decide +kernel
theorem dX9_leave_15 : decode cX9_leave 15 = .ok (.istore_n 3, 1) := by decide +kernel
theorem dX9_leave_16 : decode cX9_leave 16 = .ok (.iconst 0, 1) := by decide +kernel
theorem dX9_leave_17 : decode cX9_leave 17 = .ok (.istore 4, 2) := by decide +kernel
theorem dX9_leave_19 : decode cX9_leave 19 = .ok (.iload 4, 2) := by decide +kernel
theorem dX9_leave_21 : decode cX9_leave 21 = .ok (.aload_n 0, 1) := by decide +kernel
theorem dX9_leave_22 : decode cX9_leave 22 = .ok (.getfield 19, 3) := by decide +kernel
theorem dX9_leave_25 : decode cX9_leave 25 = .ok (.getfield 116, 3) := by decide +kernel
theorem dX9_leave_28 : decode cX9_leave 28 = .ok (.if_icmp .ge 61, 3) := by decide +kernel
theorem dX9_leave_31 : decode cX9_leave 31 = .ok (.aload_n 0, 1) := by decide +kernel
theorem dX9_leave_32 : decode cX9_leave 32 = .ok (.getfield 33, 3) := by decide +kernel
theorem dX9_leave_35 : decode cX9_leave 35 = .ok (.aload_n 0, 1) := by decide +kernel
theorem dX9_leave_36 : decode cX9_leave 36 = .ok (.getfield 29, 3) := by decide +kernel
theorem dX9_leave_39 : decode cX9_leave 39 = .ok (.invokevirtual 257, 3) := by decide +kernel
theorem dX9_leave_42 : decode cX9_leave 42 = .ok (.aload_n 0, 1) := by decide +kernel
theorem dX9_leave_43 : decode cX9_leave 43 = .ok (.getfield 33, 3) := by decide +kernel
theorem dX9_leave_46 : decode cX9_leave 46 = .ok (.getfield 199, 3) := by decide +kernel
theorem dX9_leave_49 : decode cX9_leave 49 = .ok (.iload 4, 2) := by decide +kernel
theorem dX9_leave_51 : decode cX9_leave 51 = .ok (.iconst 0, 1) := by decide +kernel
theorem dX9_leave_52 : decode cX9_leave 52 = .ok (.iastore, 1) := by decide +kernel
theorem dX9_leave_53 : decode cX9_leave 53 = .ok (.aload_n 0, 1) := by decide +kernel
theorem dX9_leave_54 : decode cX9_leave 54 = .ok (.getfield 33, 3) := by decide +kernel
theorem dX9_leave_57 : decode cX9_leave 57 = .ok (.aload_n 0, 1) := by decide +kernel
theorem dX9_leave_58 : decode cX9_leave 58 = .ok (.getfield 19, 3) := by decide +kernel
theorem dX9_leave_61 : decode cX9_leave 61 = .ok (.invokevirtual 131, 3) := by decide +kernel
theorem dX9_leave_64 : decode cX9_leave 64 = .ok (.istore 5, 2) := by decide +kernel
theorem dX9_leave_66 : decode cX9_leave 66 = .ok (.iload_n 2, 1) := by decide +kernel
theorem dX9_leave_67 : decode cX9_leave 67 = .ok (.iconst (-1), 1) := by decide +kernel
theorem dX9_leave_68 : decode cX9_leave 68 = .ok (.if_icmp .eq 9, 3) := by decide +kernel
theorem dX9_leave_71 : decode cX9_leave 71 = .ok (.iload 5, 2) := by decide +kernel
theorem dX9_leave_73 : decode cX9_leave 73 = .ok (.iload_n 3, 1) := by decide +kernel
theorem dX9_leave_74 : decode cX9_leave 74 = .ok (.if_icmp .ge 9, 3) := by decide +kernel
theorem dX9_leave_77 : decode cX9_leave 77 = .ok (.iload 4, 2) := by decide +kernel
theorem dX9_leave_79 : decode cX9_leave 79 = .ok (.istore_n 2, 1) := by decide +kernel
theorem dX9_leave_80 : decode cX9_leave 80 = .ok (.iload 5, 2) := by decide +kernel
theorem dX9_leave_82 : decode cX9_leave 82 = .ok (.istore_n 3, 1) := by decide +kernel
theorem dX9_leave_83 : decode cX9_leave 83 = .ok (.iinc 4 1, 3) := by decide +kernel
theorem dX9_leave_86 : decode cX9_leave 86 = .ok (.goto (-67), 3) := by decide +kernel
theorem dX9_leave_89 : decode cX9_leave 89 = .ok (.iload_n 1, 1) := by decide +kernel
theorem dX9_leave_90 : decode cX9_leave 90 = .ok (.ifCond .ne 7, 3) := by decide +kernel
theorem dX9_leave_93 : decode cX9_leave 93 = .ok (.iload_n 2, 1) := by decide +kernel
theorem dX9_leave_94 : decode cX9_leave 94 = .ok (.goto 4, 3) := by decide +kernel
theorem dX9_leave_97 : decode cX9_leave 97 = .ok (.iload_n 3, 1) := by decide +kernel
theorem dX9_leave_98 : decode cX9_leave 98 = .ok (.ireturn, 1) := by decide +kernel
theorem dX9_share_0 : decode cX9_share 0 = .ok (.iload_n 2, 1) := by decide +kernel
theorem dX9_share_1 : decode cX9_share 1 = .ok (.iconst (-1), 1) := by decide +kernel
theorem dX9_share_2 : decode cX9_share 2 = .ok (.if_icmp .eq 17, 3) := by decide +kernel
theorem dX9_share_5 : decode cX9_share 5 = .ok (.aload_n 0, 1) := by decide +kernel
theorem dX9_share_6 : decode cX9_share 6 = .ok (.getfield 19, 3) := by decide +kernel
theorem dX9_share_9 : decode cX9_share 9 = .ok (.iload_n 2, 1) := by decide +kernel
theorem dX9_share_10 : decode cX9_share 10 = .ok (.invokevirtual 171, 3) := by decide +kernel
theorem dX9_share_13 : decode cX9_share 13 = .ok (.ifCond .ne 6, 3) := by decide +kernel
theorem dX9_share_16 : decode cX9_share 16 = .ok (.ldc 175, 2) := by decide +kernel
theorem dX9_share_18 : decode cX9_share 18 = .ok (.ireturn, 1) := by decide +kernel
theorem dX9_share_19 : decode cX9_share 19 = .ok (.iload_n 1, 1) := by decide +kernel
theorem dX9_share_20 : decode cX9_share 20 = .ok (.iconst 0, 1) := by decide +kernel
theorem dX9_share_21 : decode cX9_share 21 = .ok (.sipush 999, 3) := by decide +kernel
theorem dX9_share_24 : decode cX9_share 24 = .ok (.invokestatic 82, 3) := by decide +kernel
theorem dX9_share_27 : decode cX9_share 27 = .ok (.ifCond .ne 6, 3) := by decide +kernel
theorem dX9_share_30 : decode cX9_share 30 = .ok (.ldc 86, 2) := by decide +kernel
theorem dX9_share_32 : decode cX9_share 32 = .ok (.ireturn, 1) := by decide +kernel
theorem dX9_share_33 : decode cX9_share 33 = .ok (.aload_n 0, 1) := by decide +kernel
theorem dX9_share_34 : decode cX9_share 34 = .ok (.getfield 29, 3) := by decide +kernel
theorem dX9_share_37 : decode cX9_share 37 = .ok (.aload_n 0, 1) := by decide +kernel
theorem dX9_share_38 : decode cX9_share 38 = .ok (.getfield 19, 3) := by decide +kernel
theorem dX9_share_41 : decode cX9_share 41 = .ok (.invokevirtual 274, 3) := by decide +kernel
theorem dX9_share_44 : decode cX9_share 44 = .ok (.istore_n 3, 1) := by decide +kernel
theorem dX9_share_45 : decode cX9_share 45 = .ok (.iload_n 2, 1) := by decide +kernel
theorem dX9_share_46 : decode cX9_share 46 = .ok (.iconst (-1), 1) := by decide +kernel
theorem dX9_share_47 : decode cX9_share 47 = .ok (.if_icmp .eq 11, 3) := by decide +kernel
theorem dX9_share_50 : decode cX9_share 50 = .ok (.aload_n 0, 1) := by decide +kernel
theorem dX9_share_51 : decode cX9_share 51 = .ok (.iload_n 2, 1) := by decide +kernel
theorem dX9_share_52 : decode cX9_share 52 = .ok (.iload_n 1, 1) := by decide +kernel
theorem dX9_share_53 : decode cX9_share 53 = .ok (.iload_n 3, 1) := by decide +kernel
theorem dX9_share_54 : decode cX9_share 54 = .ok (.invokevirtual 277, 3) := by decide +kernel
theorem dX9_share_57 : decode cX9_share 57 = .ok (.ireturn, 1) := by decide +kernel
theorem dX9_share_58 : decode cX9_share 58 = .ok (.iload_n 1, 1) := by decide +kernel
theorem dX9_share_59 : decode cX9_share 59 = .ok (.istore 4, 2) := by decide +kernel
theorem dX9_share_61 : decode cX9_share 61 = .ok (.iconst 0, 1) := by decide +kernel
theorem dX9_share_62 : decode cX9_share 62 = .ok (.istore 5, 2) := by decide +kernel
theorem dX9_share_64 : decode cX9_share 64 = .ok (.iload 5, 2) := by decide +kernel
theorem dX9_share_66 : decode cX9_share 66 = .ok (.aload_n 0, 1) := by decide +kernel
theorem dX9_share_67 : decode cX9_share 67 = .ok (.getfield 19, 3) := by decide +kernel
theorem dX9_share_70 : decode cX9_share 70 = .ok (.getfield 113, 3) := by decide +kernel
theorem dX9_share_73 : decode cX9_share 73 = .ok (.if_icmp .ge 22, 3) := by decide +kernel
theorem dX9_share_76 : decode cX9_share 76 = .ok (.iload 4, 2) := by decide +kernel
theorem dX9_share_78 : decode cX9_share 78 = .ok (.aload_n 0, 1) := by decide +kernel
theorem dX9_share_79 : decode cX9_share 79 = .ok (.iload 5, 2) := by decide +kernel
theorem dX9_share_81 : decode cX9_share 81 = .ok (.iload_n 1, 1) := by decide +kernel
theorem dX9_share_82 : decode cX9_share 82 = .ok (.iload_n 3, 1) := by decide +kernel
theorem dX9_share_83 : decode cX9_share 83 = .ok (.invokevirtual 277, 3) := by decide +kernel
theorem dX9_share_86 : decode cX9_share 86 = .ok (.isub, 1) := by decide +kernel
theorem dX9_share_87 : decode cX9_share 87 = .ok (.istore 4, 2) := by decide +kernel
theorem dX9_share_89 : decode cX9_share 89 = .ok (.iinc 5 1, 3) := by decide +kernel
theorem dX9_share_92 : decode cX9_share 92 = .ok (.goto (-28), 3) := by decide +kernel
theorem dX9_share_95 : decode cX9_share 95 = .ok (.iload 4, 2) := by decide +kernel
theorem dX9_share_97 : decode cX9_share 97 = .ok (.ireturn, 1) := by decide +kernel
theorem dX9_calm_0 : decode cX9_calm 0 = .ok (.iload_n 1, 1) := by decide +kernel
theorem dX9_calm_1 : decode cX9_calm 1 = .ok (.iconst 0, 1) := by decide +kernel
theorem dX9_calm_2 : decode cX9_calm 2 = .ok (.bipush 60, 2) := by decide +kernel
theorem dX9_calm_4 : decode cX9_calm 4 = .ok (.invokestatic 82, 3) := by decide +kernel
theorem dX9_calm_7 : decode cX9_calm 7 = .ok (.ifCond .eq 13, 3) := by decide +kernel
theorem dX9_calm_10 : decode cX9_calm 10 = .ok (.iload_n 2, 1) := by decide +kernel
theorem dX9_calm_11 : decode cX9_calm 11 = .ok (.iconst 0, 1) := by decide +kernel
theorem dX9_calm_12 : decode cX9_calm 12 = .ok (.bipush 100, 2) := by decide +kernel
theorem dX9_calm_14 : decode cX9_calm 14 = .ok (.invokestatic 82, 3) := by decide +kernel
theorem dX9_calm_17 : decode cX9_calm 17 = .ok (.ifCond .ne 6, 3) := by decide +kernel
theorem dX9_calm_20 : decode cX9_calm 20 = .ok (.ldc 86, 2) := by decide +kernel
theorem dX9_calm_22 : decode cX9_calm 22 = .ok (.ireturn, 1) := by decide +kernel
theorem dX9_calm_23 : decode cX9_calm 23 = .ok (.ldc2_w 281, 3) := by decide +kernel
theorem dX9_calm_26 : decode cX9_calm 26 = .ok (.lstore_n 3, 1) := by decide +kernel
theorem dX9_calm_27 : decode cX9_calm 27 = .ok (.iconst 0, 1) := by decide +kernel
theorem dX9_calm_28 : decode cX9_calm 28 = .ok (.istore 5, 2) := by decide +kernel
theorem dX9_calm_30 : decode cX9_calm 30 = .ok (.iload 5, 2) := by decide +kernel
theorem dX9_calm_32 : decode cX9_calm 32 = .ok (.iload_n 1, 1) := by decide +kernel
theorem dX9_calm_33 : decode cX9_calm 33 = .ok (.if_icmp .ge 18, 3) := by decide +kernel
theorem dX9_calm_36 : decode cX9_calm 36 = .ok (.lload_n 3, 1) := by decide +kernel
theorem dX9_calm_37 : decode cX9_calm 37 = .ok (.iload_n 2, 1) := by decide +kernel
theorem dX9_calm_38 : decode cX9_calm 38 = .ok (.i2l, 1) := by decide +kernel
theorem dX9_calm_39 : decode cX9_calm 39 = .ok (.lmul, 1) := by decide +kernel
theorem dX9_calm_40 : decode cX9_calm 40 = .ok (.ldc2_w 283, 3) := by decide +kernel
theorem dX9_calm_43 : decode cX9_calm 43 = .ok (.ldiv, 1) := by decide +kernel
theorem dX9_calm_44 : decode cX9_calm 44 = .ok (.lstore_n 3, 1) := by decide +kernel
theorem dX9_calm_45 : decode cX9_calm 45 = .ok (.iinc 5 1, 3) := by decide +kernel
theorem dX9_calm_48 : decode cX9_calm 48 = .ok (.goto (-18), 3) := by decide +kernel
theorem dX9_calm_51 : decode cX9_calm 51 = .ok (.lload_n 3, 1) := by decide +kernel
theorem dX9_calm_52 : decode cX9_calm 52 = .ok (.l2i, 1) := by decide +kernel
theorem dX9_calm_53 : decode cX9_calm 53 = .ok (.ireturn, 1) := by decide +kernel
theorem dX9_mark_0 : decode cX9_mark 0 = .ok (.aload_n 0, 1) := by decide +kernel
theorem dX9_mark_1 : decode cX9_mark 1 = .ok (.getfield 19, 3) := by decide +kernel
theorem dX9_mark_4 : decode cX9_mark 4 = .ok (.iload_n 1, 1) := by decide +kernel
theorem dX9_mark_5 : decode cX9_mark 5 = .ok (.invokevirtual 171, 3) := by decide +kernel
theorem dX9_mark_8 : decode cX9_mark 8 = .ok (.ifCond .ne 6, 3) := by decide +kernel
theorem dX9_mark_11 : decode cX9_mark 11 = .ok (.ldc 175, 2) := by decide +kernel
theorem dX9_mark_13 : decode cX9_mark 13 = .ok (.ireturn, 1) := by decide +kernel
theorem dX9_mark_14 : decode cX9_mark 14 = .ok (.iload_n 2, 1) := by decide +kernel
theorem dX9_mark_15 : decode cX9_mark 15 = .ok (.iconst 1, 1) := by decide +kernel
theorem dX9_mark_16 : decode cX9_mark 16 = .ok (.bipush 20, 2) := by decide +kernel
theorem dX9_mark_18 : decode cX9_mark 18 = .ok (.invokestatic 82, 3) := by decide +kernel
theorem dX9_mark_21 : decode cX9_mark 21 = .ok (.ifCond .eq 14, 3) := by decide +kernel
theorem dX9_mark_24 : decode cX9_mark 24 = .ok (.iload_n 3, 1) := by decide +kernel
theorem dX9_mark_25 : decode cX9_mark 25 = .ok (.iconst 0, 1) := by decide +kernel
theorem dX9_mark_26 : decode cX9_mark 26 = .ok (.sipush 999, 3) := by decide +kernel
theorem dX9_mark_29 : decode cX9_mark 29 = .ok (.invokestatic 82, 3) := by decide +kernel
theorem dX9_mark_32 : decode cX9_mark 32 = .ok (.ifCond .ne 6, 3) := by decide +kernel
theorem dX9_mark_35 : decode cX9_mark 35 = .ok (.ldc 86, 2) := by decide +kernel
theorem dX9_mark_37 : decode cX9_mark 37 = .ok (.ireturn, 1) := by decide +kernel
theorem dX9_mark_38 : decode cX9_mark 38 = .ok (.aload_n 0, 1) := by decide +kernel
theorem dX9_mark_39 : decode cX9_mark 39 = .ok (.getfield 59, 3) := by decide +kernel
theorem dX9_mark_42 : decode cX9_mark 42 = .ok (.iload_n 1, 1) := by decide +kernel
theorem dX9_mark_43 : decode cX9_mark 43 = .ok (.iload_n 2, 1) := by decide +kernel
theorem dX9_mark_44 : decode cX9_mark 44 = .ok (.iload_n 3, 1) := by decide +kernel
theorem dX9_mark_45 : decode cX9_mark 45 = .ok (.invokevirtual 285, 3) := by decide +kernel
theorem dX9_mark_48 : decode cX9_mark 48 = .ok (.ireturn, 1) := by decide +kernel
theorem dX9_look_0 : decode cX9_look 0 = .ok (.aload_n 0, 1) := by decide +kernel
theorem dX9_look_1 : decode cX9_look 1 = .ok (.getfield 73, 3) := by decide +kernel
theorem dX9_look_4 : decode cX9_look 4 = .ok (.aload_n 0, 1) := by decide +kernel
theorem dX9_look_5 : decode cX9_look 5 = .ok (.getfield 19, 3) := by decide +kernel
theorem dX9_look_8 : decode cX9_look 8 = .ok (.aload_n 0, 1) := by decide +kernel
theorem dX9_look_9 : decode cX9_look 9 = .ok (.getfield 29, 3) := by decide +kernel
theorem dX9_look_12 : decode cX9_look 12 = .ok (.aload_n 0, 1) := by decide +kernel
theorem dX9_look_13 : decode cX9_look 13 = .ok (.getfield 59, 3) := by decide +kernel
theorem dX9_look_16 : decode cX9_look 16 = .ok (.aload_n 0, 1) := by decide +kernel
theorem dX9_look_17 : decode cX9_look 17 = .ok (.getfield 33, 3) := by decide +kernel
theorem dX9_look_20 : decode cX9_look 20 = .ok (.invokevirtual 155, 3) := by decide +kernel
theorem dX9_look_23 : decode cX9_look 23 = .ok (.istore_n 1, 1) := by decide +kernel
theorem dX9_look_24 : decode cX9_look 24 = .ok (.aload_n 0, 1) := by decide +kernel
theorem dX9_look_25 : decode cX9_look 25 = .ok (.getfield 73, 3) := by decide +kernel
theorem dX9_look_28 : decode cX9_look 28 = .ok (.iload_n 1, 1) := by decide +kernel
theorem dX9_look_29 : decode cX9_look 29 = .ok (.aload_n 0, 1) := by decide +kernel
theorem dX9_look_30 : decode cX9_look 30 = .ok (.getfield 19, 3) := by decide +kernel
theorem dX9_look_33 : decode cX9_look 33 = .ok (.aload_n 0, 1) := by decide +kernel
theorem dX9_look_34 : decode cX9_look 34 = .ok (.getfield 29, 3) := by decide +kernel
theorem dX9_look_37 : decode cX9_look 37 = .ok (.aload_n 0, 1) := by decide +kernel
theorem dX9_look_38 : decode cX9_look 38 = .ok (.getfield 33, 3) := by decide +kernel
theorem dX9_look_41 : decode cX9_look 41 = .ok (.invokevirtual 288, 3) := by decide +kernel
theorem dX9_look_44 : decode cX9_look 44 = .ok (.ireturn, 1) := by decide +kernel
theorem dX9_see_0 : decode cX9_see 0 = .ok (.iload_n 1, 1) := by decide +kernel
theorem dX9_see_1 : decode cX9_see 1 = .ok (.iconst 0, 1) := by decide +kernel
theorem dX9_see_2 : decode cX9_see 2 = .ok (.bipush 99, 2) := by decide +kernel
theorem dX9_see_4 : decode cX9_see 4 = .ok (.invokestatic 82, 3) := by decide +kernel
theorem dX9_see_7 : decode cX9_see 7 = .ok (.ifCond .eq 23, 3) := by decide +kernel
theorem dX9_see_10 : decode cX9_see 10 = .ok (.iload_n 2, 1) := by decide +kernel
theorem dX9_see_11 : decode cX9_see 11 = .ok (.iconst 0, 1) := by decide +kernel
theorem dX9_see_12 : decode cX9_see 12 = .ok (.bipush 9, 2) := by decide +kernel
theorem dX9_see_14 : decode cX9_see 14 = .ok (.invokestatic 82, 3) := by decide +kernel
theorem dX9_see_17 : decode cX9_see 17 = .ok (.ifCond .eq 13, 3) := by decide +kernel
theorem dX9_see_20 : decode cX9_see 20 = .ok (.iload_n 3, 1) := by decide +kernel
theorem dX9_see_21 : decode cX9_see 21 = .ok (.iconst 0, 1) := by decide +kernel
theorem dX9_see_22 : decode cX9_see 22 = .ok (.bipush 99, 2) := by decide +kernel
theorem dX9_see_24 : decode cX9_see 24 = .ok (.invokestatic 82, 3) := by decide +kernel
theorem dX9_see_27 : decode cX9_see 27 = .ok (.ifCond .ne 6, 3) := by decide +kernel
theorem dX9_see_30 : decode cX9_see 30 = .ok (.ldc 86, 2) := by decide +kernel
theorem dX9_see_32 : decode cX9_see 32 = .ok (.ireturn, 1) := by decide +kernel
theorem dX9_see_33 : decode cX9_see 33 = .ok (.aload_n 0, 1) := by decide +kernel
theorem dX9_see_34 : decode cX9_see 34 = .ok (.getfield 59, 3) := by decide +kernel
theorem dX9_see_37 : decode cX9_see 37 = .ok (.iload_n 1, 1) := by decide +kernel
theorem dX9_see_38 : decode cX9_see 38 = .ok (.iload_n 2, 1) := by decide +kernel
theorem dX9_see_39 : decode cX9_see 39 = .ok (.iload_n 3, 1) := by decide +kernel
theorem dX9_see_40 : decode cX9_see 40 = .ok (.invokevirtual 292, 3) := by decide +kernel
theorem dX9_see_43 : decode cX9_see 43 = .ok (.ireturn, 1) := by decide +kernel
theorem dX9_write_0 : decode cX9_write 0 = .ok (.aload_n 0, 1) := by decide +kernel
theorem dX9_write_1 : decode cX9_write 1 = .ok (.getfield 19, 3) := by decide +kernel
theorem dX9_write_4 : decode cX9_write 4 = .ok (.iload_n 1, 1) := by decide +kernel
theorem dX9_write_5 : decode cX9_write 5 = .ok (.invokevirtual 171, 3) := by decide +kernel
theorem dX9_write_8 : decode cX9_write 8 = .ok (.ifCond .ne 6, 3) := by decide +kernel
theorem dX9_write_11 : decode cX9_write 11 = .ok (.ldc 175, 2) := by decide +kernel
theorem dX9_write_13 : decode cX9_write 13 = .ok (.ireturn, 1) := by decide +kernel
theorem dX9_write_14 : decode cX9_write 14 = .ok (.iload_n 2, 1) := by decide +kernel
theorem dX9_write_15 : decode cX9_write 15 = .ok (.iconst 0, 1) := by decide +kernel
theorem dX9_write_16 : decode cX9_write 16 = .ok (.sipush 999, 3) := by decide +kernel
theorem dX9_write_19 : decode cX9_write 19 = .ok (.invokestatic 82, 3) := by decide +kernel
theorem dX9_write_22 : decode cX9_write 22 = .ok (.ifCond .ne 6, 3) := by decide +kernel
theorem dX9_write_25 : decode cX9_write 25 = .ok (.ldc 86, 2) := by decide +kernel
theorem dX9_write_27 : decode cX9_write 27 = .ok (.ireturn, 1) := by decide +kernel
theorem dX9_write_28 : decode cX9_write 28 = .ok (.aload_n 0, 1) := by decide +kernel
theorem dX9_write_29 : decode cX9_write 29 = .ok (.getfield 59, 3) := by decide +kernel
theorem dX9_write_32 : decode cX9_write 32 = .ok (.iload_n 1, 1) := by decide +kernel
theorem dX9_write_33 : decode cX9_write 33 = .ok (.iload_n 2, 1) := by decide +kernel
theorem dX9_write_34 : decode cX9_write 34 = .ok (.invokevirtual 295, 3) := by decide +kernel
theorem dX9_write_37 : decode cX9_write 37 = .ok (.ireturn, 1) := by decide +kernel
theorem dX9_tear_0 : decode cX9_tear 0 = .ok (.aload_n 0, 1) := by decide +kernel
theorem dX9_tear_1 : decode cX9_tear 1 = .ok (.getfield 59, 3) := by decide +kernel
theorem dX9_tear_4 : decode cX9_tear 4 = .ok (.getfield 152, 3) := by decide +kernel
theorem dX9_tear_7 : decode cX9_tear 7 = .ok (.aload_n 0, 1) := by decide +kernel
theorem dX9_tear_8 : decode cX9_tear 8 = .ok (.getfield 59, 3) := by decide +kernel
theorem dX9_tear_11 : decode cX9_tear 11 = .ok (.getfield 159, 3) := by decide +kernel
theorem dX9_tear_14 : decode cX9_tear 14 = .ok (.iadd, 1) := by decide +kernel
theorem dX9_tear_15 : decode cX9_tear 15 = .ok (.aload_n 0, 1) := by decide +kernel
theorem dX9_tear_16 : decode cX9_tear 16 = .ok (.getfield 59, 3) := by decide +kernel
theorem dX9_tear_19 : decode cX9_tear 19 = .ok (.getfield 165, 3) := by decide +kernel
theorem dX9_tear_22 : decode cX9_tear 22 = .ok (.iadd, 1) := by decide +kernel
theorem dX9_tear_23 : decode cX9_tear 23 = .ok (.istore_n 1, 1) := by decide +kernel
theorem dX9_tear_24 : decode cX9_tear 24 = .ok (.aload_n 0, 1) := by decide +kernel
theorem dX9_tear_25 : decode cX9_tear 25 = .ok (.getfield 59, 3) := by decide +kernel
theorem dX9_tear_28 : decode cX9_tear 28 = .ok (.invokevirtual 106, 3) := by decide +kernel
theorem dX9_tear_31 : decode cX9_tear 31 = .ok (.iload_n 1, 1) := by decide +kernel
theorem dX9_tear_32 : decode cX9_tear 32 = .ok (.ireturn, 1) := by decide +kernel
theorem dX9_judge_0 : decode cX9_judge 0 = .ok (.aload_n 0, 1) := by decide +kernel
theorem dX9_judge_1 : decode cX9_judge 1 = .ok (.getfield 59, 3) := by decide +kernel
theorem dX9_judge_4 : decode cX9_judge 4 = .ok (.aload_n 0, 1) := by decide +kernel
theorem dX9_judge_5 : decode cX9_judge 5 = .ok (.getfield 19, 3) := by decide +kernel
theorem dX9_judge_8 : decode cX9_judge 8 = .ok (.aload_n 0, 1) := by decide +kernel
theorem dX9_judge_9 : decode cX9_judge 9 = .ok (.getfield 29, 3) := by decide +kernel
theorem dX9_judge_12 : decode cX9_judge 12 = .ok (.invokevirtual 299, 3) := by decide +kernel
theorem dX9_judge_15 : decode cX9_judge 15 = .ok (.ireturn, 1) := by decide +kernel
theorem dX9_seed_0 : decode cX9_seed 0 = .ok (.iload_n 1, 1) := by decide +kernel
theorem dX9_seed_1 : decode cX9_seed 1 = .ok (.iconst 0, 1) := by decide +kernel
theorem dX9_seed_2 : decode cX9_seed 2 = .ok (.ldc_w 303, 3) := by decide +kernel
theorem dX9_seed_5 : decode cX9_seed 5 = .ok (.invokestatic 82, 3) := by decide +kernel
theorem dX9_seed_8 : decode cX9_seed 8 = .ok (.ifCond .ne 6, 3) := by decide +kernel
theorem dX9_seed_11 : decode cX9_seed 11 = .ok (.ldc 86, 2) := by decide +kernel
theorem dX9_seed_13 : decode cX9_seed 13 = .ok (.ireturn, 1) := by decide +kernel
theorem dX9_seed_14 : decode cX9_seed 14 = .ok (.aload_n 0, 1) := by decide +kernel
theorem dX9_seed_15 : decode cX9_seed 15 = .ok (.getfield 52, 3) := by decide +kernel
theorem dX9_seed_18 : decode cX9_seed 18 = .ok (.getfield 304, 3) := by decide +kernel
theorem dX9_seed_21 : decode cX9_seed 21 = .ok (.istore_n 2, 1) := by decide +kernel
theorem dX9_seed_22 : decode cX9_seed 22 = .ok (.aload_n 0, 1) := by decide +kernel
theorem dX9_seed_23 : decode cX9_seed 23 = .ok (.getfield 52, 3) := by decide +kernel
theorem dX9_seed_26 : decode cX9_seed 26 = .ok (.iload_n 1, 1) := by decide +kernel
theorem dX9_seed_27 : decode cX9_seed 27 = .ok (.putfield 304, 3) := by decide +kernel
theorem dX9_seed_30 : decode cX9_seed 30 = .ok (.iload_n 2, 1) := by decide +kernel
theorem dX9_seed_31 : decode cX9_seed 31 = .ok (.ireturn, 1) := by decide +kernel
theorem dX9_keep_0 : decode cX9_keep 0 = .ok (.iload_n 1, 1) := by decide +kernel
theorem dX9_keep_1 : decode cX9_keep 1 = .ok (.iconst 0, 1) := by decide +kernel
theorem dX9_keep_2 : decode cX9_keep 2 = .ok (.iconst 1, 1) := by decide +kernel
theorem dX9_keep_3 : decode cX9_keep 3 = .ok (.invokestatic 82, 3) := by decide +kernel
theorem dX9_keep_6 : decode cX9_keep 6 = .ok (.ifCond .ne 6, 3) := by decide +kernel
theorem dX9_keep_9 : decode cX9_keep 9 = .ok (.ldc 175, 2) := by decide +kernel
theorem dX9_keep_11 : decode cX9_keep 11 = .ok (.ireturn, 1) := by decide +kernel
theorem dX9_keep_12 : decode cX9_keep 12 = .ok (.aload_n 0, 1) := by decide +kernel
theorem dX9_keep_13 : decode cX9_keep 13 = .ok (.getfield 45, 3) := by decide +kernel
theorem dX9_keep_16 : decode cX9_keep 16 = .ok (.iload_n 1, 1) := by decide +kernel
theorem dX9_keep_17 : decode cX9_keep 17 = .ok (.aaload, 1) := by decide +kernel
theorem dX9_keep_18 : decode cX9_keep 18 = .ok (.getfield 307, 3) := by decide +kernel
theorem dX9_keep_21 : decode cX9_keep 21 = .ok (.aload_n 0, 1) := by decide +kernel
theorem dX9_keep_22 : decode cX9_keep 22 = .ok (.getfield 29, 3) := by decide +kernel
theorem dX9_keep_25 : decode cX9_keep 25 = .ok (.invokevirtual 257, 3) := by decide +kernel
theorem dX9_keep_28 : decode cX9_keep 28 = .ok (.aload_n 0, 1) := by decide +kernel
theorem dX9_keep_29 : decode cX9_keep 29 = .ok (.getfield 45, 3) := by decide +kernel
theorem dX9_keep_32 : decode cX9_keep 32 = .ok (.iload_n 1, 1) := by decide +kernel
theorem dX9_keep_33 : decode cX9_keep 33 = .ok (.aaload, 1) := by decide +kernel
theorem dX9_keep_34 : decode cX9_keep 34 = .ok (.aload_n 0, 1) := by decide +kernel
theorem dX9_keep_35 : decode cX9_keep 35 = .ok (.getfield 52, 3) := by decide +kernel
theorem dX9_keep_38 : decode cX9_keep 38 = .ok (.getfield 304, 3) := by decide +kernel
theorem dX9_keep_41 : decode cX9_keep 41 = .ok (.putfield 310, 3) := by decide +kernel
theorem dX9_keep_44 : decode cX9_keep 44 = .ok (.aload_n 0, 1) := by decide +kernel
theorem dX9_keep_45 : decode cX9_keep 45 = .ok (.getfield 45, 3) := by decide +kernel
theorem dX9_keep_48 : decode cX9_keep 48 = .ok (.iload_n 1, 1) := by decide +kernel
theorem dX9_keep_49 : decode cX9_keep 49 = .ok (.aaload, 1) := by decide +kernel
theorem dX9_keep_50 : decode cX9_keep 50 = .ok (.iconst 1, 1) := by decide +kernel
theorem dX9_keep_51 : decode cX9_keep 51 = .ok (.putfield 109, 3) := by decide +kernel
theorem dX9_keep_54 : decode cX9_keep 54 = .ok (.aload_n 0, 1) := by decide +kernel
theorem dX9_keep_55 : decode cX9_keep 55 = .ok (.getfield 39, 3) := by decide +kernel
theorem dX9_keep_58 : decode cX9_keep 58 = .ok (.invokevirtual 103, 3) := by decide +kernel
theorem dX9_keep_61 : decode cX9_keep 61 = .ok (.iconst 1, 1) := by decide +kernel
theorem dX9_keep_62 : decode cX9_keep 62 = .ok (.ireturn, 1) := by decide +kernel
theorem dX9_goBack_0 : decode cX9_goBack 0 = .ok (.iload_n 1, 1) := by decide +kernel
theorem dX9_goBack_1 : decode cX9_goBack 1 = .ok (.iconst 0, 1) := by decide +kernel
theorem dX9_goBack_2 : decode cX9_goBack 2 = .ok (.iconst 1, 1) := by decide +kernel
theorem dX9_goBack_3 : decode cX9_goBack 3 = .ok (.invokestatic 82, 3) := by decide +kernel
theorem dX9_goBack_6 : decode cX9_goBack 6 = .ok (.ifCond .ne 6, 3) := by decide +kernel
theorem dX9_goBack_9 : decode cX9_goBack 9 = .ok (.ldc 175, 2) := by decide +kernel
theorem dX9_goBack_11 : decode cX9_goBack 11 = .ok (.ireturn, 1) := by decide +kernel
theorem dX9_goBack_12 : decode cX9_goBack 12 = .ok (.aload_n 0, 1) := by decide +kernel
theorem dX9_goBack_13 : decode cX9_goBack 13 = .ok (.getfield 45, 3) := by decide +kernel
theorem dX9_goBack_16 : decode cX9_goBack 16 = .ok (.iload_n 1, 1) := by decide +kernel
theorem dX9_goBack_17 : decode cX9_goBack 17 = .ok (.aaload, 1) := by decide +kernel
theorem dX9_goBack_18 : decode cX9_goBack 18 = .ok (.getfield 109, 3) := by decide +kernel
theorem dX9_goBack_21 : decode cX9_goBack 21 = .ok (.ifCond .ne 6, 3) := by decide +kernel
theorem dX9_goBack_24 : decode cX9_goBack 24 = .ok (.ldc 245, 2) := by decide +kernel
theorem dX9_goBack_26 : decode cX9_goBack 26 = .ok (.ireturn, 1) := by decide +kernel
theorem dX9_goBack_27 : decode cX9_goBack 27 = .ok (.aload_n 0, 1) := by decide +kernel
theorem dX9_goBack_28 : decode cX9_goBack 28 = .ok (.getfield 29, 3) := by decide +kernel
theorem dX9_goBack_31 : decode cX9_goBack 31 = .ok (.aload_n 0, 1) := by decide +kernel
theorem dX9_goBack_32 : decode cX9_goBack 32 = .ok (.getfield 45, 3) := by decide +kernel
theorem dX9_goBack_35 : decode cX9_goBack 35 = .ok (.iload_n 1, 1) := by decide +kernel
theorem dX9_goBack_36 : decode cX9_goBack 36 = .ok (.aaload, 1) := by decide +kernel
theorem dX9_goBack_37 : decode cX9_goBack 37 = .ok (.getfield 307, 3) := by decide +kernel
theorem dX9_goBack_40 : decode cX9_goBack 40 = .ok (.invokevirtual 257, 3) := by decide +kernel
theorem dX9_goBack_43 : decode cX9_goBack 43 = .ok (.aload_n 0, 1) := by decide +kernel
theorem dX9_goBack_44 : decode cX9_goBack 44 = .ok (.getfield 52, 3) := by decide +kernel
theorem dX9_goBack_47 : decode cX9_goBack 47 = .ok (.aload_n 0, 1) := by decide +kernel
theorem dX9_goBack_48 : decode cX9_goBack 48 = .ok (.getfield 45, 3) := by decide +kernel
theorem dX9_goBack_51 : decode cX9_goBack 51 = .ok (.iload_n 1, 1) := by decide +kernel
theorem dX9_goBack_52 : decode cX9_goBack 52 = .ok (.aaload, 1) := by decide +kernel
theorem dX9_goBack_53 : decode cX9_goBack 53 = .ok (.getfield 310, 3) := by decide +kernel
theorem dX9_goBack_56 : decode cX9_goBack 56 = .ok (.putfield 304, 3) := by decide +kernel
theorem dX9_goBack_59 : decode cX9_goBack 59 = .ok (.aload_n 0, 1) := by decide +kernel
theorem dX9_goBack_60 : decode cX9_goBack 60 = .ok (.getfield 39, 3) := by decide +kernel
theorem dX9_goBack_63 : decode cX9_goBack 63 = .ok (.invokevirtual 103, 3) := by decide +kernel
theorem dX9_goBack_66 : decode cX9_goBack 66 = .ok (.iconst 1, 1) := by decide +kernel
theorem dX9_goBack_67 : decode cX9_goBack 67 = .ok (.ireturn, 1) := by decide +kernel
theorem dX9_within_0 : decode cX9_within 0 = .ok (.iload_n 0, 1) := by decide +kernel
theorem dX9_within_1 : decode cX9_within 1 = .ok (.iload_n 1, 1) := by decide +kernel
theorem dX9_within_2 : decode cX9_within 2 = .ok (.if_icmp .lt 12, 3) := by decide +kernel
theorem dX9_within_5 : decode cX9_within 5 = .ok (.iload_n 0, 1) := by decide +kernel
theorem dX9_within_6 : decode cX9_within 6 = .ok (.iload_n 2, 1) := by decide +kernel
theorem dX9_within_7 : decode cX9_within 7 = .ok (.if_icmp .gt 7, 3) := by decide +kernel
theorem dX9_within_10 : decode cX9_within 10 = .ok (.iconst 1, 1) := by decide +kernel
theorem dX9_within_11 : decode cX9_within 11 = .ok (.goto 4, 3) := by decide +kernel
theorem dX9_within_14 : decode cX9_within 14 = .ok (.iconst 0, 1) := by decide +kernel
theorem dX9_within_15 : decode cX9_within 15 = .ok (.ireturn, 1) := by decide +kernel
theorem dX9_refusalOfHours_0 : decode cX9_refusalOfHours 0 = .ok (.iload_n 1, 1) := by decide +kernel
theorem dX9_refusalOfHours_1 : decode cX9_refusalOfHours 1 = .ok (.iconst 1, 1) := by decide +kernel
theorem dX9_refusalOfHours_2 : decode cX9_refusalOfHours 2 = .ok (.bipush 60, 2) := by decide +kernel
theorem dX9_refusalOfHours_4 : decode cX9_refusalOfHours 4 = .ok (.invokestatic 82, 3) := by decide +kernel
theorem dX9_refusalOfHours_7 : decode cX9_refusalOfHours 7 = .ok (.ifCond .ne 6, 3) := by decide +kernel
theorem dX9_refusalOfHours_10 : decode cX9_refusalOfHours 10 = .ok (.ldc 86, 2) := by decide +kernel
theorem dX9_refusalOfHours_12 : decode cX9_refusalOfHours 12 = .ok (.ireturn, 1) := by decide +kernel
theorem dX9_refusalOfHours_13 : decode cX9_refusalOfHours 13 = .ok (.aload_n 0, 1) := by decide +kernel
theorem dX9_refusalOfHours_14 : decode cX9_refusalOfHours 14 = .ok (.getfield 19, 3) := by decide +kernel
theorem dX9_refusalOfHours_17 : decode cX9_refusalOfHours 17 = .ok (.getfield 113, 3) := by decide +kernel
theorem dX9_refusalOfHours_20 : decode cX9_refusalOfHours 20 = .ok (.ifCond .ne 6, 3) := by decide +kernel
theorem dX9_refusalOfHours_23 : decode cX9_refusalOfHours 23 = .ok (.ldc 245, 2) := by decide +kernel
theorem dX9_refusalOfHours_25 : decode cX9_refusalOfHours 25 = .ok (.ireturn, 1) := by decide +kernel
theorem dX9_refusalOfHours_26 : decode cX9_refusalOfHours 26 = .ok (.aload_n 0, 1) := by decide +kernel
theorem dX9_refusalOfHours_27 : decode cX9_refusalOfHours 27 = .ok (.getfield 29, 3) := by decide +kernel
theorem dX9_refusalOfHours_30 : decode cX9_refusalOfHours 30 = .ok (.getfield 128, 3) := by decide +kernel
theorem dX9_refusalOfHours_33 : decode cX9_refusalOfHours 33 = .ok (.sipush 9000, 3) := by decide +kernel
theorem dX9_refusalOfHours_36 : decode cX9_refusalOfHours 36 = .ok (.if_icmp .le 9, 3) := by decide +kernel
theorem dX9_refusalOfHours_39 : decode cX9_refusalOfHours 39 = .ok (.ldc_w 311, 3) := by decide +kernel
theorem dX9_refusalOfHours_42 : decode cX9_refusalOfHours 42 = .ok (.goto 4, 3) := by decide +kernel
theorem dX9_refusalOfHours_45 : decode cX9_refusalOfHours 45 = .ok (.iconst 0, 1) := by decide +kernel
theorem dX9_refusalOfHours_46 : decode cX9_refusalOfHours 46 = .ok (.ireturn, 1) := by decide +kernel
theorem dX9_shareOf_0 : decode cX9_shareOf 0 = .ok (.iload_n 3, 1) := by decide +kernel
theorem dX9_shareOf_1 : decode cX9_shareOf 1 = .ok (.ifCond .le 18, 3) := by decide +kernel
theorem dX9_shareOf_4 : decode cX9_shareOf 4 = .ok (.aload_n 0, 1) := by decide +kernel
theorem dX9_shareOf_5 : decode cX9_shareOf 5 = .ok (.getfield 29, 3) := by decide +kernel
theorem dX9_shareOf_8 : decode cX9_shareOf 8 = .ok (.aload_n 0, 1) := by decide +kernel
theorem dX9_shareOf_9 : decode cX9_shareOf 9 = .ok (.getfield 19, 3) := by decide +kernel
theorem dX9_shareOf_12 : decode cX9_shareOf 12 = .ok (.iload_n 1, 1) := by decide +kernel
theorem dX9_shareOf_13 : decode cX9_shareOf 13 = .ok (.invokevirtual 184, 3) := by decide +kernel
theorem dX9_shareOf_16 : decode cX9_shareOf 16 = .ok (.ifCond .le 5, 3) := by decide +kernel
theorem dX9_shareOf_19 : decode cX9_shareOf 19 = .ok (.iconst 0, 1) := by decide +kernel
theorem dX9_shareOf_20 : decode cX9_shareOf 20 = .ok (.ireturn, 1) := by decide +kernel
theorem dX9_shareOf_21 : decode cX9_shareOf 21 = .ok (.iload_n 2, 1) := by decide +kernel
theorem dX9_shareOf_22 : decode cX9_shareOf 22 = .ok (.aload_n 0, 1) := by decide +kernel
theorem dX9_shareOf_23 : decode cX9_shareOf 23 = .ok (.getfield 19, 3) := by decide +kernel
theorem dX9_shareOf_26 : decode cX9_shareOf 26 = .ok (.getfield 176, 3) := by decide +kernel
theorem dX9_shareOf_29 : decode cX9_shareOf 29 = .ok (.iload_n 1, 1) := by decide +kernel
theorem dX9_shareOf_30 : decode cX9_shareOf 30 = .ok (.iaload, 1) := by decide +kernel
theorem dX9_shareOf_31 : decode cX9_shareOf 31 = .ok (.imul, 1) := by decide +kernel
theorem dX9_shareOf_32 : decode cX9_shareOf 32 = .ok (.iload_n 3, 1) := by decide +kernel
theorem dX9_shareOf_33 : decode cX9_shareOf 33 = .ok (.idiv, 1) := by decide +kernel
theorem dX9_shareOf_34 : decode cX9_shareOf 34 = .ok (.ireturn, 1) := by decide +kernel
