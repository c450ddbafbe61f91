theorem dX7_takenAt_7 : decode cX7_takenAt 7 = .ok (.ifnonnull 7, 3) := by decide +kernel
theorem dX7_takenAt_10 : decode cX7_takenAt 10 = .ok (.aconst_null, 1) := by decide +kernel
theorem dX7_takenAt_11 : decode cX7_takenAt 11 = .ok (.goto 7, 3) := by decide +kernel
theorem dX7_takenAt_14 : decode cX7_takenAt 14 = .ok (.aload_n 2, 1) := by decide +kernel
theorem dX7_takenAt_15 : decode cX7_takenAt 15 = .ok (.getfield 203, 3) := by decide +kernel
theorem dX7_takenAt_18 : decode cX7_takenAt 18 = .ok (.areturn, 1) := by decide +kernel
theorem dX7_flashing_0 : decode cX7_flashing 0 = .ok (.iconst 0, 1) := by decide +kernel
theorem dX7_flashing_1 : decode cX7_flashing 1 = .ok (.istore_n 1, 1) := by decide +kernel
theorem dX7_flashing_2 : decode cX7_flashing 2 = .ok (.iconst 0, 1) := by decide +kernel
theorem dX7_flashing_3 : decode cX7_flashing 3 = .ok (.istore_n 2, 1) := by decide +kernel
theorem dX7_flashing_4 : decode cX7_flashing 4 = .ok (.iload_n 2, 1) := by decide +kernel
theorem dX7_flashing_5 : decode cX7_flashing 5 = .ok (.aload_n 0, 1) := by decide +kernel
theorem dX7_flashing_6 : decode cX7_flashing 6 = .ok (.getfield 46, 3) := by decide +kernel
theorem dX7_flashing_9 : decode cX7_flashing 9 = .ok (.if_icmp .ge 24, 3) := by decide +kernel
theorem dX7_flashing_12 : decode cX7_flashing 12 = .ok (.aload_n 0, 1) := by decide +kernel
theorem dX7_flashing_13 : decode cX7_flashing 13 = .ok (.getfield 11, 3) := by decide +kernel
theorem dX7_flashing_16 : decode cX7_flashing 16 = .ok (.iload_n 2, 1) := by decide +kernel
theorem dX7_flashing_17 : decode cX7_flashing 17 = .ok (.aaload, 1) := by decide +kernel
theorem dX7_flashing_18 : decode cX7_flashing 18 = .ok (.getfield 225, 3) := by decide +kernel
theorem dX7_flashing_21 : decode cX7_flashing 21 = .ok (.ifCond .eq 6, 3) := by decide +kernel
theorem dX7_flashing_24 : decode cX7_flashing 24 = .ok (.iinc 1 1, 3) := by decide +kernel
theorem dX7_flashing_27 : decode cX7_flashing 27 = .ok (.iinc 2 1, 3) := by decide +kernel
theorem dX7_flashing_30 : decode cX7_flashing 30 = .ok (.goto (-26), 3) := by decide +kernel
theorem dX7_flashing_33 : decode cX7_flashing 33 = .ok (.iload_n 1, 1) := by decide +kernel
theorem dX7_flashing_34 : decode cX7_flashing 34 = .ok (.ireturn, 1) := by decide +kernel
theorem dX7_tellsShortGreen_0 : decode cX7_tellsShortGreen 0 = .ok (.iconst 0, 1) := by decide +kernel
theorem dX7_tellsShortGreen_1 : decode cX7_tellsShortGreen 1 = .ok (.istore_n 3, 1) := by decide +kernel
theorem dX7_tellsShortGreen_2 : decode cX7_tellsShortGreen 2 = .ok (.iload_n 3, 1) := by decide +kernel
theorem dX7_tellsShortGreen_3 : decode cX7_tellsShortGreen 3 = .ok (.aload_n 2, 1) := by decide +kernel
theorem dX7_tellsShortGreen_4 : decode cX7_tellsShortGreen 4 = .ok (.getfield 127, 3) := by decide +kernel
theorem dX7_tellsShortGreen_7 : decode cX7_tellsShortGreen 7 = .ok (.if_icmp .ge 41, 3) := by decide +kernel
theorem dX7_tellsShortGreen_10 : decode cX7_tellsShortGreen 10 = .ok (.aload_n 1, 1) := by decide +kernel
theorem dX7_tellsShortGreen_11 : decode cX7_tellsShortGreen 11 = .ok (.aload_n 2, 1) := by decide +kernel
theorem dX7_tellsShortGreen_12 : decode cX7_tellsShortGreen 12 = .ok (.iload_n 3, 1) := by decide +kernel
theorem dX7_tellsShortGreen_13 : decode cX7_tellsShortGreen 13 = .ok (.invokevirtual 257, 3) := by decide +kernel
theorem dX7_tellsShortGreen_16 : decode cX7_tellsShortGreen 16 = .ok (.istore 4, 2) := by decide +kernel
theorem dX7_tellsShortGreen_18 : decode cX7_tellsShortGreen 18 = .ok (.iload 4, 2) := by decide +kernel
theorem dX7_tellsShortGreen_20 : decode cX7_tellsShortGreen 20 = .ok (.iconst (-1), 1) := by decide +kernel
theorem dX7_tellsShortGreen_21 : decode cX7_tellsShortGreen 21 = .ok (.if_icmp .eq 21, 3) := by decide +kernel
theorem dX7_tellsShortGreen_24 : decode cX7_tellsShortGreen 24 = .ok (.aload_n 0, 1) := by decide +kernel
theorem dX7_tellsShortGreen_25 : decode cX7_tellsShortGreen 25 = .ok (.iload_n 3, 1) := by decide +kernel
theorem dX7_tellsShortGreen_26 : decode cX7_tellsShortGreen 26 = .ok (.putfield 36, 3) := by decide +kernel
theorem dX7_tellsShortGreen_29 : decode cX7_tellsShortGreen 29 = .ok (.aload_n 0, 1) := by decide +kernel
theorem dX7_tellsShortGreen_30 : decode cX7_tellsShortGreen 30 = .ok (.iload 4, 2) := by decide +kernel
theorem dX7_tellsShortGreen_32 : decode cX7_tellsShortGreen 32 = .ok (.putfield 40, 3) := by decide +kernel
theorem dX7_tellsShortGreen_35 : decode cX7_tellsShortGreen 35 = .ok (.aload_n 0, 1) := by decide +kernel
theorem dX7_tellsShortGreen_36 : decode cX7_tellsShortGreen 36 = .ok (.iconst (-1), 1) := by decide +kernel
theorem dX7_tellsShortGreen_37 : decode cX7_tellsShortGreen 37 = .ok (.putfield 43, 3) := by decide +kernel
theorem dX7_tellsShortGreen_40 : decode cX7_tellsShortGreen 40 = .ok (.iconst 1, 1) := by decide +kernel
theorem dX7_tellsShortGreen_41 : decode cX7_tellsShortGreen 41 = .ok (.ireturn, 1) := by decide +kernel
theorem dX7_tellsShortGreen_42 : decode cX7_tellsShortGreen 42 = .ok (.iinc 3 1, 3) := by decide +kernel
theorem dX7_tellsShortGreen_45 : decode cX7_tellsShortGreen 45 = .ok (.goto (-43), 3) := by decide +kernel
theorem dX7_tellsShortGreen_48 : decode cX7_tellsShortGreen 48 = .ok (.iconst 0, 1) := by decide +kernel
theorem dX7_tellsShortGreen_49 : decode cX7_tellsShortGreen 49 = .ok (.ireturn, 1) := by decide +kernel
theorem dX7_tellsClash_0 : decode cX7_tellsClash 0 = .ok (.aload_n 0, 1) := by decide +kernel
theorem dX7_tellsClash_1 : decode cX7_tellsClash 1 = .ok (.getfield 18, 3) := by decide +kernel
theorem dX7_tellsClash_4 : decode cX7_tellsClash 4 = .ok (.aload_n 1, 1) := by decide +kernel
theorem dX7_tellsClash_5 : decode cX7_tellsClash 5 = .ok (.aload_n 2, 1) := by decide +kernel
theorem dX7_tellsClash_6 : decode cX7_tellsClash 6 = .ok (.invokevirtual 261, 3) := by decide +kernel
theorem dX7_tellsClash_9 : decode cX7_tellsClash 9 = .ok (.istore_n 3, 1) := by decide +kernel
theorem dX7_tellsClash_10 : decode cX7_tellsClash 10 = .ok (.iload_n 3, 1) := by decide +kernel
theorem dX7_tellsClash_11 : decode cX7_tellsClash 11 = .ok (.iconst (-1), 1) := by decide +kernel
theorem dX7_tellsClash_12 : decode cX7_tellsClash 12 = .ok (.if_icmp .ne 5, 3) := by decide +kernel
theorem dX7_tellsClash_15 : decode cX7_tellsClash 15 = .ok (.iconst 0, 1) := by decide +kernel
theorem dX7_tellsClash_16 : decode cX7_tellsClash 16 = .ok (.ireturn, 1) := by decide +kernel
theorem dX7_tellsClash_17 : decode cX7_tellsClash 17 = .ok (.aload_n 0, 1) := by decide +kernel
theorem dX7_tellsClash_18 : decode cX7_tellsClash 18 = .ok (.iload_n 3, 1) := by decide +kernel
theorem dX7_tellsClash_19 : decode cX7_tellsClash 19 = .ok (.putfield 36, 3) := by decide +kernel
theorem dX7_tellsClash_22 : decode cX7_tellsClash 22 = .ok (.aload_n 0, 1) := by decide +kernel
theorem dX7_tellsClash_23 : decode cX7_tellsClash 23 = .ok (.aload_n 0, 1) := by decide +kernel
theorem dX7_tellsClash_24 : decode cX7_tellsClash 24 = .ok (.getfield 18, 3) := by decide +kernel
theorem dX7_tellsClash_27 : decode cX7_tellsClash 27 = .ok (.getfield 264, 3) := by decide +kernel
theorem dX7_tellsClash_30 : decode cX7_tellsClash 30 = .ok (.putfield 40, 3) := by decide +kernel
theorem dX7_tellsClash_33 : decode cX7_tellsClash 33 = .ok (.aload_n 0, 1) := by decide +kernel
theorem dX7_tellsClash_34 : decode cX7_tellsClash 34 = .ok (.aload_n 0, 1) := by decide +kernel
theorem dX7_tellsClash_35 : decode cX7_tellsClash 35 = .ok (.getfield 18, 3) := by decide +kernel
theorem dX7_tellsClash_38 : decode cX7_tellsClash 38 = .ok (.getfield 267, 3) := by decide +kernel
theorem dX7_tellsClash_41 : decode cX7_tellsClash 41 = .ok (.putfield 43, 3) := by decide +kernel
theorem dX7_tellsClash_44 : decode cX7_tellsClash 44 = .ok (.iconst 1, 1) := by decide +kernel
theorem dX7_tellsClash_45 : decode cX7_tellsClash 45 = .ok (.ireturn, 1) := by decide +kernel
theorem dX7_layWay_0 : decode cX7_layWay 0 = .ok (.iload_n 3, 1) := by decide +kernel
theorem dX7_layWay_1 : decode cX7_layWay 1 = .ok (.iconst (-1), 1) := by decide +kernel
theorem dX7_layWay_2 : decode cX7_layWay 2 = .ok (.if_icmp .eq 7, 3) := by decide +kernel
theorem dX7_layWay_5 : decode cX7_layWay 5 = .ok (.iconst 1, 1) := by decide +kernel
theorem dX7_layWay_6 : decode cX7_layWay 6 = .ok (.goto 4, 3) := by decide +kernel
theorem dX7_layWay_9 : decode cX7_layWay 9 = .ok (.iconst 0, 1) := by decide +kernel
theorem dX7_layWay_10 : decode cX7_layWay 10 = .ok (.istore 8, 2) := by decide +kernel
theorem dX7_layWay_12 : decode cX7_layWay 12 = .ok (.iload 8, 2) := by decide +kernel
theorem dX7_layWay_14 : decode cX7_layWay 14 = .ok (.ifCond .eq 9, 3) := by decide +kernel
theorem dX7_layWay_17 : decode cX7_layWay 17 = .ok (.sipush 999, 3) := by decide +kernel
theorem dX7_layWay_20 : decode cX7_layWay 20 = .ok (.goto 5, 3) := by decide +kernel
theorem dX7_layWay_23 : decode cX7_layWay 23 = .ok (.bipush 99, 2) := by decide +kernel
theorem dX7_layWay_25 : decode cX7_layWay 25 = .ok (.istore 9, 2) := by decide +kernel
theorem dX7_layWay_27 : decode cX7_layWay 27 = .ok (.iload_n 1, 1) := by decide +kernel
theorem dX7_layWay_28 : decode cX7_layWay 28 = .ok (.iload_n 2, 1) := by decide +kernel
theorem dX7_layWay_29 : decode cX7_layWay 29 = .ok (.if_icmp .eq 66, 3) := by decide +kernel
theorem dX7_layWay_32 : decode cX7_layWay 32 = .ok (.iload_n 1, 1) := by decide +kernel
theorem dX7_layWay_33 : decode cX7_layWay 33 = .ok (.iload_n 3, 1) := by decide +kernel
theorem dX7_layWay_34 : decode cX7_layWay 34 = .ok (.if_icmp .eq 61, 3) := by decide +kernel
theorem dX7_layWay_37 : decode cX7_layWay 37 = .ok (.iload_n 2, 1) := by decide +kernel
theorem dX7_layWay_38 : decode cX7_layWay 38 = .ok (.iload_n 3, 1) := by decide +kernel
theorem dX7_layWay_39 : decode cX7_layWay 39 = .ok (.if_icmp .eq 56, 3) := by decide +kernel
theorem dX7_layWay_42 : decode cX7_layWay 42 = .ok (.iload 4, 2) := by decide +kernel
theorem dX7_layWay_44 : decode cX7_layWay 44 = .ok (.iconst 0, 1) := by decide +kernel
theorem dX7_layWay_45 : decode cX7_layWay 45 = .ok (.iload 9, 2) := by decide +kernel
theorem dX7_layWay_47 : decode cX7_layWay 47 = .ok (.invokestatic 64, 3) := by decide +kernel
theorem dX7_layWay_50 : decode cX7_layWay 50 = .ok (.ifCond .ne 45, 3) := by decide +kernel
theorem dX7_layWay_53 : decode cX7_layWay 53 = .ok (.iload 5, 2) := by decide +kernel
theorem dX7_layWay_55 : decode cX7_layWay 55 = .ok (.iconst 0, 1) := by decide +kernel
theorem dX7_layWay_56 : decode cX7_layWay 56 = .ok (.iload 9, 2) := by decide +kernel
theorem dX7_layWay_58 : decode cX7_layWay 58 = .ok (.invokestatic 64, 3) := by decide +kernel
theorem dX7_layWay_61 : decode cX7_layWay 61 = .ok (.ifCond .ne 34, 3) := by decide +kernel
theorem dX7_layWay_64 : decode cX7_layWay 64 = .ok (.iload 6, 2) := by decide +kernel
theorem dX7_layWay_66 : decode cX7_layWay 66 = .ok (.iconst 0, 1) := by decide +kernel
theorem dX7_layWay_67 : decode cX7_layWay 67 = .ok (.bipush 120, 2) := by decide +kernel
theorem dX7_layWay_69 : decode cX7_layWay 69 = .ok (.invokestatic 64, 3) := by decide +kernel
theorem dX7_layWay_72 : decode cX7_layWay 72 = .ok (.ifCond .ne 23, 3) := by decide +kernel
theorem dX7_layWay_75 : decode cX7_layWay 75 = .ok (.iload 7, 2) := by decide +kernel
theorem dX7_layWay_77 : decode cX7_layWay 77 = .ok (.iconst 0, 1) := by decide +kernel
theorem dX7_layWay_78 : decode cX7_layWay 78 = .ok (.iload 8, 2) := by decide +kernel
theorem dX7_layWay_80 : decode cX7_layWay 80 = .ok (.ifCond .eq 8, 3) := by decide +kernel
theorem dX7_layWay_83 : decode cX7_layWay 83 = .ok (.bipush 120, 2) := by decide +kernel
theorem dX7_layWay_85 : decode cX7_layWay 85 = .ok (.goto 4, 3) := by decide +kernel
theorem dX7_layWay_88 : decode cX7_layWay 88 = .ok (.iconst 0, 1) := by decide +kernel
theorem dX7_layWay_89 : decode cX7_layWay 89 = .ok (.invokestatic 64, 3) := by decide +kernel
theorem dX7_layWay_92 : decode cX7_layWay 92 = .ok (.ifCond .eq 5, 3) := by decide +kernel
theorem dX7_layWay_95 : decode cX7_layWay 95 = .ok (.iconst 0, 1) := by decide +kernel
theorem dX7_layWay_96 : decode cX7_layWay 96 = .ok (.ireturn, 1) := by decide +kernel
theorem dX7_layWay_97 : decode cX7_layWay 97 = .ok (.aload_n 0, 1) := by decide +kernel
theorem dX7_layWay_98 : decode cX7_layWay 98 = .ok (.getfield 32, 3) := by decide +kernel
theorem dX7_layWay_101 : decode cX7_layWay 101 = .ok (.iconst 0, 1) := by decide +kernel
theorem dX7_layWay_102 : decode cX7_layWay 102 = .ok (.putfield 244, 3) := by decide +kernel
theorem dX7_layWay_105 : decode cX7_layWay 105 = .ok (.aload_n 0, 1) := by decide +kernel
theorem dX7_layWay_106 : decode cX7_layWay 106 = .ok (.iload_n 1, 1) := by decide +kernel
theorem dX7_layWay_107 : decode cX7_layWay 107 = .ok (.iload 4, 2) := by decide +kernel
theorem dX7_layWay_109 : decode cX7_layWay 109 = .ok (.bipush 10, 2) := by decide +kernel
theorem dX7_layWay_111 : decode cX7_layWay 111 = .ok (.irem, 1) := by decide +kernel
theorem dX7_layWay_112 : decode cX7_layWay 112 = .ok (.iload 5, 2) := by decide +kernel
theorem dX7_layWay_114 : decode cX7_layWay 114 = .ok (.bipush 10, 2) := by decide +kernel
theorem dX7_layWay_116 : decode cX7_layWay 116 = .ok (.irem, 1) := by decide +kernel
theorem dX7_layWay_117 : decode cX7_layWay 117 = .ok (.iconst 0, 1) := by decide +kernel
theorem dX7_layWay_118 : decode cX7_layWay 118 = .ok (.iload 6, 2) := by decide +kernel
theorem dX7_layWay_120 : decode cX7_layWay 120 = .ok (.iload 7, 2) := by decide +kernel
theorem dX7_layWay_122 : decode cX7_layWay 122 = .ok (.iadd, 1) := by decide +kernel
theorem dX7_layWay_123 : decode cX7_layWay 123 = .ok (.invokevirtual 270, 3) := by decide +kernel
theorem dX7_layWay_126 : decode cX7_layWay 126 = .ok (.ifCond .eq 64, 3) := by decide +kernel
theorem dX7_layWay_129 : decode cX7_layWay 129 = .ok (.aload_n 0, 1) := by decide +kernel
theorem dX7_layWay_130 : decode cX7_layWay 130 = .ok (.iload_n 2, 1) := by decide +kernel
theorem dX7_layWay_131 : decode cX7_layWay 131 = .ok (.iload 4, 2) := by decide +kernel
theorem dX7_layWay_133 : decode cX7_layWay 133 = .ok (.bipush 10, 2) := by decide +kernel
theorem dX7_layWay_135 : decode cX7_layWay 135 = .ok (.idiv, 1) := by decide +kernel
theorem dX7_layWay_136 : decode cX7_layWay 136 = .ok (.bipush 10, 2) := by decide +kernel
theorem dX7_layWay_138 : decode cX7_layWay 138 = .ok (.irem, 1) := by decide +kernel
theorem dX7_layWay_139 : decode cX7_layWay 139 = .ok (.iload 5, 2) := by decide +kernel
theorem dX7_layWay_141 : decode cX7_layWay 141 = .ok (.bipush 10, 2) := by decide +kernel
theorem dX7_layWay_143 : decode cX7_layWay 143 = .ok (.idiv, 1) := by decide +kernel
theorem dX7_layWay_144 : decode cX7_layWay 144 = .ok (.bipush 10, 2) := by decide +kernel
theorem dX7_layWay_146 : decode cX7_layWay 146 = .ok (.irem, 1) := by decide +kernel
theorem dX7_layWay_147 : decode cX7_layWay 147 = .ok (.iload 6, 2) := by decide +kernel
theorem dX7_layWay_149 : decode cX7_layWay 149 = .ok (.iload 7, 2) := by decide +kernel
theorem dX7_layWay_151 : decode cX7_layWay 151 = .ok (.invokevirtual 270, 3) := by decide +kernel
theorem dX7_layWay_154 : decode cX7_layWay 154 = .ok (.ifCond .eq 36, 3) := by decide +kernel
theorem dX7_layWay_157 : decode cX7_layWay 157 = .ok (.iload 8, 2) := by decide +kernel
theorem dX7_layWay_159 : decode cX7_layWay 159 = .ok (.ifCond .eq 27, 3) := by decide +kernel
theorem dX7_layWay_162 : decode cX7_layWay 162 = .ok (.aload_n 0, 1) := by decide +kernel
theorem dX7_layWay_163 : decode cX7_layWay 163 = .ok (.iload_n 3, 1) := by decide +kernel
theorem dX7_layWay_164 : decode cX7_layWay 164 = .ok (.iload 4, 2) := by decide +kernel
theorem dX7_layWay_166 : decode cX7_layWay 166 = .ok (.bipush 100, 2) := by decide +kernel
theorem dX7_layWay_168 : decode cX7_layWay 168 = .ok (.idiv, 1) := by decide +kernel
theorem dX7_layWay_169 : decode cX7_layWay 169 = .ok (.iload 5, 2) := by decide +kernel
theorem dX7_layWay_171 : decode cX7_layWay 171 = .ok (.bipush 100, 2) := by decide +kernel
theorem dX7_layWay_173 : decode cX7_layWay 173 = .ok (.idiv, 1) := by decide +kernel
theorem dX7_layWay_174 : decode cX7_layWay 174 = .ok (.iload 6, 2) := by decide +kernel
theorem dX7_layWay_176 : decode cX7_layWay 176 = .ok (.iload 7, 2) := by decide +kernel
theorem dX7_layWay_178 : decode cX7_layWay 178 = .ok (.iadd, 1) := by decide +kernel
theorem dX7_layWay_179 : decode cX7_layWay 179 = .ok (.iconst 0, 1) := by decide +kernel
theorem dX7_layWay_180 : decode cX7_layWay 180 = .ok (.invokevirtual 270, 3) := by decide +kernel
theorem dX7_layWay_183 : decode cX7_layWay 183 = .ok (.ifCond .eq 7, 3) := by decide +kernel
theorem dX7_layWay_186 : decode cX7_layWay 186 = .ok (.iconst 1, 1) := by decide +kernel
theorem dX7_layWay_187 : decode cX7_layWay 187 = .ok (.goto 4, 3) := by decide +kernel
theorem dX7_layWay_190 : decode cX7_layWay 190 = .ok (.iconst 0, 1) := by decide +kernel
theorem dX7_layWay_191 : decode cX7_layWay 191 = .ok (.ireturn, 1) := by decide +kernel
theorem dX7_laysStop_0 : decode cX7_laysStop 0 = .ok (.aload_n 0, 1) := by decide +kernel
theorem dX7_laysStop_1 : decode cX7_laysStop 1 = .ok (.iload_n 1, 1) := by decide +kernel
theorem dX7_laysStop_2 : decode cX7_laysStop 2 = .ok (.invokevirtual 53, 3) := by decide +kernel
theorem dX7_laysStop_5 : decode cX7_laysStop 5 = .ok (.astore 6, 2) := by decide +kernel
theorem dX7_laysStop_7 : decode cX7_laysStop 7 = .ok (.aload 6, 2) := by decide +kernel
theorem dX7_laysStop_9 : decode cX7_laysStop 9 = .ok (.ifnull 62, 3) := by decide +kernel
theorem dX7_laysStop_12 : decode cX7_laysStop 12 = .ok (.aload 6, 2) := by decide +kernel
theorem dX7_laysStop_14 : decode cX7_laysStop 14 = .ok (.getfield 203, 3) := by decide +kernel
theorem dX7_laysStop_17 : decode cX7_laysStop 17 = .ok (.ifnull 54, 3) := by decide +kernel
theorem dX7_laysStop_20 : decode cX7_laysStop 20 = .ok (.aload 6, 2) := by decide +kernel
theorem dX7_laysStop_22 : decode cX7_laysStop 22 = .ok (.iload_n 2, 1) := by decide +kernel
theorem dX7_laysStop_23 : decode cX7_laysStop 23 = .ok (.invokevirtual 77, 3) := by decide +kernel
theorem dX7_laysStop_26 : decode cX7_laysStop 26 = .ok (.ifnull 45, 3) := by decide +kernel
theorem dX7_laysStop_29 : decode cX7_laysStop 29 = .ok (.aload 6, 2) := by decide +kernel
theorem dX7_laysStop_31 : decode cX7_laysStop 31 = .ok (.iload_n 3, 1) := by decide +kernel
theorem dX7_laysStop_32 : decode cX7_laysStop 32 = .ok (.invokevirtual 77, 3) := by decide +kernel
theorem dX7_laysStop_35 : decode cX7_laysStop 35 = .ok (.ifnull 36, 3) := by decide +kernel
theorem dX7_laysStop_38 : decode cX7_laysStop 38 = .ok (.aload_n 0, 1) := by decide +kernel
theorem dX7_laysStop_39 : decode cX7_laysStop 39 = .ok (.getfield 32, 3) := by decide +kernel
theorem dX7_laysStop_42 : decode cX7_laysStop 42 = .ok (.getfield 244, 3) := by decide +kernel
theorem dX7_laysStop_45 : decode cX7_laysStop 45 = .ok (.ifCond .le 28, 3) := by decide +kernel
theorem dX7_laysStop_48 : decode cX7_laysStop 48 = .ok (.aload 6, 2) := by decide +kernel
theorem dX7_laysStop_50 : decode cX7_laysStop 50 = .ok (.getfield 203, 3) := by decide +kernel
theorem dX7_laysStop_53 : decode cX7_laysStop 53 = .ok (.getfield 127, 3) := by decide +kernel
theorem dX7_laysStop_56 : decode cX7_laysStop 56 = .ok (.aload_n 0, 1) := by decide +kernel
theorem dX7_laysStop_57 : decode cX7_laysStop 57 = .ok (.getfield 32, 3) := by decide +kernel
theorem dX7_laysStop_60 : decode cX7_laysStop 60 = .ok (.getfield 274, 3) := by decide +kernel
theorem dX7_laysStop_63 : decode cX7_laysStop 63 = .ok (.iconst 0, 1) := by decide +kernel
theorem dX7_laysStop_64 : decode cX7_laysStop 64 = .ok (.aaload, 1) := by decide +kernel
theorem dX7_laysStop_65 : decode cX7_laysStop 65 = .ok (.getfield 127, 3) := by decide +kernel
theorem dX7_laysStop_68 : decode cX7_laysStop 68 = .ok (.if_icmp .eq 5, 3) := by decide +kernel
theorem dX7_laysStop_71 : decode cX7_laysStop 71 = .ok (.iconst 0, 1) := by decide +kernel
theorem dX7_laysStop_72 : decode cX7_laysStop 72 = .ok (.ireturn, 1) := by decide +kernel
theorem dX7_laysStop_73 : decode cX7_laysStop 73 = .ok (.aload_n 0, 1) := by decide +kernel
theorem dX7_laysStop_74 : decode cX7_laysStop 74 = .ok (.getfield 32, 3) := by decide +kernel
theorem dX7_laysStop_77 : decode cX7_laysStop 77 = .ok (.aload 6, 2) := by decide +kernel
theorem dX7_laysStop_79 : decode cX7_laysStop 79 = .ok (.getfield 203, 3) := by decide +kernel
theorem dX7_laysStop_82 : decode cX7_laysStop 82 = .ok (.iload_n 2, 1) := by decide +kernel
theorem dX7_laysStop_83 : decode cX7_laysStop 83 = .ok (.iload_n 3, 1) := by decide +kernel
theorem dX7_laysStop_84 : decode cX7_laysStop 84 = .ok (.iload 4, 2) := by decide +kernel
theorem dX7_laysStop_86 : decode cX7_laysStop 86 = .ok (.iload 5, 2) := by decide +kernel
theorem dX7_laysStop_88 : decode cX7_laysStop 88 = .ok (.invokevirtual 278, 3) := by decide +kernel
theorem dX7_laysStop_91 : decode cX7_laysStop 91 = .ok (.iconst 1, 1) := by decide +kernel
theorem dX7_laysStop_92 : decode cX7_laysStop 92 = .ok (.ireturn, 1) := by decide +kernel
theorem dX8_init_0 : decode cX8_init 0 = .ok (.aload_n 0, 1) := by decide +kernel
theorem dX8_init_1 : decode cX8_init 1 = .ok (.invokespecial 1, 3) := by decide +kernel
theorem dX8_init_4 : decode cX8_init 4 = .ok (.aload_n 0, 1) := by decide +kernel
theorem dX8_init_5 : decode cX8_init 5 = .ok (.bipush 8, 2) := by decide +kernel
theorem dX8_init_7 : decode cX8_init 7 = .ok (.newarray .int, 2) := by decide +kernel
theorem dX8_init_9 : decode cX8_init 9 = .ok (.putfield 7, 3) := by decide +kernel
theorem dX8_init_12 : decode cX8_init 12 = .ok (.aload_n 0, 1) := by decide +kernel
theorem dX8_init_13 : decode cX8_init 13 = .ok (.bipush 64, 2) := by decide +kernel
theorem dX8_init_15 : decode cX8_init 15 = .ok (.newarray .int, 2) := by decide +kernel
theorem dX8_init_17 : decode cX8_init 17 = .ok (.putfield 13, 3) := by decide +kernel
theorem dX8_init_20 : decode cX8_init 20 = .ok (.aload_n 0, 1) := by decide +kernel
theorem dX8_init_21 : decode cX8_init 21 = .ok (.bipush 64, 2) := by decide +kernel
theorem dX8_init_23 : decode cX8_init 23 = .ok (.newarray .int, 2) := by decide +kernel
theorem dX8_init_25 : decode cX8_init 25 = .ok (.putfield 16, 3) := by decide +kernel
theorem dX8_init_28 : decode cX8_init 28 = .ok (.aload_n 0, 1) := by decide +kernel
theorem dX8_init_29 : decode cX8_init 29 = .ok (.bipush 64, 2) := by decide +kernel
theorem dX8_init_31 : decode cX8_init 31 = .ok (.newarray .int, 2) := by decide +kernel
theorem dX8_init_33 : decode cX8_init 33 = .ok (.putfield 19, 3) := by decide +kernel
theorem dX8_init_36 : decode cX8_init 36 = .ok (.aload_n 0, 1) := by decide +kernel
theorem dX8_init_37 : decode cX8_init 37 = .ok (.bipush 64, 2) := by decide +kernel
theorem dX8_init_39 : decode cX8_init 39 = .ok (.newarray .int, 2) := by decide +kernel
theorem dX8_init_41 : decode cX8_init 41 = .ok (.putfield 22, 3) := by decide +kernel
theorem dX8_init_44 : decode cX8_init 44 = .ok (.aload_n 0, 1) := by decide +kernel
theorem dX8_init_45 : decode cX8_init 45 = .ok (.sipush 512, 3) := by decide +kernel
theorem dX8_init_48 : decode cX8_init 48 = .ok (.newarray .int, 2) := by decide +kernel
theorem dX8_init_50 : decode cX8_init 50 = .ok (.putfield 25, 3) := by decide +kernel
theorem dX8_init_53 : decode cX8_init 53 = .ok (.aload_n 0, 1) := by decide +kernel
theorem dX8_init_54 : decode cX8_init 54 = .ok (.sipush 512, 3) := by decide +kernel
theorem dX8_init_57 : decode cX8_init 57 = .ok (.newarray .boolean, 2) := by decide +kernel
theorem dX8_init_59 : decode cX8_init 59 = .ok (.putfield 28, 3) := by decide +kernel
theorem dX8_init_62 : decode cX8_init 62 = .ok (.aload_n 0, 1) := by decide +kernel
theorem dX8_init_63 : decode cX8_init 63 = .ok (.bipush 16, 2) := by decide +kernel
theorem dX8_init_65 : decode cX8_init 65 = .ok (.newarray .boolean, 2) := by decide +kernel
theorem dX8_init_67 : decode cX8_init 67 = .ok (.putfield 32, 3) := by decide +kernel
theorem dX8_init_70 : decode cX8_init 70 = .ok (.aload_n 0, 1) := by decide +kernel
theorem dX8_init_71 : decode cX8_init 71 = .ok (.bipush 16, 2) := by decide +kernel
theorem dX8_init_73 : decode cX8_init 73 = .ok (.newarray .int, 2) := by decide +kernel
theorem dX8_init_75 : decode cX8_init 75 = .ok (.putfield 35, 3) := by decide +kernel
theorem dX8_init_78 : decode cX8_init 78 = .ok (.aload_n 0, 1) := by decide +kernel
theorem dX8_init_79 : decode cX8_init 79 = .ok (.bipush 16, 2) := by decide +kernel
theorem dX8_init_81 : decode cX8_init 81 = .ok (.newarray .int, 2) := by decide +kernel
theorem dX8_init_83 : decode cX8_init 83 = .ok (.putfield 38, 3) := by decide +kernel
theorem dX8_init_86 : decode cX8_init 86 = .ok (.aload_n 0, 1) := by decide +kernel
theorem dX8_init_87 : decode cX8_init 87 = .ok (.bipush 64, 2) := by decide +kernel
theorem dX8_init_89 : decode cX8_init 89 = .ok (.newarray .int, 2) := by decide +kernel
theorem dX8_init_91 : decode cX8_init 91 = .ok (.putfield 41, 3) := by decide +kernel
theorem dX8_init_94 : decode cX8_init 94 = .ok (.aload_n 0, 1) := by decide +kernel
theorem dX8_init_95 : decode cX8_init 95 = .ok (.bipush 64, 2) := by decide +kernel
theorem dX8_init_97 : decode cX8_init 97 = .ok (.newarray .int, 2) := by decide +kernel
theorem dX8_init_99 : decode cX8_init 99 = .ok (.putfield 44, 3) := by decide +kernel
theorem dX8_init_102 : decode cX8_init 102 = .ok (.aload_n 0, 1) := by decide +kernel
theorem dX8_init_103 : decode cX8_init 103 = .ok (.bipush 16, 2) := by decide +kernel
theorem dX8_init_105 : decode cX8_init 105 = .ok (.newarray .int, 2) := by decide +kernel
theorem dX8_init_107 : decode cX8_init 107 = .ok (.putfield 47, 3) := by decide +kernel
theorem dX8_init_110 : decode cX8_init 110 = .ok (.aload_n 0, 1) := by decide +kernel
theorem dX8_init_111 : decode cX8_init 111 = .ok (.bipush 8, 2) := by decide +kernel
theorem dX8_init_113 : decode cX8_init 113 = .ok (.newarray .int, 2) := by decide +kernel
theorem dX8_init_115 : decode cX8_init 115 = .ok (.putfield 50, 3) := by decide +kernel
theorem dX8_init_118 : decode cX8_init 118 = .ok (.aload_n 0, 1) := by decide +kernel
theorem dX8_init_119 : decode cX8_init 119 = .ok (.bipush 8, 2) := by decide +kernel
theorem dX8_init_121 : decode cX8_init 121 = .ok (.newarray .int, 2) := by decide +kernel
theorem dX8_init_123 : decode cX8_init 123 = .ok (.putfield 53, 3) := by decide +kernel
theorem dX8_init_126 : decode cX8_init 126 = .ok (.aload_n 0, 1) := by decide +kernel
theorem dX8_init_127 : decode cX8_init 127 = .ok (.bipush 8, 2) := by decide +kernel
theorem dX8_init_129 : decode cX8_init 129 = .ok (.newarray .boolean, 2) := by decide +kernel
theorem dX8_init_131 : decode cX8_init 131 = .ok (.putfield 56, 3) := by decide +kernel
theorem dX8_init_134 : decode cX8_init 134 = .ok (.aload_n 0, 1) := by decide +kernel
theorem dX8_init_135 : decode cX8_init 135 = .ok (.iconst (-1), 1) := by decide +kernel
theorem dX8_init_136 : decode cX8_init 136 = .ok (.putfield 59, 3) := by decide +kernel
theorem dX8_init_139 : decode cX8_init 139 = .ok (.aload_n 0, 1) := by decide +kernel
theorem dX8_init_140 : decode cX8_init 140 = .ok (.iconst (-1), 1) := by decide +kernel
theorem dX8_init_141 : decode cX8_init 141 = .ok (.putfield 63, 3) := by decide +kernel
theorem dX8_init_144 : decode cX8_init 144 = .ok (.aload_n 0, 1) := by decide +kernel
theorem dX8_init_145 : decode cX8_init 145 = .ok (.iconst (-1), 1) := by decide +kernel
theorem dX8_init_146 : decode cX8_init 146 = .ok (.putfield 66, 3) := by decide +kernel
theorem dX8_init_149 : decode cX8_init 149 = .ok (.aload_n 0, 1) := by decide +kernel
theorem dX8_init_150 : decode cX8_init 150 = .ok (.sipush 1440, 3) := by decide +kernel
theorem dX8_init_153 : decode cX8_init 153 = .ok (.newarray .int, 2) := by decide +kernel
theorem dX8_init_155 : decode cX8_init 155 = .ok (.putfield 69, 3) := by decide +kernel
theorem dX8_init_158 : decode cX8_init 158 = .ok (.aload_n 0, 1) := by decide +kernel
theorem dX8_init_159 : decode cX8_init 159 = .ok (.sipush 1440, 3) := by decide +kernel
theorem dX8_init_162 : decode cX8_init 162 = .ok (.newarray .int, 2) := by decide +kernel
theorem dX8_init_164 : decode cX8_init 164 = .ok (.putfield 72, 3) := by decide +kernel
theorem dX8_init_167 : decode cX8_init 167 = .ok (.aload_n 0, 1) := by decide +kernel
theorem dX8_init_168 : decode cX8_init 168 = .ok (.bipush 16, 2) := by decide +kernel
theorem dX8_init_170 : decode cX8_init 170 = .ok (.newarray .int, 2) := by decide +kernel
theorem dX8_init_172 : decode cX8_init 172 = .ok (.putfield 75, 3) := by decide +kernel
theorem dX8_init_175 : decode cX8_init 175 = .ok (.aload_n 0, 1) := by decide +kernel
theorem dX8_init_176 : decode cX8_init 176 = .ok (.iconst 4, 1) := by decide +kernel
theorem dX8_init_177 : decode cX8_init 177 = .ok (.newarray .int, 2) := by decide +kernel
theorem dX8_init_179 : decode cX8_init 179 = .ok (.putfield 78, 3) := by decide +kernel
theorem dX8_init_182 : decode cX8_init 182 = .ok (.aload_n 0, 1) := by decide +kernel
theorem dX8_init_183 : decode cX8_init 183 = .ok (.iconst 4, 1) := by decide +kernel
theorem dX8_init_184 : decode cX8_init 184 = .ok (.newarray .int, 2) := by decide +kernel
theorem dX8_init_186 : decode cX8_init 186 = .ok (.putfield 81, 3) := by decide +kernel
theorem dX8_init_189 : decode cX8_init 189 = .ok (.aload_n 0, 1) := by decide +kernel
theorem dX8_init_190 : decode cX8_init 190 = .ok (.bipush 64, 2) := by decide +kernel
theorem dX8_init_192 : decode cX8_init 192 = .ok (.newarray .boolean, 2) := by decide +kernel
theorem dX8_init_194 : decode cX8_init 194 = .ok (.putfield 84, 3) := by decide +kernel
theorem dX8_init_197 : decode cX8_init 197 = .ok (.aload_n 0, 1) := by decide +kernel
theorem dX8_init_198 : decode cX8_init 198 = .ok (.bipush 64, 2) := by decide +kernel
theorem dX8_init_200 : decode cX8_init 200 = .ok (.newarray .int, 2) := by decide +kernel
theorem dX8_init_202 : decode cX8_init 202 = .ok (.putfield 87, 3) := by decide +kernel
theorem dX8_init_205 : decode cX8_init 205 = .ok (.aload_n 0, 1) := by decide +kernel
theorem dX8_init_206 : decode cX8_init 206 = .ok (.bipush 64, 2) := by decide +kernel
theorem dX8_init_208 : decode cX8_init 208 = .ok (.newarray .int, 2) := by decide +kernel
theorem dX8_init_210 : decode cX8_init 210 = .ok (.putfield 90, 3) := by decide +kernel
theorem dX8_init_213 : decode cX8_init 213 = .ok (.aload_n 0, 1) := by decide +kernel
theorem dX8_init_214 : decode cX8_init 214 = .ok (.bipush 64, 2) := by decide +kernel
theorem dX8_init_216 : decode cX8_init 216 = .ok (.newarray .int, 2) := by decide +kernel
theorem dX8_init_218 : decode cX8_init 218 = .ok (.putfield 93, 3) := by decide +kernel
theorem dX8_init_221 : decode cX8_init 221 = .ok (.aload_n 0, 1) := by decide +kernel
theorem dX8_init_222 : decode cX8_init 222 = .ok (.bipush 64, 2) := by decide +kernel
theorem dX8_init_224 : decode cX8_init 224 = .ok (.newarray .int, 2) := by decide +kernel
theorem dX8_init_226 : decode cX8_init 226 = .ok (.putfield 96, 3) := by decide +kernel
theorem dX8_init_229 : decode cX8_init 229 = .ok (.aload_n 0, 1) := by decide +kernel
theorem dX8_init_230 : decode cX8_init 230 = .ok (.sipush 3840, 3) := by decide +kernel
theorem dX8_init_233 : decode cX8_init 233 = .ok (.newarray .int, 2) := by decide +kernel
theorem dX8_init_235 : decode cX8_init 235 = .ok (.putfield 99, 3) := by decide +kernel
theorem dX8_init_238 : decode cX8_init 238 = .ok (.aload_n 0, 1) := by decide +kernel
theorem dX8_init_239 : decode cX8_init 239 = .ok (.bipush 64, 2) := by decide +kernel
theorem dX8_init_241 : decode cX8_init 241 = .ok (.newarray .int, 2) := by decide +kernel
theorem dX8_init_243 : decode cX8_init 243 = .ok (.putfield 102, 3) := by decide +kernel
theorem dX8_init_246 : decode cX8_init 246 = .ok (.aload_n 0, 1) := by decide +kernel
theorem dX8_init_247 : decode cX8_init 247 = .ok (.bipush 64, 2) := by decide +kernel
theorem dX8_init_249 : decode cX8_init 249 = .ok (.newarray .int, 2) := by decide +kernel
theorem dX8_init_251 : decode cX8_init 251 = .ok (.putfield 105, 3) := by decide +kernel
theorem dX8_init_254 : decode cX8_init 254 = .ok (.aload_n 0, 1) := by decide +kernel
theorem dX8_init_255 : decode cX8_init 255 = .ok (.bipush 64, 2) := by decide +kernel
theorem dX8_init_257 : decode cX8_init 257 = .ok (.newarray .long, 2) := by decide +kernel
theorem dX8_init_259 : decode cX8_init 259 = .ok (.putfield 108, 3) := by decide +kernel
theorem dX8_init_262 : decode cX8_init 262 = .ok (.aload_n 0, 1) := by decide +kernel
theorem dX8_init_263 : decode cX8_init 263 = .ok (.bipush 64, 2) := by decide +kernel
theorem dX8_init_265 : decode cX8_init 265 = .ok (.newarray .long, 2) := by decide +kernel
theorem dX8_init_267 : decode cX8_init 267 = .ok (.putfield 112, 3) := by decide +kernel
theorem dX8_init_270 : decode cX8_init 270 = .ok (.aload_n 0, 1) := by decide +kernel
theorem dX8_init_271 : decode cX8_init 271 = .ok (.bipush 64, 2) := by decide +kernel
theorem dX8_init_273 : decode cX8_init 273 = .ok (.newarray .long, 2) := by decide +kernel
theorem dX8_init_275 : decode cX8_init 275 = .ok (.putfield 115, 3) := by decide +kernel
theorem dX8_init_278 : decode cX8_init 278 = .ok (.aload_n 0, 1) := by decide +kernel
theorem dX8_init_279 : decode cX8_init 279 = .ok (.bipush 64, 2) := by decide +kernel
theorem dX8_init_281 : decode cX8_init 281 = .ok (.newarray .long, 2) := by decide +kernel
theorem dX8_init_283 : decode cX8_init 283 = .ok (.putfield 118, 3) := by decide +kernel
theorem dX8_init_286 : decode cX8_init 286 = .ok (.aload_n 0, 1) := by decide +kernel
theorem dX8_init_287 : decode cX8_init 287 = .ok (.bipush 64, 2) := by decide +kernel
theorem dX8_init_289 : decode cX8_init 289 = .ok (.newarray .long, 2) := by decide +kernel
theorem dX8_init_291 : decode cX8_init 291 = .ok (.putfield 121, 3) := by decide +kernel
theorem dX8_init_294 : decode cX8_init 294 = .ok (.aload_n 0, 1) := by decide +kernel
theorem dX8_init_295 : decode cX8_init 295 = .ok (.bipush 64, 2) := by decide +kernel
theorem dX8_init_297 : decode cX8_init 297 = .ok (.newarray .long, 2) := by decide +kernel
theorem dX8_init_299 : decode cX8_init 299 = .ok (.putfield 124, 3) := by decide +kernel
theorem dX8_init_302 : decode cX8_init 302 = .ok (.aload_n 0, 1) := by decide +kernel
theorem dX8_init_303 : decode cX8_init 303 = .ok (.bipush 64, 2) := by decide +kernel
theorem dX8_init_305 : decode cX8_init 305 = .ok (.newarray .boolean, 2) := by decide +kernel
theorem dX8_init_307 : decode cX8_init 307 = .ok (.putfield 127, 3) := by decide +kernel
theorem dX8_init_310 : decode cX8_init 310 = .ok (.aload_n 0, 1) := by decide +kernel
theorem dX8_init_311 : decode cX8_init 311 = .ok (.sipush 1600, 3) := by decide +kernel
theorem dX8_init_314 : decode cX8_init 314 = .ok (.newarray .int, 2) := by decide +kernel
theorem dX8_init_316 : decode cX8_init 316 = .ok (.putfield 130, 3) := by decide +kernel
theorem dX8_init_319 : decode cX8_init 319 = .ok (.aload_n 0, 1) := by decide +kernel
theorem dX8_init_320 : decode cX8_init 320 = .ok (.iconst 3, 1) := by decide +kernel
theorem dX8_init_321 : decode cX8_init 321 = .ok (.newarray .int, 2) := by decide +kernel
theorem dX8_init_323 : decode cX8_init 323 = .ok (.putfield 133, 3) := by decide +kernel
theorem dX8_init_326 : decode cX8_init 326 = .ok (.aload_n 0, 1) := by decide +kernel
theorem dX8_init_327 : decode cX8_init 327 = .ok (.iconst 3, 1) := by decide +kernel
theorem dX8_init_328 : decode cX8_init 328 = .ok (.newarray .int, 2) := by decide +kernel
theorem dX8_init_330 : decode cX8_init 330 = .ok (.putfield 136, 3) := by decide +kernel
theorem dX8_init_333 : decode cX8_init 333 = .ok (.return_, 1) := by decide +kernel
theorem dX8_isIn_0 : decode cX8_isIn 0 = .ok (.iload_n 0, 1) := by decide +kernel
theorem dX8_isIn_1 : decode cX8_isIn 1 = .ok (.iload_n 1, 1) := by decide +kernel
theorem dX8_isIn_2 : decode cX8_isIn 2 = .ok (.if_icmp .lt 12, 3) := by decide +kernel
theorem dX8_isIn_5 : decode cX8_isIn 5 = .ok (.iload_n 0, 1) := by decide +kernel
theorem dX8_isIn_6 : decode cX8_isIn 6 = .ok (.iload_n 2, 1) := by decide +kernel
theorem dX8_isIn_7 : decode cX8_isIn 7 = .ok (.if_icmp .gt 7, 3) := by decide +kernel
theorem dX8_isIn_10 : decode cX8_isIn 10 = .ok (.iconst 1, 1) := by decide +kernel
theorem dX8_isIn_11 : decode cX8_isIn 11 = .ok (.goto 4, 3) := by decide +kernel
theorem dX8_isIn_14 : decode cX8_isIn 14 = .ok (.iconst 0, 1) := by decide +kernel
theorem dX8_isIn_15 : decode cX8_isIn 15 = .ok (.ireturn, 1) := by decide +kernel
theorem dX8_isJunction_0 : decode cX8_isJunction 0 = .ok (.iload_n 1, 1) := by decide +kernel
theorem dX8_isJunction_1 : decode cX8_isJunction 1 = .ok (.ifCond .lt 15, 3) := by decide +kernel
theorem dX8_isJunction_4 : decode cX8_isJunction 4 = .ok (.iload_n 1, 1) := by decide +kernel
theorem dX8_isJunction_5 : decode cX8_isJunction 5 = .ok (.aload_n 0, 1) := by decide +kernel
theorem dX8_isJunction_6 : decode cX8_isJunction 6 = .ok (.getfield 139, 3) := by decide +kernel
theorem dX8_isJunction_9 : decode cX8_isJunction 9 = .ok (.if_icmp .ge 7, 3) := by decide +kernel
theorem dX8_isJunction_12 : decode cX8_isJunction 12 = .ok (.iconst 1, 1) := by decide +kernel
theorem dX8_isJunction_13 : decode cX8_isJunction 13 = .ok (.goto 4, 3) := by decide +kernel
theorem dX8_isJunction_16 : decode cX8_isJunction 16 = .ok (.iconst 0, 1) := by decide +kernel
theorem dX8_isJunction_17 : decode cX8_isJunction 17 = .ok (.ireturn, 1) := by decide +kernel
theorem dX8_isStream_0 : decode cX8_isStream 0 = .ok (.aload_n 0, 1) := by decide +kernel
theorem dX8_isStream_1 : decode cX8_isStream 1 = .ok (.iload_n 1, 1) := by decide +kernel
theorem dX8_isStream_2 : decode cX8_isStream 2 = .ok (.invokevirtual 142, 3) := by decide +kernel
theorem dX8_isStream_5 : decode cX8_isStream 5 = .ok (.ifCond .eq 21, 3) := by decide +kernel
theorem dX8_isStream_8 : decode cX8_isStream 8 = .ok (.iload_n 2, 1) := by decide +kernel
theorem dX8_isStream_9 : decode cX8_isStream 9 = .ok (.ifCond .lt 17, 3) := by decide +kernel
theorem dX8_isStream_12 : decode cX8_isStream 12 = .ok (.iload_n 2, 1) := by decide +kernel
theorem dX8_isStream_13 : decode cX8_isStream 13 = .ok (.aload_n 0, 1) := by decide +kernel
theorem dX8_isStream_14 : decode cX8_isStream 14 = .ok (.getfield 7, 3) := by decide +kernel
theorem dX8_isStream_17 : decode cX8_isStream 17 = .ok (.iload_n 1, 1) := by decide +kernel
theorem dX8_isStream_18 : decode cX8_isStream 18 = .ok (.iaload, 1) := by decide +kernel
theorem dX8_isStream_19 : decode cX8_isStream 19 = .ok (.if_icmp .ge 7, 3) := by decide +kernel
theorem dX8_isStream_22 : decode cX8_isStream 22 = .ok (.iconst 1, 1) := by decide +kernel
theorem dX8_isStream_23 : decode cX8_isStream 23 = .ok (.goto 4, 3) := by decide +kernel
theorem dX8_isStream_26 : decode cX8_isStream 26 = .ok (.iconst 0, 1) := by decide +kernel
theorem dX8_isStream_27 : decode cX8_isStream 27 = .ok (.ireturn, 1) := by decide +kernel
theorem dX8_isPlanned_0 : decode cX8_isPlanned 0 = .ok (.aload_n 0, 1) := by decide +kernel
theorem dX8_isPlanned_1 : decode cX8_isPlanned 1 = .ok (.getfield 32, 3) := by decide +kernel
theorem dX8_isPlanned_4 : decode cX8_isPlanned 4 = .ok (.iload_n 1, 1) := by decide +kernel
theorem dX8_isPlanned_5 : decode cX8_isPlanned 5 = .ok (.baload, 1) := by decide +kernel
theorem dX8_isPlanned_6 : decode cX8_isPlanned 6 = .ok (.ifCond .ne 15, 3) := by decide +kernel
theorem dX8_isPlanned_9 : decode cX8_isPlanned 9 = .ok (.aload_n 0, 1) := by decide +kernel
theorem dX8_isPlanned_10 : decode cX8_isPlanned 10 = .ok (.getfield 32, 3) := by decide +kernel
theorem dX8_isPlanned_13 : decode cX8_isPlanned 13 = .ok (.bipush 8, 2) := by decide +kernel
theorem dX8_isPlanned_15 : decode cX8_isPlanned 15 = .ok (.iload_n 1, 1) := by decide +kernel
theorem dX8_isPlanned_16 : decode cX8_isPlanned 16 = .ok (.iadd, 1) := by decide +kernel
theorem dX8_isPlanned_17 : decode cX8_isPlanned 17 = .ok (.baload, 1) := by decide +kernel
theorem dX8_isPlanned_18 : decode cX8_isPlanned 18 = .ok (.ifCond .eq 7, 3) := by decide +kernel
theorem dX8_isPlanned_21 : decode cX8_isPlanned 21 = .ok (.iconst 1, 1) := by decide +kernel
theorem dX8_isPlanned_22 : decode cX8_isPlanned 22 = .ok (.goto 4, 3) := by decide +kernel
theorem dX8_isPlanned_25 : decode cX8_isPlanned 25 = .ok (.iconst 0, 1) := by decide +kernel
theorem dX8_isPlanned_26 : decode cX8_isPlanned 26 = .ok (.ireturn, 1) := by decide +kernel
theorem dX8_junction_0 : decode cX8_junction 0 = .ok (.aload_n 0, 1) := by decide +kernel
theorem dX8_junction_1 : decode cX8_junction 1 = .ok (.getfield 139, 3) := by decide +kernel
theorem dX8_junction_4 : decode cX8_junction 4 = .ok (.bipush 8, 2) := by decide +kernel
theorem dX8_junction_6 : decode cX8_junction 6 = .ok (.if_icmp .eq 10, 3) := by decide +kernel
theorem dX8_junction_9 : decode cX8_junction 9 = .ok (.aload_n 0, 1) := by decide +kernel
theorem dX8_junction_10 : decode cX8_junction 10 = .ok (.getfield 146, 3) := by decide +kernel
theorem dX8_junction_13 : decode cX8_junction 13 = .ok (.ifCond .le 5, 3) := by decide +kernel
theorem dX8_junction_16 : decode cX8_junction 16 = .ok (.iconst (-1), 1) := by decide +kernel
theorem dX8_junction_17 : decode cX8_junction 17 = .ok (.ireturn, 1) := by decide +kernel
theorem dX8_junction_18 : decode cX8_junction 18 = .ok (.aload_n 0, 1) := by decide +kernel
theorem dX8_junction_19 : decode cX8_junction 19 = .ok (.dup, 1) := by decide +kernel
theorem dX8_junction_20 : decode cX8_junction 20 = .ok (.getfield 139, 3) := by decide +kernel
theorem dX8_junction_23 : decode cX8_junction 23 = .ok (.iconst 1, 1) := by decide +kernel
theorem dX8_junction_24 : decode cX8_junction 24 = .ok (.iadd, 1) := by decide +kernel
theorem dX8_junction_25 : decode cX8_junction 25 = .ok (.putfield 139, 3) := by decide +kernel
theorem dX8_junction_28 : decode cX8_junction 28 = .ok (.aload_n 0, 1) := by decide +kernel
theorem dX8_junction_29 : decode cX8_junction 29 = .ok (.getfield 139, 3) := by decide +kernel
theorem dX8_junction_32 : decode cX8_junction 32 = .ok (.iconst 1, 1) := by decide +kernel
theorem dX8_junction_33 : decode cX8_junction 33 = .ok (.isub, 1) := by decide +kernel
theorem dX8_junction_34 : decode cX8_junction 34 = .ok (.ireturn, 1) := by decide +kernel
theorem dX8_stream_0 : decode cX8_stream 0 = .ok (.aload_n 0, 1) := by decide +kernel
theorem dX8_stream_1 : decode cX8_stream 1 = .ok (.iload_n 1, 1) := by decide +kernel
theorem dX8_stream_2 : decode cX8_stream 2 = .ok (.invokevirtual 142, 3) := by decide +kernel
theorem dX8_stream_5 : decode cX8_stream 5 = .ok (.ifCond .eq 53, 3) := by decide +kernel
theorem dX8_stream_8 : decode cX8_stream 8 = .ok (.iload_n 2, 1) := by decide +kernel
theorem dX8_stream_9 : decode cX8_stream 9 = .ok (.iconst 0, 1) := by decide +kernel
theorem dX8_stream_10 : decode cX8_stream 10 = .ok (.iconst 3, 1) := by decide +kernel
theorem dX8_stream_11 : decode cX8_stream 11 = .ok (.invokestatic 149, 3) := by decide +kernel
theorem dX8_stream_14 : decode cX8_stream 14 = .ok (.ifCond .eq 44, 3) := by decide +kernel
theorem dX8_stream_17 : decode cX8_stream 17 = .ok (.iload_n 3, 1) := by decide +kernel
theorem dX8_stream_18 : decode cX8_stream 18 = .ok (.iconst 0, 1) := by decide +kernel
theorem dX8_stream_19 : decode cX8_stream 19 = .ok (.sipush 3600, 3) := by decide +kernel
theorem dX8_stream_22 : decode cX8_stream 22 = .ok (.invokestatic 149, 3) := by decide +kernel
theorem dX8_stream_25 : decode cX8_stream 25 = .ok (.ifCond .eq 33, 3) := by decide +kernel
theorem dX8_stream_28 : decode cX8_stream 28 = .ok (.iload_n 2, 1) := by decide +kernel
theorem dX8_stream_29 : decode cX8_stream 29 = .ok (.iconst 2, 1) := by decide +kernel
theorem dX8_stream_30 : decode cX8_stream 30 = .ok (.if_icmp .ge 17, 3) := by decide +kernel
theorem dX8_stream_33 : decode cX8_stream 33 = .ok (.iload 4, 2) := by decide +kernel
theorem dX8_stream_35 : decode cX8_stream 35 = .ok (.sipush 600, 3) := by decide +kernel
theorem dX8_stream_38 : decode cX8_stream 38 = .ok (.sipush 3600, 3) := by decide +kernel
theorem dX8_stream_41 : decode cX8_stream 41 = .ok (.invokestatic 149, 3) := by decide +kernel
theorem dX8_stream_44 : decode cX8_stream 44 = .ok (.ifCond .eq 14, 3) := by decide +kernel
theorem dX8_stream_47 : decode cX8_stream 47 = .ok (.iload 5, 2) := by decide +kernel
theorem dX8_stream_49 : decode cX8_stream 49 = .ok (.iconst 4, 1) := by decide +kernel
theorem dX8_stream_50 : decode cX8_stream 50 = .ok (.bipush 30, 2) := by decide +kernel
theorem dX8_stream_52 : decode cX8_stream 52 = .ok (.invokestatic 149, 3) := by decide +kernel
theorem dX8_stream_55 : decode cX8_stream 55 = .ok (.ifCond .ne 5, 3) := by decide +kernel
theorem dX8_stream_58 : decode cX8_stream 58 = .ok (.iconst (-1), 1) := by decide +kernel
theorem dX8_stream_59 : decode cX8_stream 59 = .ok (.ireturn, 1) := by decide +kernel
theorem dX8_stream_60 : decode cX8_stream 60 = .ok (.aload_n 0, 1) := by decide +kernel
theorem dX8_stream_61 : decode cX8_stream 61 = .ok (.getfield 7, 3) := by decide +kernel
theorem dX8_stream_64 : decode cX8_stream 64 = .ok (.iload_n 1, 1) := by decide +kernel
theorem dX8_stream_65 : decode cX8_stream 65 = .ok (.iaload, 1) := by decide +kernel
theorem dX8_stream_66 : decode cX8_stream 66 = .ok (.bipush 8, 2) := by decide +kernel
theorem dX8_stream_68 : decode cX8_stream 68 = .ok (.if_icmp .eq 18, 3) := by decide +kernel
theorem dX8_stream_71 : decode cX8_stream 71 = .ok (.aload_n 0, 1) := by decide +kernel
theorem dX8_stream_72 : decode cX8_stream 72 = .ok (.iload_n 1, 1) := by decide +kernel
theorem dX8_stream_73 : decode cX8_stream 73 = .ok (.invokevirtual 153, 3) := by decide +kernel
theorem dX8_stream_76 : decode cX8_stream 76 = .ok (.ifCond .ne 10, 3) := by decide +kernel
theorem dX8_stream_79 : decode cX8_stream 79 = .ok (.aload_n 0, 1) := by decide +kernel
theorem dX8_stream_80 : decode cX8_stream 80 = .ok (.getfield 146, 3) := by decide +kernel
theorem dX8_stream_83 : decode cX8_stream 83 = .ok (.ifCond .le 5, 3) := by decide +kernel
theorem dX8_stream_86 : decode cX8_stream 86 = .ok (.iconst (-1), 1) := by decide +kernel
theorem dX8_stream_87 : decode cX8_stream 87 = .ok (.ireturn, 1) := by decide +kernel
theorem dX8_stream_88 : decode cX8_stream 88 = .ok (.bipush 8, 2) := by decide +kernel
theorem dX8_stream_90 : decode cX8_stream 90 = .ok (.iload_n 1, 1) := by decide +kernel
theorem dX8_stream_91 : decode cX8_stream 91 = .ok (.imul, 1) := by decide +kernel
theorem dX8_stream_92 : decode cX8_stream 92 = .ok (.aload_n 0, 1) := by decide +kernel
theorem dX8_stream_93 : decode cX8_stream 93 = .ok (.getfield 7, 3) := by decide +kernel
theorem dX8_stream_96 : decode cX8_stream 96 = .ok (.iload_n 1, 1) := by decide +kernel
theorem dX8_stream_97 : decode cX8_stream 97 = .ok (.iaload, 1) := by decide +kernel
theorem dX8_stream_98 : decode cX8_stream 98 = .ok (.iadd, 1) := by decide +kernel
theorem dX8_stream_99 : decode cX8_stream 99 = .ok (.istore 6, 2) := by decide +kernel
theorem dX8_stream_101 : decode cX8_stream 101 = .ok (.aload_n 0, 1) := by decide +kernel
theorem dX8_stream_102 : decode cX8_stream 102 = .ok (.getfield 7, 3) := by decide +kernel
theorem dX8_stream_105 : decode cX8_stream 105 = .ok (.iload_n 1, 1) := by decide +kernel
theorem dX8_stream_106 : decode cX8_stream 106 = .ok (.dup2, 1) := by decide +kernel
theorem dX8_stream_107 : decode cX8_stream 107 = .ok (.iaload, 1) := by decide +kernel
theorem dX8_stream_108 : decode cX8_stream 108 = .ok (.iconst 1, 1) := by decide +kernel
theorem dX8_stream_109 : decode cX8_stream 109 = .ok (.iadd, 1) := by decide +kernel
theorem dX8_stream_110 : decode cX8_stream 110 = .ok (.iastore, 1) := by decide +kernel
theorem dX8_stream_111 : decode cX8_stream 111 = .ok (.aload_n 0, 1) := by decide +kernel
theorem dX8_stream_112 : decode cX8_stream 112 = .ok (.getfield 13, 3) := by decide +kernel
theorem dX8_stream_115 : decode cX8_stream 115 = .ok (.iload 6, 2) := by decide +kernel
theorem dX8_stream_117 : decode cX8_stream 117 = .ok (.iload_n 2, 1) := by decide +kernel
theorem dX8_stream_118 : decode cX8_stream 118 = .ok (.iastore, 1) := by decide +kernel
theorem dX8_stream_119 : decode cX8_stream 119 = .ok (.aload_n 0, 1) := by decide +kernel
theorem dX8_stream_120 : decode cX8_stream 120 = .ok (.getfield 16, 3) := by decide +kernel
theorem dX8_stream_123 : decode cX8_stream 123 = .ok (.iload 6, 2) := by decide +kernel
theorem dX8_stream_125 : decode cX8_stream 125 = .ok (.iload_n 3, 1) := by decide +kernel
theorem dX8_stream_126 : decode cX8_stream 126 = .ok (.iastore, 1) := by decide +kernel
theorem dX8_stream_127 : decode cX8_stream 127 = .ok (.aload_n 0, 1) := by decide +kernel
theorem dX8_stream_128 : decode cX8_stream 128 = .ok (.getfield 19, 3) := by decide +kernel
theorem dX8_stream_131 : decode cX8_stream 131 = .ok (.iload 6, 2) := by decide +kernel
theorem dX8_stream_133 : decode cX8_stream 133 = .ok (.iload_n 2, 1) := by decide +kernel
theorem dX8_stream_134 : decode cX8_stream 134 = .ok (.iconst 2, 1) := by decide +kernel
theorem dX8_stream_135 : decode cX8_stream 135 = .ok (.if_icmp .ne 9, 3) := by decide +kernel
theorem dX8_stream_138 : decode cX8_stream 138 = .ok (.sipush 3600, 3) := by decide +kernel
theorem dX8_stream_141 : decode cX8_stream 141 = .ok (.goto 16, 3) := by decide +kernel
theorem dX8_stream_144 : decode cX8_stream 144 = .ok (.iload_n 2, 1) := by decide +kernel
theorem dX8_stream_145 : decode cX8_stream 145 = .ok (.iconst 3, 1) := by decide +kernel
theorem dX8_stream_146 : decode cX8_stream 146 = .ok (.if_icmp .ne 9, 3) := by decide +kernel
theorem dX8_stream_149 : decode cX8_stream 149 = .ok (.sipush 1200, 3) := by decide +kernel
theorem dX8_stream_152 : decode cX8_stream 152 = .ok (.goto 5, 3) := by decide +kernel
theorem dX8_stream_155 : decode cX8_stream 155 = .ok (.iload 4, 2) := by decide +kernel
theorem dX8_stream_157 : decode cX8_stream 157 = .ok (.iastore, 1) := by decide +kernel
theorem dX8_stream_158 : decode cX8_stream 158 = .ok (.aload_n 0, 1) := by decide +kernel
theorem dX8_stream_159 : decode cX8_stream 159 = .ok (.getfield 22, 3) := by decide +kernel
theorem dX8_stream_162 : decode cX8_stream 162 = .ok (.iload 6, 2) := by decide +kernel
theorem dX8_stream_164 : decode cX8_stream 164 = .ok (.iload 5, 2) := by decide +kernel
theorem dX8_stream_166 : decode cX8_stream 166 = .ok (.iload_n 2, 1) := by decide +kernel
theorem dX8_stream_167 : decode cX8_stream 167 = .ok (.iconst 1, 1) := by decide +kernel
theorem dX8_stream_168 : decode cX8_stream 168 = .ok (.if_icmp .ne 7, 3) := by decide +kernel
theorem dX8_stream_171 : decode cX8_stream 171 = .ok (.iconst 5, 1) := by decide +kernel
theorem dX8_stream_172 : decode cX8_stream 172 = .ok (.goto 14, 3) := by decide +kernel
theorem dX8_stream_175 : decode cX8_stream 175 = .ok (.iload_n 2, 1) := by decide +kernel
theorem dX8_stream_176 : decode cX8_stream 176 = .ok (.iconst 2, 1) := by decide +kernel
theorem dX8_stream_177 : decode cX8_stream 177 = .ok (.if_icmp .ne 8, 3) := by decide +kernel
theorem dX8_stream_180 : decode cX8_stream 180 = .ok (.bipush 8, 2) := by decide +kernel
theorem dX8_stream_182 : decode cX8_stream 182 = .ok (.goto 4, 3) := by decide +kernel
theorem dX8_stream_185 : decode cX8_stream 185 = .ok (.iconst 4, 1) := by decide +kernel
theorem dX8_stream_186 : decode cX8_stream 186 = .ok (.invokestatic 156, 3) := by decide +kernel
theorem dX8_stream_189 : decode cX8_stream 189 = .ok (.iastore, 1) := by decide +kernel
theorem dX8_stream_190 : decode cX8_stream 190 = .ok (.aload_n 0, 1) := by decide +kernel
theorem dX8_stream_191 : decode cX8_stream 191 = .ok (.getfield 7, 3) := by decide +kernel
theorem dX8_stream_194 : decode cX8_stream 194 = .ok (.iload_n 1, 1) := by decide +kernel
theorem dX8_stream_195 : decode cX8_stream 195 = .ok (.iaload, 1) := by decide +kernel
theorem dX8_stream_196 : decode cX8_stream 196 = .ok (.iconst 1, 1) := by decide +kernel
theorem dX8_stream_197 : decode cX8_stream 197 = .ok (.isub, 1) := by decide +kernel
theorem dX8_stream_198 : decode cX8_stream 198 = .ok (.ireturn, 1) := by decide +kernel
theorem dX8_seconds_0 : decode cX8_seconds 0 = .ok (.aload_n 0, 1) := by decide +kernel
theorem dX8_seconds_1 : decode cX8_seconds 1 = .ok (.getfield 25, 3) := by decide +kernel
theorem dX8_seconds_4 : decode cX8_seconds 4 = .ok (.bipush 64, 2) := by decide +kernel
theorem dX8_seconds_6 : decode cX8_seconds 6 = .ok (.iload_n 1, 1) := by decide +kernel
theorem dX8_seconds_7 : decode cX8_seconds 7 = .ok (.imul, 1) := by decide +kernel
theorem dX8_seconds_8 : decode cX8_seconds 8 = .ok (.bipush 8, 2) := by decide +kernel
theorem dX8_seconds_10 : decode cX8_seconds 10 = .ok (.iload_n 2, 1) := by decide +kernel
theorem dX8_seconds_11 : decode cX8_seconds 11 = .ok (.imul, 1) := by decide +kernel
theorem dX8_seconds_12 : decode cX8_seconds 12 = .ok (.iadd, 1) := by decide +kernel
theorem dX8_seconds_13 : decode cX8_seconds 13 = .ok (.iload_n 3, 1) := by decide +kernel
theorem dX8_seconds_14 : decode cX8_seconds 14 = .ok (.iadd, 1) := by decide +kernel
theorem dX8_seconds_15 : decode cX8_seconds 15 = .ok (.iaload, 1) := by decide +kernel
theorem dX8_seconds_16 : decode cX8_seconds 16 = .ok (.ireturn, 1) := by decide +kernel
theorem dX8_isYielding_0 : decode cX8_isYielding 0 = .ok (.aload_n 0, 1) := by decide +kernel
theorem dX8_isYielding_1 : decode cX8_isYielding 1 = .ok (.getfield 28, 3) := by decide +kernel
theorem dX8_isYielding_4 : decode cX8_isYielding 4 = .ok (.bipush 64, 2) := by decide +kernel
theorem dX8_isYielding_6 : decode cX8_isYielding 6 = .ok (.iload_n 1, 1) := by decide +kernel
theorem dX8_isYielding_7 : decode cX8_isYielding 7 = .ok (.imul, 1) := by decide +kernel
theorem dX8_isYielding_8 : decode cX8_isYielding 8 = .ok (.bipush 8, 2) := by decide +kernel
theorem dX8_isYielding_10 : decode cX8_isYielding 10 = .ok (.iload_n 2, 1) := by decide +kernel
theorem dX8_isYielding_11 : decode cX8_isYielding 11 = .ok (.imul, 1) := by decide +kernel
theorem dX8_isYielding_12 : decode cX8_isYielding 12 = .ok (.iadd, 1) := by decide +kernel
theorem dX8_isYielding_13 : decode cX8_isYielding 13 = .ok (.iload_n 3, 1) := by decide +kernel
theorem dX8_isYielding_14 : decode cX8_isYielding 14 = .ok (.iadd, 1) := by decide +kernel
theorem dX8_isYielding_15 : decode cX8_isYielding 15 = .ok (.baload, 1) := by decide +kernel
theorem dX8_isYielding_16 : decode cX8_isYielding 16 = .ok (.ifCond .ne 22, 3) := by decide +kernel
theorem dX8_isYielding_19 : decode cX8_isYielding 19 = .ok (.aload_n 0, 1) := by decide +kernel
theorem dX8_isYielding_20 : decode cX8_isYielding 20 = .ok (.getfield 28, 3) := by decide +kernel
theorem dX8_isYielding_23 : decode cX8_isYielding 23 = .ok (.bipush 64, 2) := by decide +kernel
theorem dX8_isYielding_25 : decode cX8_isYielding 25 = .ok (.iload_n 1, 1) := by decide +kernel
theorem dX8_isYielding_26 : decode cX8_isYielding 26 = .ok (.imul, 1) := by decide +kernel
theorem dX8_isYielding_27 : decode cX8_isYielding 27 = .ok (.bipush 8, 2) := by decide +kernel
theorem dX8_isYielding_29 : decode cX8_isYielding 29 = .ok (.iload_n 3, 1) := by decide +kernel
theorem dX8_isYielding_30 : decode cX8_isYielding 30 = .ok (.imul, 1) := by decide +kernel
theorem dX8_isYielding_31 : decode cX8_isYielding 31 = .ok (.iadd, 1) := by decide +kernel
theorem dX8_isYielding_32 : decode cX8_isYielding 32 = .ok (.iload_n 2, 1) := by decide +kernel
theorem dX8_isYielding_33 : decode cX8_isYielding 33 = .ok (.iadd, 1) := by decide +kernel
theorem dX8_isYielding_34 : decode cX8_isYielding 34 = .ok (.baload, 1) := by decide +kernel
theorem dX8_isYielding_35 : decode cX8_isYielding 35 = .ok (.ifCond .eq 7, 3) := by decide +kernel
theorem dX8_isYielding_38 : decode cX8_isYielding 38 = .ok (.iconst 1, 1) := by decide +kernel
theorem dX8_isYielding_39 : decode cX8_isYielding 39 = .ok (.goto 4, 3) := by decide +kernel
theorem dX8_isYielding_42 : decode cX8_isYielding 42 = .ok (.iconst 0, 1) := by decide +kernel
theorem dX8_isYielding_43 : decode cX8_isYielding 43 = .ok (.ireturn, 1) := by decide +kernel
theorem dX8_apart_0 : decode cX8_apart 0 = .ok (.aload_n 0, 1) := by decide +kernel
theorem dX8_apart_1 : decode cX8_apart 1 = .ok (.iload_n 1, 1) := by decide +kernel
theorem dX8_apart_2 : decode cX8_apart 2 = .ok (.iload_n 2, 1) := by decide +kernel
theorem dX8_apart_3 : decode cX8_apart 3 = .ok (.iload_n 3, 1) := by decide +kernel
theorem dX8_apart_4 : decode cX8_apart 4 = .ok (.invokevirtual 162, 3) := by decide +kernel
theorem dX8_apart_7 : decode cX8_apart 7 = .ok (.ifCond .eq 7, 3) := by decide +kernel
theorem dX8_apart_10 : decode cX8_apart 10 = .ok (.iconst 0, 1) := by decide +kernel
theorem dX8_apart_11 : decode cX8_apart 11 = .ok (.goto 10, 3) := by decide +kernel
theorem dX8_apart_14 : decode cX8_apart 14 = .ok (.aload_n 0, 1) := by decide +kernel
theorem dX8_apart_15 : decode cX8_apart 15 = .ok (.iload_n 1, 1) := by decide +kernel
theorem dX8_apart_16 : decode cX8_apart 16 = .ok (.iload_n 2, 1) := by decide +kernel
theorem dX8_apart_17 : decode cX8_apart 17 = .ok (.iload_n 3, 1) := by decide +kernel
theorem dX8_apart_18 : decode cX8_apart 18 = .ok (.invokevirtual 165, 3) := by decide +kernel
theorem dX8_apart_21 : decode cX8_apart 21 = .ok (.ireturn, 1) := by decide +kernel
theorem dX8_against_0 : decode cX8_against 0 = .ok (.aload_n 0, 1) := by decide +kernel
theorem dX8_against_1 : decode cX8_against 1 = .ok (.iload_n 1, 1) := by decide +kernel
theorem dX8_against_2 : decode cX8_against 2 = .ok (.iload_n 2, 1) := by decide +kernel
theorem dX8_against_3 : decode cX8_against 3 = .ok (.invokevirtual 169, 3) := by decide +kernel
theorem dX8_against_6 : decode cX8_against 6 = .ok (.ifCond .eq 47, 3) := by decide +kernel
theorem dX8_against_9 : decode cX8_against 9 = .ok (.aload_n 0, 1) := by decide +kernel
theorem dX8_against_10 : decode cX8_against 10 = .ok (.iload_n 1, 1) := by decide +kernel
theorem dX8_against_11 : decode cX8_against 11 = .ok (.iload_n 3, 1) := by decide +kernel
theorem dX8_against_12 : decode cX8_against 12 = .ok (.invokevirtual 169, 3) := by decide +kernel
theorem dX8_against_15 : decode cX8_against 15 = .ok (.ifCond .eq 38, 3) := by decide +kernel
theorem dX8_against_18 : decode cX8_against 18 = .ok (.iload_n 2, 1) := by decide +kernel
theorem dX8_against_19 : decode cX8_against 19 = .ok (.iload_n 3, 1) := by decide +kernel
theorem dX8_against_20 : decode cX8_against 20 = .ok (.if_icmp .eq 33, 3) := by decide +kernel
theorem dX8_against_23 : decode cX8_against 23 = .ok (.iload 4, 2) := by decide +kernel
theorem dX8_against_25 : decode cX8_against 25 = .ok (.iconst 1, 1) := by decide +kernel
theorem dX8_against_26 : decode cX8_against 26 = .ok (.bipush 20, 2) := by decide +kernel
theorem dX8_against_28 : decode cX8_against 28 = .ok (.invokestatic 149, 3) := by decide +kernel
theorem dX8_against_31 : decode cX8_against 31 = .ok (.ifCond .eq 22, 3) := by decide +kernel
theorem dX8_against_34 : decode cX8_against 34 = .ok (.iload 5, 2) := by decide +kernel
theorem dX8_against_36 : decode cX8_against 36 = .ok (.iconst 1, 1) := by decide +kernel
theorem dX8_against_37 : decode cX8_against 37 = .ok (.bipush 20, 2) := by decide +kernel
theorem dX8_against_39 : decode cX8_against 39 = .ok (.invokestatic 149, 3) := by decide +kernel
theorem dX8_against_42 : decode cX8_against 42 = .ok (.ifCond .eq 11, 3) := by decide +kernel
theorem dX8_against_45 : decode cX8_against 45 = .ok (.aload_n 0, 1) := by decide +kernel
theorem dX8_against_46 : decode cX8_against 46 = .ok (.iload_n 1, 1) := by decide +kernel
theorem dX8_against_47 : decode cX8_against 47 = .ok (.invokevirtual 153, 3) := by decide +kernel
theorem dX8_against_50 : decode cX8_against 50 = .ok (.ifCond .eq 5, 3) := by decide +kernel
theorem dX8_against_53 : decode cX8_against 53 = .ok (.iconst 0, 1) := by decide +kernel
theorem dX8_against_54 : decode cX8_against 54 = .ok (.ireturn, 1) := by decide +kernel
theorem dX8_against_55 : decode cX8_against 55 = .ok (.aload_n 0, 1) := by decide +kernel
theorem dX8_against_56 : decode cX8_against 56 = .ok (.getfield 25, 3) := by decide +kernel
theorem dX8_against_59 : decode cX8_against 59 = .ok (.bipush 64, 2) := by decide +kernel
theorem dX8_against_61 : decode cX8_against 61 = .ok (.iload_n 1, 1) := by decide +kernel
theorem dX8_against_62 : decode cX8_against 62 = .ok (.imul, 1) := by decide +kernel
theorem dX8_against_63 : decode cX8_against 63 = .ok (.bipush 8, 2) := by decide +kernel
theorem dX8_against_65 : decode cX8_against 65 = .ok (.iload_n 2, 1) := by decide +kernel
theorem dX8_against_66 : decode cX8_against 66 = .ok (.imul, 1) := by decide +kernel
theorem dX8_against_67 : decode cX8_against 67 = .ok (.iadd, 1) := by decide +kernel
theorem dX8_against_68 : decode cX8_against 68 = .ok (.iload_n 3, 1) := by decide +kernel
theorem dX8_against_69 : decode cX8_against 69 = .ok (.iadd, 1) := by decide +kernel
theorem dX8_against_70 : decode cX8_against 70 = .ok (.iload 4, 2) := by decide +kernel
theorem dX8_against_72 : decode cX8_against 72 = .ok (.iastore, 1) := by decide +kernel
theorem dX8_against_73 : decode cX8_against 73 = .ok (.aload_n 0, 1) := by decide +kernel
theorem dX8_against_74 : decode cX8_against 74 = .ok (.getfield 25, 3) := by decide +kernel
theorem dX8_against_77 : decode cX8_against 77 = .ok (.bipush 64, 2) := by decide +kernel
theorem dX8_against_79 : decode cX8_against 79 = .ok (.iload_n 1, 1) := by decide +kernel
theorem dX8_against_80 : decode cX8_against 80 = .ok (.imul, 1) := by decide +kernel
theorem dX8_against_81 : decode cX8_against 81 = .ok (.bipush 8, 2) := by decide +kernel
theorem dX8_against_83 : decode cX8_against 83 = .ok (.iload_n 3, 1) := by decide +kernel
theorem dX8_against_84 : decode cX8_against 84 = .ok (.imul, 1) := by decide +kernel
theorem dX8_against_85 : decode cX8_against 85 = .ok (.iadd, 1) := by decide +kernel
theorem dX8_against_86 : decode cX8_against 86 = .ok (.iload_n 2, 1) := by decide +kernel
theorem dX8_against_87 : decode cX8_against 87 = .ok (.iadd, 1) := by decide +kernel
theorem dX8_against_88 : decode cX8_against 88 = .ok (.iload 5, 2) := by decide +kernel
theorem dX8_against_90 : decode cX8_against 90 = .ok (.iastore, 1) := by decide +kernel
theorem dX8_against_91 : decode cX8_against 91 = .ok (.iconst 1, 1) := by decide +kernel
theorem dX8_against_92 : decode cX8_against 92 = .ok (.ireturn, 1) := by decide +kernel
theorem dX8_yields_0 : decode cX8_yields 0 = .ok (.aload_n 0, 1) := by decide +kernel
theorem dX8_yields_1 : decode cX8_yields 1 = .ok (.iload_n 1, 1) := by decide +kernel
theorem dX8_yields_2 : decode cX8_yields 2 = .ok (.iload_n 2, 1) := by decide +kernel
theorem dX8_yields_3 : decode cX8_yields 3 = .ok (.invokevirtual 169, 3) := by decide +kernel
theorem dX8_yields_6 : decode cX8_yields 6 = .ok (.ifCond .eq 52, 3) := by decide +kernel
theorem dX8_yields_9 : decode cX8_yields 9 = .ok (.aload_n 0, 1) := by decide +kernel
theorem dX8_yields_10 : decode cX8_yields 10 = .ok (.iload_n 1, 1) := by decide +kernel
theorem dX8_yields_11 : decode cX8_yields 11 = .ok (.iload_n 3, 1) := by decide +kernel
theorem dX8_yields_12 : decode cX8_yields 12 = .ok (.invokevirtual 169, 3) := by decide +kernel
theorem dX8_yields_15 : decode cX8_yields 15 = .ok (.ifCond .eq 43, 3) := by decide +kernel
theorem dX8_yields_18 : decode cX8_yields 18 = .ok (.aload_n 0, 1) := by decide +kernel
theorem dX8_yields_19 : decode cX8_yields 19 = .ok (.getfield 13, 3) := by decide +kernel
theorem dX8_yields_22 : decode cX8_yields 22 = .ok (.bipush 8, 2) := by decide +kernel
theorem dX8_yields_24 : decode cX8_yields 24 = .ok (.iload_n 1, 1) := by decide +kernel
theorem dX8_yields_25 : decode cX8_yields 25 = .ok (.imul, 1) := by decide +kernel
theorem dX8_yields_26 : decode cX8_yields 26 = .ok (.iload_n 2, 1) := by decide +kernel
theorem dX8_yields_27 : decode cX8_yields 27 = .ok (.iadd, 1) := by decide +kernel
theorem dX8_yields_28 : decode cX8_yields 28 = .ok (.iaload, 1) := by decide +kernel
theorem dX8_yields_29 : decode cX8_yields 29 = .ok (.iconst 1, 1) := by decide +kernel
theorem dX8_yields_30 : decode cX8_yields 30 = .ok (.if_icmp .ne 28, 3) := by decide +kernel
theorem dX8_yields_33 : decode cX8_yields 33 = .ok (.aload_n 0, 1) := by decide +kernel
theorem dX8_yields_34 : decode cX8_yields 34 = .ok (.getfield 13, 3) := by decide +kernel
theorem dX8_yields_37 : decode cX8_yields 37 = .ok (.bipush 8, 2) := by decide +kernel
theorem dX8_yields_39 : decode cX8_yields 39 = .ok (.iload_n 1, 1) := by decide +kernel
theorem dX8_yields_40 : decode cX8_yields 40 = .ok (.imul, 1) := by decide +kernel
theorem dX8_yields_41 : decode cX8_yields 41 = .ok (.iload_n 3, 1) := by decide +kernel
theorem dX8_yields_42 : decode cX8_yields 42 = .ok (.iadd, 1) := by decide +kernel
theorem dX8_yields_43 : decode cX8_yields 43 = .ok (.iaload, 1) := by decide +kernel
theorem dX8_yields_44 : decode cX8_yields 44 = .ok (.iconst 1, 1) := by decide +kernel
theorem dX8_yields_45 : decode cX8_yields 45 = .ok (.if_icmp .eq 13, 3) := by decide +kernel
theorem dX8_yields_48 : decode cX8_yields 48 = .ok (.aload_n 0, 1) := by decide +kernel
theorem dX8_yields_49 : decode cX8_yields 49 = .ok (.iload_n 1, 1) := by decide +kernel
theorem dX8_yields_50 : decode cX8_yields 50 = .ok (.iload_n 2, 1) := by decide +kernel
theorem dX8_yields_51 : decode cX8_yields 51 = .ok (.iload_n 3, 1) := by decide +kernel
theorem dX8_yields_52 : decode cX8_yields 52 = .ok (.invokevirtual 165, 3) := by decide +kernel
theorem dX8_yields_55 : decode cX8_yields 55 = .ok (.ifCond .ne 5, 3) := by decide +kernel
theorem dX8_yields_58 : decode cX8_yields 58 = .ok (.iconst 0, 1) := by decide +kernel
theorem dX8_yields_59 : decode cX8_yields 59 = .ok (.ireturn, 1) := by decide +kernel
theorem dX8_yields_60 : decode cX8_yields 60 = .ok (.aload_n 0, 1) := by decide +kernel
theorem dX8_yields_61 : decode cX8_yields 61 = .ok (.getfield 28, 3) := by decide +kernel
theorem dX8_yields_64 : decode cX8_yields 64 = .ok (.bipush 64, 2) := by decide +kernel
theorem dX8_yields_66 : decode cX8_yields 66 = .ok (.iload_n 1, 1) := by decide +kernel
theorem dX8_yields_67 : decode cX8_yields 67 = .ok (.imul, 1) := by decide +kernel
theorem dX8_yields_68 : decode cX8_yields 68 = .ok (.bipush 8, 2) := by decide +kernel
theorem dX8_yields_70 : decode cX8_yields 70 = .ok (.iload_n 2, 1) := by decide +kernel
theorem dX8_yields_71 : decode cX8_yields 71 = .ok (.imul, 1) := by decide +kernel
theorem dX8_yields_72 : decode cX8_yields 72 = .ok (.iadd, 1) := by decide +kernel
theorem dX8_yields_73 : decode cX8_yields 73 = .ok (.iload_n 3, 1) := by decide +kernel
theorem dX8_yields_74 : decode cX8_yields 74 = .ok (.iadd, 1) := by decide +kernel
theorem dX8_yields_75 : decode cX8_yields 75 = .ok (.baload, 1) := by decide +kernel
theorem dX8_yields_76 : decode cX8_yields 76 = .ok (.ifCond .ne 11, 3) := by decide +kernel
theorem dX8_yields_79 : decode cX8_yields 79 = .ok (.aload_n 0, 1) := by decide +kernel
theorem dX8_yields_80 : decode cX8_yields 80 = .ok (.iload_n 1, 1) := by decide +kernel
theorem dX8_yields_81 : decode cX8_yields 81 = .ok (.invokevirtual 153, 3) := by decide +kernel
theorem dX8_yields_84 : decode cX8_yields 84 = .ok (.ifCond .eq 5, 3) := by decide +kernel
theorem dX8_yields_87 : decode cX8_yields 87 = .ok (.iconst 0, 1) := by decide +kernel
theorem dX8_yields_88 : decode cX8_yields 88 = .ok (.ireturn, 1) := by decide +kernel
theorem dX8_yields_89 : decode cX8_yields 89 = .ok (.aload_n 0, 1) := by decide +kernel
theorem dX8_yields_90 : decode cX8_yields 90 = .ok (.getfield 28, 3) := by decide +kernel
theorem dX8_yields_93 : decode cX8_yields 93 = .ok (.bipush 64, 2) := by decide +kernel
theorem dX8_yields_95 : decode cX8_yields 95 = .ok (.iload_n 1, 1) := by decide +kernel
theorem dX8_yields_96 : decode cX8_yields 96 = .ok (.imul, 1) := by decide +kernel
theorem dX8_yields_97 : decode cX8_yields 97 = .ok (.bipush 8, 2) := by decide +kernel
theorem dX8_yields_99 : decode cX8_yields 99 = .ok (.iload_n 2, 1) := by decide +kernel
theorem dX8_yields_100 : decode cX8_yields 100 = .ok (.imul, 1) := by decide +kernel
theorem dX8_yields_101 : decode cX8_yields 101 = .ok (.iadd, 1) := by decide +kernel
theorem dX8_yields_102 : decode cX8_yields 102 = .ok (.iload_n 3, 1) := by decide +kernel
theorem dX8_yields_103 : decode cX8_yields 103 = .ok (.iadd, 1) := by decide +kernel
theorem dX8_yields_104 : decode cX8_yields 104 = .ok (.iconst 1, 1) := by decide +kernel
theorem dX8_yields_105 : decode cX8_yields 105 = .ok (.bastore, 1) := by decide +kernel
theorem dX8_yields_106 : decode cX8_yields 106 = .ok (.iconst 1, 1) := by decide +kernel
theorem dX8_yields_107 : decode cX8_yields 107 = .ok (.ireturn, 1) := by decide +kernel
theorem dX8_isSet_0 : decode cX8_isSet 0 = .ok (.iload_n 2, 1) := by decide +kernel
theorem dX8_isSet_1 : decode cX8_isSet 1 = .ok (.ifCond .lt 15, 3) := by decide +kernel
theorem dX8_isSet_4 : decode cX8_isSet 4 = .ok (.iload_n 2, 1) := by decide +kernel
theorem dX8_isSet_5 : decode cX8_isSet 5 = .ok (.iconst 1, 1) := by decide +kernel
theorem dX8_isSet_6 : decode cX8_isSet 6 = .ok (.aload_n 0, 1) := by decide +kernel
theorem dX8_isSet_7 : decode cX8_isSet 7 = .ok (.getfield 7, 3) := by decide +kernel
theorem dX8_isSet_10 : decode cX8_isSet 10 = .ok (.iload_n 1, 1) := by decide +kernel
theorem dX8_isSet_11 : decode cX8_isSet 11 = .ok (.iaload, 1) := by decide +kernel
theorem dX8_isSet_12 : decode cX8_isSet 12 = .ok (.ishl, 1) := by decide +kernel
theorem dX8_isSet_13 : decode cX8_isSet 13 = .ok (.if_icmp .lt 5, 3) := by decide +kernel
theorem dX8_isSet_16 : decode cX8_isSet 16 = .ok (.iconst 0, 1) := by decide +kernel
theorem dX8_isSet_17 : decode cX8_isSet 17 = .ok (.ireturn, 1) := by decide +kernel
theorem dX8_isSet_18 : decode cX8_isSet 18 = .ok (.iconst 0, 1) := by decide +kernel
theorem dX8_isSet_19 : decode cX8_isSet 19 = .ok (.istore_n 3, 1) := by decide +kernel
theorem dX8_isSet_20 : decode cX8_isSet 20 = .ok (.iload_n 3, 1) := by decide +kernel
theorem dX8_isSet_21 : decode cX8_isSet 21 = .ok (.aload_n 0, 1) := by decide +kernel
theorem dX8_isSet_22 : decode cX8_isSet 22 = .ok (.getfield 7, 3) := by decide +kernel
theorem dX8_isSet_25 : decode cX8_isSet 25 = .ok (.iload_n 1, 1) := by decide +kernel
theorem dX8_isSet_26 : decode cX8_isSet 26 = .ok (.iaload, 1) := by decide +kernel
theorem dX8_isSet_27 : decode cX8_isSet 27 = .ok (.if_icmp .ge 56, 3) := by decide +kernel
theorem dX8_isSet_30 : decode cX8_isSet 30 = .ok (.iconst 0, 1) := by decide +kernel
theorem dX8_isSet_31 : decode cX8_isSet 31 = .ok (.istore 4, 2) := by decide +kernel
theorem dX8_isSet_33 : decode cX8_isSet 33 = .ok (.iload 4, 2) := by decide +kernel
theorem dX8_isSet_35 : decode cX8_isSet 35 = .ok (.iload_n 3, 1) := by decide +kernel
theorem dX8_isSet_36 : decode cX8_isSet 36 = .ok (.if_icmp .ge 41, 3) := by decide +kernel
theorem dX8_isSet_39 : decode cX8_isSet 39 = .ok (.iload_n 2, 1) := by decide +kernel
theorem dX8_isSet_40 : decode cX8_isSet 40 = .ok (.iload_n 3, 1) := by decide +kernel
theorem dX8_isSet_41 : decode cX8_isSet 41 = .ok (.ishr, 1) := by decide +kernel
theorem dX8_isSet_42 : decode cX8_isSet 42 = .ok (.iconst 1, 1) := by decide +kernel
theorem dX8_isSet_43 : decode cX8_isSet 43 = .ok (.iand, 1) := by decide +kernel
theorem dX8_isSet_44 : decode cX8_isSet 44 = .ok (.iconst 1, 1) := by decide +kernel
theorem dX8_isSet_45 : decode cX8_isSet 45 = .ok (.if_icmp .ne 26, 3) := by decide +kernel
theorem dX8_isSet_48 : decode cX8_isSet 48 = .ok (.iload_n 2, 1) := by decide +kernel
theorem dX8_isSet_49 : decode cX8_isSet 49 = .ok (.iload 4, 2) := by decide +kernel
theorem dX8_isSet_51 : decode cX8_isSet 51 = .ok (.ishr, 1) := by decide +kernel
theorem dX8_isSet_52 : decode cX8_isSet 52 = .ok (.iconst 1, 1) := by decide +kernel
theorem dX8_isSet_53 : decode cX8_isSet 53 = .ok (.iand, 1) := by decide +kernel
theorem dX8_isSet_54 : decode cX8_isSet 54 = .ok (.iconst 1, 1) := by decide +kernel
theorem dX8_isSet_55 : decode cX8_isSet 55 = .ok (.if_icmp .ne 16, 3) := by decide +kernel
theorem dX8_isSet_58 : decode cX8_isSet 58 = .ok (.aload_n 0, 1) := by decide +kernel
theorem dX8_isSet_59 : decode cX8_isSet 59 = .ok (.iload_n 1, 1) := by decide +kernel
theorem dX8_isSet_60 : decode cX8_isSet 60 = .ok (.iload_n 3, 1) := by decide +kernel
theorem dX8_isSet_61 : decode cX8_isSet 61 = .ok (.iload 4, 2) := by decide +kernel
theorem dX8_isSet_63 : decode cX8_isSet 63 = .ok (.invokevirtual 173, 3) := by decide +kernel
theorem dX8_isSet_66 : decode cX8_isSet 66 = .ok (.ifCond .le 5, 3) := by decide +kernel
theorem dX8_isSet_69 : decode cX8_isSet 69 = .ok (.iconst 0, 1) := by decide +kernel
theorem dX8_isSet_70 : decode cX8_isSet 70 = .ok (.ireturn, 1) := by decide +kernel
theorem dX8_isSet_71 : decode cX8_isSet 71 = .ok (.iinc 4 1, 3) := by decide +kernel
theorem dX8_isSet_74 : decode cX8_isSet 74 = .ok (.goto (-41), 3) := by decide +kernel
theorem dX8_isSet_77 : decode cX8_isSet 77 = .ok (.iinc 3 1, 3) := by decide +kernel
theorem dX8_isSet_80 : decode cX8_isSet 80 = .ok (.goto (-60), 3) := by decide +kernel
theorem dX8_isSet_83 : decode cX8_isSet 83 = .ok (.iconst 1, 1) := by decide +kernel
theorem dX8_isSet_84 : decode cX8_isSet 84 = .ok (.ireturn, 1) := by decide +kernel
theorem dX8_isGreatest_0 : decode cX8_isGreatest 0 = .ok (.aload_n 0, 1) := by decide +kernel
theorem dX8_isGreatest_1 : decode cX8_isGreatest 1 = .ok (.iload_n 1, 1) := by decide +kernel
theorem dX8_isGreatest_2 : decode cX8_isGreatest 2 = .ok (.iload_n 2, 1) := by decide +kernel
theorem dX8_isGreatest_3 : decode cX8_isGreatest 3 = .ok (.invokevirtual 176, 3) := by decide +kernel
theorem dX8_isGreatest_6 : decode cX8_isGreatest 6 = .ok (.ifCond .ne 5, 3) := by decide +kernel
theorem dX8_isGreatest_9 : decode cX8_isGreatest 9 = .ok (.iconst 0, 1) := by decide +kernel
theorem dX8_isGreatest_10 : decode cX8_isGreatest 10 = .ok (.ireturn, 1) := by decide +kernel
theorem dX8_isGreatest_11 : decode cX8_isGreatest 11 = .ok (.iconst 0, 1) := by decide +kernel
theorem dX8_isGreatest_12 : decode cX8_isGreatest 12 = .ok (.istore_n 3, 1) := by decide +kernel
theorem dX8_isGreatest_13 : decode cX8_isGreatest 13 = .ok (.iload_n 3, 1) := by decide +kernel
theorem dX8_isGreatest_14 : decode cX8_isGreatest 14 = .ok (.aload_n 0, 1) := by decide +kernel
theorem dX8_isGreatest_15 : decode cX8_isGreatest 15 = .ok (.getfield 7, 3) := by decide +kernel
theorem dX8_isGreatest_18 : decode cX8_isGreatest 18 = .ok (.iload_n 1, 1) := by decide +kernel
theorem dX8_isGreatest_19 : decode cX8_isGreatest 19 = .ok (.iaload, 1) := by decide +kernel
theorem dX8_isGreatest_20 : decode cX8_isGreatest 20 = .ok (.if_icmp .ge 32, 3) := by decide +kernel
theorem dX8_isGreatest_23 : decode cX8_isGreatest 23 = .ok (.iload_n 2, 1) := by decide +kernel
theorem dX8_isGreatest_24 : decode cX8_isGreatest 24 = .ok (.iload_n 3, 1) := by decide +kernel
theorem dX8_isGreatest_25 : decode cX8_isGreatest 25 = .ok (.ishr, 1) := by decide +kernel
theorem dX8_isGreatest_26 : decode cX8_isGreatest 26 = .ok (.iconst 1, 1) := by decide +kernel
theorem dX8_isGreatest_27 : decode cX8_isGreatest 27 = .ok (.iand, 1) := by decide +kernel
theorem dX8_isGreatest_28 : decode cX8_isGreatest 28 = .ok (.ifCond .ne 18, 3) := by decide +kernel
theorem dX8_isGreatest_31 : decode cX8_isGreatest 31 = .ok (.aload_n 0, 1) := by decide +kernel
theorem dX8_isGreatest_32 : decode cX8_isGreatest 32 = .ok (.iload_n 1, 1) := by decide +kernel
theorem dX8_isGreatest_33 : decode cX8_isGreatest 33 = .ok (.iload_n 2, 1) := by decide +kernel
theorem dX8_isGreatest_34 : decode cX8_isGreatest 34 = .ok (.iconst 1, 1) := by decide +kernel
theorem dX8_isGreatest_35 : decode cX8_isGreatest 35 = .ok (.iload_n 3, 1) := by decide +kernel
theorem dX8_isGreatest_36 : decode cX8_isGreatest 36 = .ok (.ishl, 1) := by decide +kernel
theorem dX8_isGreatest_37 : decode cX8_isGreatest 37 = .ok (.ior, 1) := by decide +kernel
theorem dX8_isGreatest_38 : decode cX8_isGreatest 38 = .ok (.invokevirtual 176, 3) := by decide +kernel
theorem dX8_isGreatest_41 : decode cX8_isGreatest 41 = .ok (.ifCond .eq 5, 3) := by decide +kernel
theorem dX8_isGreatest_44 : decode cX8_isGreatest 44 = .ok (.iconst 0, 1) := by decide +kernel
theorem dX8_isGreatest_45 : decode cX8_isGreatest 45 = .ok (.ireturn, 1) := by decide +kernel
theorem dX8_isGreatest_46 : decode cX8_isGreatest 46 = .ok (.iinc 3 1, 3) := by decide +kernel
theorem dX8_isGreatest_49 : decode cX8_isGreatest 49 = .ok (.goto (-36), 3) := by decide +kernel
theorem dX8_isGreatest_52 : decode cX8_isGreatest 52 = .ok (.iconst 1, 1) := by decide +kernel
theorem dX8_isGreatest_53 : decode cX8_isGreatest 53 = .ok (.ireturn, 1) := by decide +kernel
theorem dX8_sets_0 : decode cX8_sets 0 = .ok (.aload_n 0, 1) := by decide +kernel
theorem dX8_sets_1 : decode cX8_sets 1 = .ok (.iload_n 1, 1) := by decide +kernel
theorem dX8_sets_2 : decode cX8_sets 2 = .ok (.invokevirtual 142, 3) := by decide +kernel
theorem dX8_sets_5 : decode cX8_sets 5 = .ok (.ifCond .ne 5, 3) := by decide +kernel
theorem dX8_sets_8 : decode cX8_sets 8 = .ok (.iconst (-1), 1) := by decide +kernel
theorem dX8_sets_9 : decode cX8_sets 9 = .ok (.ireturn, 1) := by decide +kernel
theorem dX8_sets_10 : decode cX8_sets 10 = .ok (.iconst 0, 1) := by decide +kernel
theorem dX8_sets_11 : decode cX8_sets 11 = .ok (.istore_n 2, 1) := by decide +kernel
theorem dX8_sets_12 : decode cX8_sets 12 = .ok (.iconst 1, 1) := by decide +kernel
theorem dX8_sets_13 : decode cX8_sets 13 = .ok (.istore_n 3, 1) := by decide +kernel
theorem dX8_sets_14 : decode cX8_sets 14 = .ok (.iload_n 3, 1) := by decide +kernel
theorem dX8_sets_15 : decode cX8_sets 15 = .ok (.iconst 1, 1) := by decide +kernel
theorem dX8_sets_16 : decode cX8_sets 16 = .ok (.aload_n 0, 1) := by decide +kernel
theorem dX8_sets_17 : decode cX8_sets 17 = .ok (.getfield 7, 3) := by decide +kernel
theorem dX8_sets_20 : decode cX8_sets 20 = .ok (.iload_n 1, 1) := by decide +kernel
theorem dX8_sets_21 : decode cX8_sets 21 = .ok (.iaload, 1) := by decide +kernel
theorem dX8_sets_22 : decode cX8_sets 22 = .ok (.ishl, 1) := by decide +kernel
theorem dX8_sets_23 : decode cX8_sets 23 = .ok (.if_icmp .ge 26, 3) := by decide +kernel
theorem dX8_sets_26 : decode cX8_sets 26 = .ok (.iload_n 2, 1) := by decide +kernel
theorem dX8_sets_27 : decode cX8_sets 27 = .ok (.aload_n 0, 1) := by decide +kernel
theorem dX8_sets_28 : decode cX8_sets 28 = .ok (.iload_n 1, 1) := by decide +kernel
theorem dX8_sets_29 : decode cX8_sets 29 = .ok (.iload_n 3, 1) := by decide +kernel
theorem dX8_sets_30 : decode cX8_sets 30 = .ok (.invokevirtual 179, 3) := by decide +kernel
theorem dX8_sets_33 : decode cX8_sets 33 = .ok (.ifCond .eq 7, 3) := by decide +kernel
theorem dX8_sets_36 : decode cX8_sets 36 = .ok (.iconst 1, 1) := by decide +kernel
theorem dX8_sets_37 : decode cX8_sets 37 = .ok (.goto 4, 3) := by decide +kernel
theorem dX8_sets_40 : decode cX8_sets 40 = .ok (.iconst 0, 1) := by decide +kernel
theorem dX8_sets_41 : decode cX8_sets 41 = .ok (.iadd, 1) := by decide +kernel
theorem dX8_sets_42 : decode cX8_sets 42 = .ok (.istore_n 2, 1) := by decide +kernel
theorem dX8_sets_43 : decode cX8_sets 43 = .ok (.iinc 3 1, 3) := by decide +kernel
theorem dX8_sets_46 : decode cX8_sets 46 = .ok (.goto (-32), 3) := by decide +kernel
theorem dX8_sets_49 : decode cX8_sets 49 = .ok (.iload_n 2, 1) := by decide +kernel
theorem dX8_sets_50 : decode cX8_sets 50 = .ok (.ireturn, 1) := by decide +kernel
theorem dX8_set_0 : decode cX8_set 0 = .ok (.aload_n 0, 1) := by decide +kernel
theorem dX8_set_1 : decode cX8_set 1 = .ok (.iload_n 1, 1) := by decide +kernel
theorem dX8_set_2 : decode cX8_set 2 = .ok (.invokevirtual 142, 3) := by decide +kernel
theorem dX8_set_5 : decode cX8_set 5 = .ok (.ifCond .eq 7, 3) := by decide +kernel
theorem dX8_set_8 : decode cX8_set 8 = .ok (.iload_n 2, 1) := by decide +kernel
theorem dX8_set_9 : decode cX8_set 9 = .ok (.ifCond .ge 5, 3) := by decide +kernel
theorem dX8_set_12 : decode cX8_set 12 = .ok (.iconst (-1), 1) := by decide +kernel
theorem dX8_set_13 : decode cX8_set 13 = .ok (.ireturn, 1) := by decide +kernel
theorem dX8_set_14 : decode cX8_set 14 = .ok (.iload_n 2, 1) := by decide +kernel
theorem dX8_set_15 : decode cX8_set 15 = .ok (.istore_n 3, 1) := by decide +kernel
theorem dX8_set_16 : decode cX8_set 16 = .ok (.iconst 1, 1) := by decide +kernel
theorem dX8_set_17 : decode cX8_set 17 = .ok (.istore 4, 2) := by decide +kernel
theorem dX8_set_19 : decode cX8_set 19 = .ok (.iload 4, 2) := by decide +kernel
theorem dX8_set_21 : decode cX8_set 21 = .ok (.iconst 1, 1) := by decide +kernel
theorem dX8_set_22 : decode cX8_set 22 = .ok (.aload_n 0, 1) := by decide +kernel
theorem dX8_set_23 : decode cX8_set 23 = .ok (.getfield 7, 3) := by decide +kernel
theorem dX8_set_26 : decode cX8_set 26 = .ok (.iload_n 1, 1) := by decide +kernel
theorem dX8_set_27 : decode cX8_set 27 = .ok (.iaload, 1) := by decide +kernel
theorem dX8_set_28 : decode cX8_set 28 = .ok (.ishl, 1) := by decide +kernel
theorem dX8_set_29 : decode cX8_set 29 = .ok (.if_icmp .ge 32, 3) := by decide +kernel
theorem dX8_set_32 : decode cX8_set 32 = .ok (.aload_n 0, 1) := by decide +kernel
theorem dX8_set_33 : decode cX8_set 33 = .ok (.iload_n 1, 1) := by decide +kernel
theorem dX8_set_34 : decode cX8_set 34 = .ok (.iload 4, 2) := by decide +kernel
theorem dX8_set_36 : decode cX8_set 36 = .ok (.invokevirtual 179, 3) := by decide +kernel
theorem dX8_set_39 : decode cX8_set 39 = .ok (.ifCond .ne 6, 3) := by decide +kernel
theorem dX8_set_42 : decode cX8_set 42 = .ok (.goto 13, 3) := by decide +kernel
theorem dX8_set_45 : decode cX8_set 45 = .ok (.iload_n 3, 1) := by decide +kernel
theorem dX8_set_46 : decode cX8_set 46 = .ok (.ifCond .ne 6, 3) := by decide +kernel
theorem dX8_set_49 : decode cX8_set 49 = .ok (.iload 4, 2) := by decide +kernel
theorem dX8_set_51 : decode cX8_set 51 = .ok (.ireturn, 1) := by decide +kernel
theorem dX8_set_52 : decode cX8_set 52 = .ok (.iinc 3 (-1), 3) := by decide +kernel
theorem dX8_set_55 : decode cX8_set 55 = .ok (.iinc 4 1, 3) := by decide +kernel
theorem dX8_set_58 : decode cX8_set 58 = .ok (.goto (-39), 3) := by decide +kernel
theorem dX8_set_61 : decode cX8_set 61 = .ok (.iconst (-1), 1) := by decide +kernel
theorem dX8_set_62 : decode cX8_set 62 = .ok (.ireturn, 1) := by decide +kernel
theorem dX8_goes_0 : decode cX8_goes 0 = .ok (.aload_n 0, 1) := by decide +kernel
theorem dX8_goes_1 : decode cX8_goes 1 = .ok (.iload_n 1, 1) := by decide +kernel
theorem dX8_goes_2 : decode cX8_goes 2 = .ok (.invokevirtual 142, 3) := by decide +kernel
theorem dX8_goes_5 : decode cX8_goes 5 = .ok (.ifCond .eq 16, 3) := by decide +kernel
theorem dX8_goes_8 : decode cX8_goes 8 = .ok (.aload_n 0, 1) := by decide +kernel
theorem dX8_goes_9 : decode cX8_goes 9 = .ok (.iload_n 1, 1) := by decide +kernel
theorem dX8_goes_10 : decode cX8_goes 10 = .ok (.iload_n 2, 1) := by decide +kernel
theorem dX8_goes_11 : decode cX8_goes 11 = .ok (.invokevirtual 176, 3) := by decide +kernel
theorem dX8_goes_14 : decode cX8_goes 14 = .ok (.ifCond .eq 7, 3) := by decide +kernel
theorem dX8_goes_17 : decode cX8_goes 17 = .ok (.iconst 1, 1) := by decide +kernel
theorem dX8_goes_18 : decode cX8_goes 18 = .ok (.goto 4, 3) := by decide +kernel
theorem dX8_goes_21 : decode cX8_goes 21 = .ok (.iconst 0, 1) := by decide +kernel
theorem dX8_goes_22 : decode cX8_goes 22 = .ok (.ireturn, 1) := by decide +kernel
theorem dX8_plan_0 : decode cX8_plan 0 = .ok (.aload_n 0, 1) := by decide +kernel
theorem dX8_plan_1 : decode cX8_plan 1 = .ok (.iload_n 1, 1) := by decide +kernel
theorem dX8_plan_2 : decode cX8_plan 2 = .ok (.invokevirtual 142, 3) := by decide +kernel
theorem dX8_plan_5 : decode cX8_plan 5 = .ok (.ifCond .eq 14, 3) := by decide +kernel
theorem dX8_plan_8 : decode cX8_plan 8 = .ok (.iload_n 2, 1) := by decide +kernel
theorem dX8_plan_9 : decode cX8_plan 9 = .ok (.bipush 20, 2) := by decide +kernel
theorem dX8_plan_11 : decode cX8_plan 11 = .ok (.bipush 90, 2) := by decide +kernel
theorem dX8_plan_13 : decode cX8_plan 13 = .ok (.invokestatic 149, 3) := by decide +kernel
theorem dX8_plan_16 : decode cX8_plan 16 = .ok (.ifCond .ne 5, 3) := by decide +kernel
theorem dX8_plan_19 : decode cX8_plan 19 = .ok (.iconst 0, 1) := by decide +kernel
theorem dX8_plan_20 : decode cX8_plan 20 = .ok (.ireturn, 1) := by decide +kernel
theorem dX8_plan_21 : decode cX8_plan 21 = .ok (.aload_n 0, 1) := by decide +kernel
theorem dX8_plan_22 : decode cX8_plan 22 = .ok (.getfield 32, 3) := by decide +kernel
theorem dX8_plan_25 : decode cX8_plan 25 = .ok (.iload_n 1, 1) := by decide +kernel
theorem dX8_plan_26 : decode cX8_plan 26 = .ok (.iconst 1, 1) := by decide +kernel
theorem dX8_plan_27 : decode cX8_plan 27 = .ok (.bastore, 1) := by decide +kernel
theorem dX8_plan_28 : decode cX8_plan 28 = .ok (.aload_n 0, 1) := by decide +kernel
theorem dX8_plan_29 : decode cX8_plan 29 = .ok (.getfield 35, 3) := by decide +kernel
theorem dX8_plan_32 : decode cX8_plan 32 = .ok (.iload_n 1, 1) := by decide +kernel
theorem dX8_plan_33 : decode cX8_plan 33 = .ok (.iload_n 2, 1) := by decide +kernel
theorem dX8_plan_34 : decode cX8_plan 34 = .ok (.iastore, 1) := by decide +kernel
theorem dX8_plan_35 : decode cX8_plan 35 = .ok (.aload_n 0, 1) := by decide +kernel
theorem dX8_plan_36 : decode cX8_plan 36 = .ok (.getfield 38, 3) := by decide +kernel
theorem dX8_plan_39 : decode cX8_plan 39 = .ok (.iload_n 1, 1) := by decide +kernel
theorem dX8_plan_40 : decode cX8_plan 40 = .ok (.iconst 0, 1) := by decide +kernel
theorem dX8_plan_41 : decode cX8_plan 41 = .ok (.iastore, 1) := by decide +kernel
theorem dX8_plan_42 : decode cX8_plan 42 = .ok (.iconst 1, 1) := by decide +kernel
theorem dX8_plan_43 : decode cX8_plan 43 = .ok (.ireturn, 1) := by decide +kernel
theorem dX8_stage_0 : decode cX8_stage 0 = .ok (.aload_n 0, 1) := by decide +kernel
theorem dX8_stage_1 : decode cX8_stage 1 = .ok (.iload_n 1, 1) := by decide +kernel
theorem dX8_stage_2 : decode cX8_stage 2 = .ok (.invokevirtual 142, 3) := by decide +kernel
theorem dX8_stage_5 : decode cX8_stage 5 = .ok (.ifCond .eq 45, 3) := by decide +kernel
theorem dX8_stage_8 : decode cX8_stage 8 = .ok (.aload_n 0, 1) := by decide +kernel
theorem dX8_stage_9 : decode cX8_stage 9 = .ok (.getfield 32, 3) := by decide +kernel
theorem dX8_stage_12 : decode cX8_stage 12 = .ok (.iload_n 1, 1) := by decide +kernel
theorem dX8_stage_13 : decode cX8_stage 13 = .ok (.baload, 1) := by decide +kernel
theorem dX8_stage_14 : decode cX8_stage 14 = .ok (.ifCond .eq 36, 3) := by decide +kernel
theorem dX8_stage_17 : decode cX8_stage 17 = .ok (.iload_n 2, 1) := by decide +kernel
theorem dX8_stage_18 : decode cX8_stage 18 = .ok (.ifCond .eq 32, 3) := by decide +kernel
theorem dX8_stage_21 : decode cX8_stage 21 = .ok (.aload_n 0, 1) := by decide +kernel
theorem dX8_stage_22 : decode cX8_stage 22 = .ok (.iload_n 1, 1) := by decide +kernel
theorem dX8_stage_23 : decode cX8_stage 23 = .ok (.iload_n 2, 1) := by decide +kernel
theorem dX8_stage_24 : decode cX8_stage 24 = .ok (.invokevirtual 176, 3) := by decide +kernel
theorem dX8_stage_27 : decode cX8_stage 27 = .ok (.ifCond .eq 23, 3) := by decide +kernel
theorem dX8_stage_30 : decode cX8_stage 30 = .ok (.iload_n 3, 1) := by decide +kernel
theorem dX8_stage_31 : decode cX8_stage 31 = .ok (.iconst 0, 1) := by decide +kernel
theorem dX8_stage_32 : decode cX8_stage 32 = .ok (.bipush 90, 2) := by decide +kernel
theorem dX8_stage_34 : decode cX8_stage 34 = .ok (.invokestatic 149, 3) := by decide +kernel
theorem dX8_stage_37 : decode cX8_stage 37 = .ok (.ifCond .eq 13, 3) := by decide +kernel
theorem dX8_stage_40 : decode cX8_stage 40 = .ok (.aload_n 0, 1) := by decide +kernel
theorem dX8_stage_41 : decode cX8_stage 41 = .ok (.getfield 38, 3) := by decide +kernel
theorem dX8_stage_44 : decode cX8_stage 44 = .ok (.iload_n 1, 1) := by decide +kernel
theorem dX8_stage_45 : decode cX8_stage 45 = .ok (.iaload, 1) := by decide +kernel
theorem dX8_stage_46 : decode cX8_stage 46 = .ok (.iconst 4, 1) := by decide +kernel
theorem dX8_stage_47 : decode cX8_stage 47 = .ok (.if_icmp .ne 5, 3) := by decide +kernel
theorem dX8_stage_50 : decode cX8_stage 50 = .ok (.iconst (-1), 1) := by decide +kernel
theorem dX8_stage_51 : decode cX8_stage 51 = .ok (.ireturn, 1) := by decide +kernel
theorem dX8_stage_52 : decode cX8_stage 52 = .ok (.aload_n 0, 1) := by decide +kernel
theorem dX8_stage_53 : decode cX8_stage 53 = .ok (.getfield 38, 3) := by decide +kernel
theorem dX8_stage_56 : decode cX8_stage 56 = .ok (.iload_n 1, 1) := by decide +kernel
theorem dX8_stage_57 : decode cX8_stage 57 = .ok (.iaload, 1) := by decide +kernel
theorem dX8_stage_58 : decode cX8_stage 58 = .ok (.istore 4, 2) := by decide +kernel
theorem dX8_stage_60 : decode cX8_stage 60 = .ok (.aload_n 0, 1) := by decide +kernel
theorem dX8_stage_61 : decode cX8_stage 61 = .ok (.getfield 38, 3) := by decide +kernel
theorem dX8_stage_64 : decode cX8_stage 64 = .ok (.iload_n 1, 1) := by decide +kernel
theorem dX8_stage_65 : decode cX8_stage 65 = .ok (.dup2, 1) := by decide +kernel
theorem dX8_stage_66 : decode cX8_stage 66 = .ok (.iaload, 1) := by decide +kernel
theorem dX8_stage_67 : decode cX8_stage 67 = .ok (.iconst 1, 1) := by decide +kernel
theorem dX8_stage_68 : decode cX8_stage 68 = .ok (.iadd, 1) := by decide +kernel
theorem dX8_stage_69 : decode cX8_stage 69 = .ok (.iastore, 1) := by decide +kernel
theorem dX8_stage_70 : decode cX8_stage 70 = .ok (.aload_n 0, 1) := by decide +kernel
theorem dX8_stage_71 : decode cX8_stage 71 = .ok (.getfield 41, 3) := by decide +kernel
theorem dX8_stage_74 : decode cX8_stage 74 = .ok (.iconst 4, 1) := by decide +kernel
theorem dX8_stage_75 : decode cX8_stage 75 = .ok (.iload_n 1, 1) := by decide +kernel
theorem dX8_stage_76 : decode cX8_stage 76 = .ok (.imul, 1) := by decide +kernel
theorem dX8_stage_77 : decode cX8_stage 77 = .ok (.iload 4, 2) := by decide +kernel
theorem dX8_stage_79 : decode cX8_stage 79 = .ok (.iadd, 1) := by decide +kernel
theorem dX8_stage_80 : decode cX8_stage 80 = .ok (.iload_n 2, 1) := by decide +kernel
theorem dX8_stage_81 : decode cX8_stage 81 = .ok (.iastore, 1) := by decide +kernel
theorem dX8_stage_82 : decode cX8_stage 82 = .ok (.aload_n 0, 1) := by decide +kernel
theorem dX8_stage_83 : decode cX8_stage 83 = .ok (.getfield 44, 3) := by decide +kernel
theorem dX8_stage_86 : decode cX8_stage 86 = .ok (.iconst 4, 1) := by decide +kernel
theorem dX8_stage_87 : decode cX8_stage 87 = .ok (.iload_n 1, 1) := by decide +kernel
theorem dX8_stage_88 : decode cX8_stage 88 = .ok (.imul, 1) := by decide +kernel
theorem dX8_stage_89 : decode cX8_stage 89 = .ok (.iload 4, 2) := by decide +kernel
theorem dX8_stage_91 : decode cX8_stage 91 = .ok (.iadd, 1) := by decide +kernel
theorem dX8_stage_92 : decode cX8_stage 92 = .ok (.iload_n 3, 1) := by decide +kernel
theorem dX8_stage_93 : decode cX8_stage 93 = .ok (.iastore, 1) := by decide +kernel
theorem dX8_stage_94 : decode cX8_stage 94 = .ok (.iload 4, 2) := by decide +kernel
theorem dX8_stage_96 : decode cX8_stage 96 = .ok (.ireturn, 1) := by decide +kernel
theorem dX8_between_0 : decode cX8_between 0 = .ok (.iload_n 1, 1) := by decide +kernel
theorem dX8_between_1 : decode cX8_between 1 = .ok (.bipush 8, 2) := by decide +kernel
theorem dX8_between_3 : decode cX8_between 3 = .ok (.irem, 1) := by decide +kernel
theorem dX8_between_4 : decode cX8_between 4 = .ok (.istore_n 3, 1) := by decide +kernel
theorem dX8_between_5 : decode cX8_between 5 = .ok (.aload_n 0, 1) := by decide +kernel
theorem dX8_between_6 : decode cX8_between 6 = .ok (.getfield 41, 3) := by decide +kernel
theorem dX8_between_9 : decode cX8_between 9 = .ok (.iconst 4, 1) := by decide +kernel
theorem dX8_between_10 : decode cX8_between 10 = .ok (.iload_n 1, 1) := by decide +kernel
theorem dX8_between_11 : decode cX8_between 11 = .ok (.imul, 1) := by decide +kernel
theorem dX8_between_12 : decode cX8_between 12 = .ok (.iload_n 2, 1) := by decide +kernel
theorem dX8_between_13 : decode cX8_between 13 = .ok (.iadd, 1) := by decide +kernel
theorem dX8_between_14 : decode cX8_between 14 = .ok (.iaload, 1) := by decide +kernel
theorem dX8_between_15 : decode cX8_between 15 = .ok (.istore 4, 2) := by decide +kernel
theorem dX8_between_17 : decode cX8_between 17 = .ok (.aload_n 0, 1) := by decide +kernel
theorem dX8_between_18 : decode cX8_between 18 = .ok (.getfield 41, 3) := by decide +kernel
theorem dX8_between_21 : decode cX8_between 21 = .ok (.iconst 4, 1) := by decide +kernel
theorem dX8_between_22 : decode cX8_between 22 = .ok (.iload_n 1, 1) := by decide +kernel
theorem dX8_between_23 : decode cX8_between 23 = .ok (.imul, 1) := by decide +kernel
theorem dX8_between_24 : decode cX8_between 24 = .ok (.iload_n 2, 1) := by decide +kernel
theorem dX8_between_25 : decode cX8_between 25 = .ok (.iconst 1, 1) := by decide +kernel
theorem dX8_between_26 : decode cX8_between 26 = .ok (.iadd, 1) := by decide +kernel
theorem dX8_between_27 : decode cX8_between 27 = .ok (.aload_n 0, 1) := by decide +kernel
theorem dX8_between_28 : decode cX8_between 28 = .ok (.getfield 38, 3) := by decide +kernel
theorem dX8_between_31 : decode cX8_between 31 = .ok (.iload_n 1, 1) := by decide +kernel
theorem dX8_between_32 : decode cX8_between 32 = .ok (.iaload, 1) := by decide +kernel
theorem dX8_between_33 : decode cX8_between 33 = .ok (.irem, 1) := by decide +kernel
theorem dX8_between_34 : decode cX8_between 34 = .ok (.iadd, 1) := by decide +kernel
theorem dX8_between_35 : decode cX8_between 35 = .ok (.iaload, 1) := by decide +kernel
theorem dX8_between_36 : decode cX8_between 36 = .ok (.istore 5, 2) := by decide +kernel
theorem dX8_between_38 : decode cX8_between 38 = .ok (.iconst 0, 1) := by decide +kernel
theorem dX8_between_39 : decode cX8_between 39 = .ok (.istore 6, 2) := by decide +kernel
theorem dX8_between_41 : decode cX8_between 41 = .ok (.iconst 0, 1) := by decide +kernel
theorem dX8_between_42 : decode cX8_between 42 = .ok (.istore 7, 2) := by decide +kernel
theorem dX8_between_44 : decode cX8_between 44 = .ok (.iload 7, 2) := by decide +kernel
theorem dX8_between_46 : decode cX8_between 46 = .ok (.bipush 8, 2) := by decide +kernel
theorem dX8_between_48 : decode cX8_between 48 = .ok (.if_icmp .ge 73, 3) := by decide +kernel
theorem dX8_between_51 : decode cX8_between 51 = .ok (.iconst 0, 1) := by decide +kernel
theorem dX8_between_52 : decode cX8_between 52 = .ok (.istore 8, 2) := by decide +kernel
theorem dX8_between_54 : decode cX8_between 54 = .ok (.iload 8, 2) := by decide +kernel
theorem dX8_between_56 : decode cX8_between 56 = .ok (.bipush 8, 2) := by decide +kernel
theorem dX8_between_58 : decode cX8_between 58 = .ok (.if_icmp .ge 57, 3) := by decide +kernel
theorem dX8_between_61 : decode cX8_between 61 = .ok (.iload 4, 2) := by decide +kernel
theorem dX8_between_63 : decode cX8_between 63 = .ok (.iload 5, 2) := by decide +kernel
theorem dX8_between_65 : decode cX8_between 65 = .ok (.iconst (-1), 1) := by decide +kernel
theorem dX8_between_66 : decode cX8_between 66 = .ok (.ixor, 1) := by decide +kernel
theorem dX8_between_67 : decode cX8_between 67 = .ok (.iand, 1) := by decide +kernel
theorem dX8_between_68 : decode cX8_between 68 = .ok (.iload 7, 2) := by decide +kernel
theorem dX8_between_70 : decode cX8_between 70 = .ok (.ishr, 1) := by decide +kernel
theorem dX8_between_71 : decode cX8_between 71 = .ok (.iconst 1, 1) := by decide +kernel
theorem dX8_between_72 : decode cX8_between 72 = .ok (.iand, 1) := by decide +kernel
theorem dX8_between_73 : decode cX8_between 73 = .ok (.iconst 1, 1) := by decide +kernel
theorem dX8_between_74 : decode cX8_between 74 = .ok (.if_icmp .ne 35, 3) := by decide +kernel
theorem dX8_between_77 : decode cX8_between 77 = .ok (.iload 5, 2) := by decide +kernel
theorem dX8_between_79 : decode cX8_between 79 = .ok (.iload 4, 2) := by decide +kernel
theorem dX8_between_81 : decode cX8_between 81 = .ok (.iconst (-1), 1) := by decide +kernel
theorem dX8_between_82 : decode cX8_between 82 = .ok (.ixor, 1) := by decide +kernel
theorem dX8_between_83 : decode cX8_between 83 = .ok (.iand, 1) := by decide +kernel
theorem dX8_between_84 : decode cX8_between 84 = .ok (.iload 8, 2) := by decide +kernel
theorem dX8_between_86 : decode cX8_between 86 = .ok (.ishr, 1) := by decide +kernel
theorem dX8_between_87 : decode cX8_between 87 = .ok (.iconst 1, 1) := by decide +kernel
theorem dX8_between_88 : decode cX8_between 88 = .ok (.iand, 1) := by decide +kernel
theorem dX8_between_89 : decode cX8_between 89 = .ok (.iconst 1, 1) := by decide +kernel
theorem dX8_between_90 : decode cX8_between 90 = .ok (.if_icmp .ne 19, 3) := by decide +kernel
theorem dX8_between_93 : decode cX8_between 93 = .ok (.iload 6, 2) := by decide +kernel
theorem dX8_between_95 : decode cX8_between 95 = .ok (.aload_n 0, 1) := by decide +kernel
theorem dX8_between_96 : decode cX8_between 96 = .ok (.iload_n 3, 1) := by decide +kernel
theorem dX8_between_97 : decode cX8_between 97 = .ok (.iload 7, 2) := by decide +kernel
theorem dX8_between_99 : decode cX8_between 99 = .ok (.iload 8, 2) := by decide +kernel
theorem dX8_between_101 : decode cX8_between 101 = .ok (.invokevirtual 173, 3) := by decide +kernel
theorem dX8_between_104 : decode cX8_between 104 = .ok (.invokestatic 156, 3) := by decide +kernel
theorem dX8_between_107 : decode cX8_between 107 = .ok (.istore 6, 2) := by decide +kernel
theorem dX8_between_109 : decode cX8_between 109 = .ok (.iinc 8 1, 3) := by decide +kernel
theorem dX8_between_112 : decode cX8_between 112 = .ok (.goto (-58), 3) := by decide +kernel
theorem dX8_between_115 : decode cX8_between 115 = .ok (.iinc 7 1, 3) := by decide +kernel
theorem dX8_between_118 : decode cX8_between 118 = .ok (.goto (-74), 3) := by decide +kernel
theorem dX8_between_121 : decode cX8_between 121 = .ok (.iload 6, 2) := by decide +kernel
theorem dX8_between_123 : decode cX8_between 123 = .ok (.ireturn, 1) := by decide +kernel
theorem dX8_betweens_0 : decode cX8_betweens 0 = .ok (.iconst 0, 1) := by decide +kernel
theorem dX8_betweens_1 : decode cX8_betweens 1 = .ok (.istore_n 2, 1) := by decide +kernel
theorem dX8_betweens_2 : decode cX8_betweens 2 = .ok (.iconst 0, 1) := by decide +kernel
theorem dX8_betweens_3 : decode cX8_betweens 3 = .ok (.istore_n 3, 1) := by decide +kernel
theorem dX8_betweens_4 : decode cX8_betweens 4 = .ok (.iload_n 3, 1) := by decide +kernel
theorem dX8_betweens_5 : decode cX8_betweens 5 = .ok (.aload_n 0, 1) := by decide +kernel
theorem dX8_betweens_6 : decode cX8_betweens 6 = .ok (.getfield 38, 3) := by decide +kernel
theorem dX8_betweens_9 : decode cX8_betweens 9 = .ok (.iload_n 1, 1) := by decide +kernel
theorem dX8_betweens_10 : decode cX8_betweens 10 = .ok (.iaload, 1) := by decide +kernel
theorem dX8_betweens_11 : decode cX8_betweens 11 = .ok (.if_icmp .ge 18, 3) := by decide +kernel
theorem dX8_betweens_14 : decode cX8_betweens 14 = .ok (.iload_n 2, 1) := by decide +kernel
theorem dX8_betweens_15 : decode cX8_betweens 15 = .ok (.aload_n 0, 1) := by decide +kernel
theorem dX8_betweens_16 : decode cX8_betweens 16 = .ok (.iload_n 1, 1) := by decide +kernel
theorem dX8_betweens_17 : decode cX8_betweens 17 = .ok (.iload_n 3, 1) := by decide +kernel
theorem dX8_betweens_18 : decode cX8_betweens 18 = .ok (.invokevirtual 182, 3) := by decide +kernel
theorem dX8_betweens_21 : decode cX8_betweens 21 = .ok (.iadd, 1) := by decide +kernel
theorem dX8_betweens_22 : decode cX8_betweens 22 = .ok (.istore_n 2, 1) := by decide +kernel
theorem dX8_betweens_23 : decode cX8_betweens 23 = .ok (.iinc 3 1, 3) := by decide +kernel
theorem dX8_betweens_26 : decode cX8_betweens 26 = .ok (.goto (-22), 3) := by decide +kernel
theorem dX8_betweens_29 : decode cX8_betweens 29 = .ok (.iload_n 2, 1) := by decide +kernel
theorem dX8_betweens_30 : decode cX8_betweens 30 = .ok (.ireturn, 1) := by decide +kernel
theorem dX8_layOut_0 : decode cX8_layOut 0 = .ok (.bipush 90, 2) := by decide +kernel
theorem dX8_layOut_2 : decode cX8_layOut 2 = .ok (.iload_n 1, 1) := by decide +kernel
theorem dX8_layOut_3 : decode cX8_layOut 3 = .ok (.imul, 1) := by decide +kernel
theorem dX8_layOut_4 : decode cX8_layOut 4 = .ok (.istore_n 2, 1) := by decide +kernel
theorem dX8_layOut_5 : decode cX8_layOut 5 = .ok (.iconst 0, 1) := by decide +kernel
theorem dX8_layOut_6 : decode cX8_layOut 6 = .ok (.istore_n 3, 1) := by decide +kernel
theorem dX8_layOut_7 : decode cX8_layOut 7 = .ok (.iload_n 3, 1) := by decide +kernel
theorem dX8_layOut_8 : decode cX8_layOut 8 = .ok (.aload_n 0, 1) := by decide +kernel
theorem dX8_layOut_9 : decode cX8_layOut 9 = .ok (.getfield 38, 3) := by decide +kernel
theorem dX8_layOut_12 : decode cX8_layOut 12 = .ok (.iload_n 1, 1) := by decide +kernel
theorem dX8_layOut_13 : decode cX8_layOut 13 = .ok (.iaload, 1) := by decide +kernel
theorem dX8_layOut_14 : decode cX8_layOut 14 = .ok (.if_icmp .ge 118, 3) := by decide +kernel
theorem dX8_layOut_17 : decode cX8_layOut 17 = .ok (.aload_n 0, 1) := by decide +kernel
theorem dX8_layOut_18 : decode cX8_layOut 18 = .ok (.getfield 41, 3) := by decide +kernel
theorem dX8_layOut_21 : decode cX8_layOut 21 = .ok (.iconst 4, 1) := by decide +kernel
theorem dX8_layOut_22 : decode cX8_layOut 22 = .ok (.iload_n 1, 1) := by decide +kernel
theorem dX8_layOut_23 : decode cX8_layOut 23 = .ok (.imul, 1) := by decide +kernel
theorem dX8_layOut_24 : decode cX8_layOut 24 = .ok (.iload_n 3, 1) := by decide +kernel
theorem dX8_layOut_25 : decode cX8_layOut 25 = .ok (.iadd, 1) := by decide +kernel
theorem dX8_layOut_26 : decode cX8_layOut 26 = .ok (.iaload, 1) := by decide +kernel
theorem dX8_layOut_27 : decode cX8_layOut 27 = .ok (.istore 4, 2) := by decide +kernel
theorem dX8_layOut_29 : decode cX8_layOut 29 = .ok (.iload 4, 2) := by decide +kernel
theorem dX8_layOut_31 : decode cX8_layOut 31 = .ok (.aload_n 0, 1) := by decide +kernel
theorem dX8_layOut_32 : decode cX8_layOut 32 = .ok (.getfield 41, 3) := by decide +kernel
theorem dX8_layOut_35 : decode cX8_layOut 35 = .ok (.iconst 4, 1) := by decide +kernel
theorem dX8_layOut_36 : decode cX8_layOut 36 = .ok (.iload_n 1, 1) := by decide +kernel
theorem dX8_layOut_37 : decode cX8_layOut 37 = .ok (.imul, 1) := by decide +kernel
theorem dX8_layOut_38 : decode cX8_layOut 38 = .ok (.iload_n 3, 1) := by decide +kernel
theorem dX8_layOut_39 : decode cX8_layOut 39 = .ok (.iconst 1, 1) := by decide +kernel
theorem dX8_layOut_40 : decode cX8_layOut 40 = .ok (.iadd, 1) := by decide +kernel
theorem dX8_layOut_41 : decode cX8_layOut 41 = .ok (.aload_n 0, 1) := by decide +kernel
theorem dX8_layOut_42 : decode cX8_layOut 42 = .ok (.getfield 38, 3) := by decide +kernel
theorem dX8_layOut_45 : decode cX8_layOut 45 = .ok (.iload_n 1, 1) := by decide +kernel
theorem dX8_layOut_46 : decode cX8_layOut 46 = .ok (.iaload, 1) := by decide +kernel
theorem dX8_layOut_47 : decode cX8_layOut 47 = .ok (.irem, 1) := by decide +kernel
theorem dX8_layOut_48 : decode cX8_layOut 48 = .ok (.iadd, 1) := by decide +kernel
theorem dX8_layOut_49 : decode cX8_layOut 49 = .ok (.iaload, 1) := by decide +kernel
theorem dX8_layOut_50 : decode cX8_layOut 50 = .ok (.iand, 1) := by decide +kernel
theorem dX8_layOut_51 : decode cX8_layOut 51 = .ok (.istore 5, 2) := by decide +kernel
theorem dX8_layOut_53 : decode cX8_layOut 53 = .ok (.aload_n 0, 1) := by decide +kernel
theorem dX8_layOut_54 : decode cX8_layOut 54 = .ok (.iload_n 1, 1) := by decide +kernel
theorem dX8_layOut_55 : decode cX8_layOut 55 = .ok (.iload_n 3, 1) := by decide +kernel
theorem dX8_layOut_56 : decode cX8_layOut 56 = .ok (.invokevirtual 182, 3) := by decide +kernel
theorem dX8_layOut_59 : decode cX8_layOut 59 = .ok (.istore 6, 2) := by decide +kernel
theorem dX8_layOut_61 : decode cX8_layOut 61 = .ok (.iconst 0, 1) := by decide +kernel
theorem dX8_layOut_62 : decode cX8_layOut 62 = .ok (.istore 7, 2) := by decide +kernel
theorem dX8_layOut_64 : decode cX8_layOut 64 = .ok (.iload 7, 2) := by decide +kernel
theorem dX8_layOut_66 : decode cX8_layOut 66 = .ok (.aload_n 0, 1) := by decide +kernel
theorem dX8_layOut_67 : decode cX8_layOut 67 = .ok (.getfield 44, 3) := by decide +kernel
theorem dX8_layOut_70 : decode cX8_layOut 70 = .ok (.iconst 4, 1) := by decide +kernel
theorem dX8_layOut_71 : decode cX8_layOut 71 = .ok (.iload_n 1, 1) := by decide +kernel
theorem dX8_layOut_72 : decode cX8_layOut 72 = .ok (.imul, 1) := by decide +kernel
theorem dX8_layOut_73 : decode cX8_layOut 73 = .ok (.iload_n 3, 1) := by decide +kernel
theorem dX8_layOut_74 : decode cX8_layOut 74 = .ok (.iadd, 1) := by decide +kernel
theorem dX8_layOut_75 : decode cX8_layOut 75 = .ok (.iaload, 1) := by decide +kernel
theorem dX8_layOut_76 : decode cX8_layOut 76 = .ok (.iload 6, 2) := by decide +kernel
theorem dX8_layOut_78 : decode cX8_layOut 78 = .ok (.iadd, 1) := by decide +kernel
theorem dX8_layOut_79 : decode cX8_layOut 79 = .ok (.if_icmp .ge 47, 3) := by decide +kernel
theorem dX8_layOut_82 : decode cX8_layOut 82 = .ok (.aload_n 0, 1) := by decide +kernel
theorem dX8_layOut_83 : decode cX8_layOut 83 = .ok (.getfield 69, 3) := by decide +kernel
theorem dX8_layOut_86 : decode cX8_layOut 86 = .ok (.iload_n 2, 1) := by decide +kernel
theorem dX8_layOut_87 : decode cX8_layOut 87 = .ok (.iload 7, 2) := by decide +kernel
theorem dX8_layOut_89 : decode cX8_layOut 89 = .ok (.aload_n 0, 1) := by decide +kernel
theorem dX8_layOut_90 : decode cX8_layOut 90 = .ok (.getfield 44, 3) := by decide +kernel
theorem dX8_layOut_93 : decode cX8_layOut 93 = .ok (.iconst 4, 1) := by decide +kernel
theorem dX8_layOut_94 : decode cX8_layOut 94 = .ok (.iload_n 1, 1) := by decide +kernel
theorem dX8_layOut_95 : decode cX8_layOut 95 = .ok (.imul, 1) := by decide +kernel
theorem dX8_layOut_96 : decode cX8_layOut 96 = .ok (.iload_n 3, 1) := by decide +kernel
theorem dX8_layOut_97 : decode cX8_layOut 97 = .ok (.iadd, 1) := by decide +kernel
theorem dX8_layOut_98 : decode cX8_layOut 98 = .ok (.iaload, 1) := by decide +kernel
theorem dX8_layOut_99 : decode cX8_layOut 99 = .ok (.if_icmp .ge 8, 3) := by decide +kernel
theorem dX8_layOut_102 : decode cX8_layOut 102 = .ok (.iload 4, 2) := by decide +kernel
theorem dX8_layOut_104 : decode cX8_layOut 104 = .ok (.goto 5, 3) := by decide +kernel
theorem dX8_layOut_107 : decode cX8_layOut 107 = .ok (.iload 5, 2) := by decide +kernel
theorem dX8_layOut_109 : decode cX8_layOut 109 = .ok (.iastore, 1) := by decide +kernel
theorem dX8_layOut_110 : decode cX8_layOut 110 = .ok (.aload_n 0, 1) := by decide +kernel
theorem dX8_layOut_111 : decode cX8_layOut 111 = .ok (.getfield 72, 3) := by decide +kernel
theorem dX8_layOut_114 : decode cX8_layOut 114 = .ok (.iload_n 2, 1) := by decide +kernel
theorem dX8_layOut_115 : decode cX8_layOut 115 = .ok (.iload_n 3, 1) := by decide +kernel
theorem dX8_layOut_116 : decode cX8_layOut 116 = .ok (.iastore, 1) := by decide +kernel
theorem dX8_layOut_117 : decode cX8_layOut 117 = .ok (.iinc 2 1, 3) := by decide +kernel
theorem dX8_layOut_120 : decode cX8_layOut 120 = .ok (.iinc 7 1, 3) := by decide +kernel
theorem dX8_layOut_123 : decode cX8_layOut 123 = .ok (.goto (-59), 3) := by decide +kernel
theorem dX8_layOut_126 : decode cX8_layOut 126 = .ok (.iinc 3 1, 3) := by decide +kernel
theorem dX8_layOut_129 : decode cX8_layOut 129 = .ok (.goto (-122), 3) := by decide +kernel
theorem dX8_layOut_132 : decode cX8_layOut 132 = .ok (.return_, 1) := by decide +kernel
theorem dX8_isGreen_0 : decode cX8_isGreen 0 = .ok (.aload_n 0, 1) := by decide +kernel
theorem dX8_isGreen_1 : decode cX8_isGreen 1 = .ok (.getfield 69, 3) := by decide +kernel
theorem dX8_isGreen_4 : decode cX8_isGreen 4 = .ok (.bipush 90, 2) := by decide +kernel
theorem dX8_isGreen_6 : decode cX8_isGreen 6 = .ok (.iload_n 1, 1) := by decide +kernel
theorem dX8_isGreen_7 : decode cX8_isGreen 7 = .ok (.imul, 1) := by decide +kernel
theorem dX8_isGreen_8 : decode cX8_isGreen 8 = .ok (.iload_n 3, 1) := by decide +kernel
theorem dX8_isGreen_9 : decode cX8_isGreen 9 = .ok (.aload_n 0, 1) := by decide +kernel
theorem dX8_isGreen_10 : decode cX8_isGreen 10 = .ok (.getfield 35, 3) := by decide +kernel
theorem dX8_isGreen_13 : decode cX8_isGreen 13 = .ok (.iload_n 1, 1) := by decide +kernel
theorem dX8_isGreen_14 : decode cX8_isGreen 14 = .ok (.iaload, 1) := by decide +kernel
theorem dX8_isGreen_15 : decode cX8_isGreen 15 = .ok (.invokestatic 185, 3) := by decide +kernel
theorem dX8_isGreen_18 : decode cX8_isGreen 18 = .ok (.iadd, 1) := by decide +kernel
theorem dX8_isGreen_19 : decode cX8_isGreen 19 = .ok (.iaload, 1) := by decide +kernel
theorem dX8_isGreen_20 : decode cX8_isGreen 20 = .ok (.iload_n 2, 1) := by decide +kernel
theorem dX8_isGreen_21 : decode cX8_isGreen 21 = .ok (.ishr, 1) := by decide +kernel
theorem dX8_isGreen_22 : decode cX8_isGreen 22 = .ok (.iconst 1, 1) := by decide +kernel
theorem dX8_isGreen_23 : decode cX8_isGreen 23 = .ok (.iand, 1) := by decide +kernel
theorem dX8_isGreen_24 : decode cX8_isGreen 24 = .ok (.iconst 1, 1) := by decide +kernel
theorem dX8_isGreen_25 : decode cX8_isGreen 25 = .ok (.if_icmp .ne 7, 3) := by decide +kernel
theorem dX8_isGreen_28 : decode cX8_isGreen 28 = .ok (.iconst 1, 1) := by decide +kernel
theorem dX8_isGreen_29 : decode cX8_isGreen 29 = .ok (.goto 4, 3) := by decide +kernel
theorem dX8_isGreen_32 : decode cX8_isGreen 32 = .ok (.iconst 0, 1) := by decide +kernel
theorem dX8_isGreen_33 : decode cX8_isGreen 33 = .ok (.ireturn, 1) := by decide +kernel
theorem dX8_take_0 : decode cX8_take 0 = .ok (.aload_n 0, 1) := by decide +kernel
theorem dX8_take_1 : decode cX8_take 1 = .ok (.iload_n 1, 1) := by decide +kernel
theorem dX8_take_2 : decode cX8_take 2 = .ok (.invokevirtual 142, 3) := by decide +kernel
theorem dX8_take_5 : decode cX8_take 5 = .ok (.ifCond .eq 28, 3) := by decide +kernel
theorem dX8_take_8 : decode cX8_take 8 = .ok (.aload_n 0, 1) := by decide +kernel
theorem dX8_take_9 : decode cX8_take 9 = .ok (.getfield 32, 3) := by decide +kernel
theorem dX8_take_12 : decode cX8_take 12 = .ok (.iload_n 1, 1) := by decide +kernel
theorem dX8_take_13 : decode cX8_take 13 = .ok (.baload, 1) := by decide +kernel
theorem dX8_take_14 : decode cX8_take 14 = .ok (.ifCond .eq 19, 3) := by decide +kernel
theorem dX8_take_17 : decode cX8_take 17 = .ok (.iload_n 2, 1) := by decide +kernel
theorem dX8_take_18 : decode cX8_take 18 = .ok (.iconst 0, 1) := by decide +kernel
theorem dX8_take_19 : decode cX8_take 19 = .ok (.aload_n 0, 1) := by decide +kernel
theorem dX8_take_20 : decode cX8_take 20 = .ok (.getfield 35, 3) := by decide +kernel
theorem dX8_take_23 : decode cX8_take 23 = .ok (.iload_n 1, 1) := by decide +kernel
theorem dX8_take_24 : decode cX8_take 24 = .ok (.iaload, 1) := by decide +kernel
theorem dX8_take_25 : decode cX8_take 25 = .ok (.iconst 1, 1) := by decide +kernel
theorem dX8_take_26 : decode cX8_take 26 = .ok (.isub, 1) := by decide +kernel
theorem dX8_take_27 : decode cX8_take 27 = .ok (.invokestatic 149, 3) := by decide +kernel
theorem dX8_take_30 : decode cX8_take 30 = .ok (.ifCond .ne 5, 3) := by decide +kernel
theorem dX8_take_33 : decode cX8_take 33 = .ok (.iconst 1, 1) := by decide +kernel
theorem dX8_take_34 : decode cX8_take 34 = .ok (.ireturn, 1) := by decide +kernel
theorem dX8_take_35 : decode cX8_take 35 = .ok (.iload_n 1, 1) := by decide +kernel
theorem dX8_take_36 : decode cX8_take 36 = .ok (.istore_n 3, 1) := by decide +kernel
theorem dX8_take_37 : decode cX8_take 37 = .ok (.aload_n 0, 1) := by decide +kernel
theorem dX8_take_38 : decode cX8_take 38 = .ok (.getfield 38, 3) := by decide +kernel
theorem dX8_take_41 : decode cX8_take 41 = .ok (.iload_n 3, 1) := by decide +kernel
theorem dX8_take_42 : decode cX8_take 42 = .ok (.iaload, 1) := by decide +kernel
theorem dX8_take_43 : decode cX8_take 43 = .ok (.iconst 2, 1) := by decide +kernel
theorem dX8_take_44 : decode cX8_take 44 = .ok (.if_icmp .ge 5, 3) := by decide +kernel
theorem dX8_take_47 : decode cX8_take 47 = .ok (.iconst 2, 1) := by decide +kernel
theorem dX8_take_48 : decode cX8_take 48 = .ok (.ireturn, 1) := by decide +kernel
theorem dX8_take_49 : decode cX8_take 49 = .ok (.aload_n 0, 1) := by decide +kernel
theorem dX8_take_50 : decode cX8_take 50 = .ok (.iload_n 3, 1) := by decide +kernel
theorem dX8_take_51 : decode cX8_take 51 = .ok (.invokevirtual 188, 3) := by decide +kernel
theorem dX8_take_54 : decode cX8_take 54 = .ok (.istore 4, 2) := by decide +kernel
theorem dX8_take_56 : decode cX8_take 56 = .ok (.iconst 0, 1) := by decide +kernel
theorem dX8_take_57 : decode cX8_take 57 = .ok (.istore 5, 2) := by decide +kernel
theorem dX8_take_59 : decode cX8_take 59 = .ok (.iload 5, 2) := by decide +kernel
theorem dX8_take_61 : decode cX8_take 61 = .ok (.aload_n 0, 1) := by decide +kernel
theorem dX8_take_62 : decode cX8_take 62 = .ok (.getfield 38, 3) := by decide +kernel
theorem dX8_take_65 : decode cX8_take 65 = .ok (.iload_n 3, 1) := by decide +kernel
theorem dX8_take_66 : decode cX8_take 66 = .ok (.iaload, 1) := by decide +kernel
theorem dX8_take_67 : decode cX8_take 67 = .ok (.if_icmp .ge 42, 3) := by decide +kernel
theorem dX8_take_70 : decode cX8_take 70 = .ok (.aload_n 0, 1) := by decide +kernel
theorem dX8_take_71 : decode cX8_take 71 = .ok (.getfield 44, 3) := by decide +kernel
theorem dX8_take_74 : decode cX8_take 74 = .ok (.iconst 4, 1) := by decide +kernel
theorem dX8_take_75 : decode cX8_take 75 = .ok (.iload_n 3, 1) := by decide +kernel
theorem dX8_take_76 : decode cX8_take 76 = .ok (.imul, 1) := by decide +kernel
theorem dX8_take_77 : decode cX8_take 77 = .ok (.iload 5, 2) := by decide +kernel
theorem dX8_take_79 : decode cX8_take 79 = .ok (.iadd, 1) := by decide +kernel
theorem dX8_take_80 : decode cX8_take 80 = .ok (.iaload, 1) := by decide +kernel
theorem dX8_take_81 : decode cX8_take 81 = .ok (.iconst 1, 1) := by decide +kernel
theorem dX8_take_82 : decode cX8_take 82 = .ok (.if_icmp .ge 5, 3) := by decide +kernel
theorem dX8_take_85 : decode cX8_take 85 = .ok (.iconst 3, 1) := by decide +kernel
theorem dX8_take_86 : decode cX8_take 86 = .ok (.ireturn, 1) := by decide +kernel
theorem dX8_take_87 : decode cX8_take 87 = .ok (.iload 4, 2) := by decide +kernel
theorem dX8_take_89 : decode cX8_take 89 = .ok (.aload_n 0, 1) := by decide +kernel
theorem dX8_take_90 : decode cX8_take 90 = .ok (.getfield 44, 3) := by decide +kernel
theorem dX8_take_93 : decode cX8_take 93 = .ok (.iconst 4, 1) := by decide +kernel
theorem dX8_take_94 : decode cX8_take 94 = .ok (.iload_n 3, 1) := by decide +kernel
theorem dX8_take_95 : decode cX8_take 95 = .ok (.imul, 1) := by decide +kernel
theorem dX8_take_96 : decode cX8_take 96 = .ok (.iload 5, 2) := by decide +kernel
theorem dX8_take_98 : decode cX8_take 98 = .ok (.iadd, 1) := by decide +kernel
theorem dX8_take_99 : decode cX8_take 99 = .ok (.iaload, 1) := by decide +kernel
theorem dX8_take_100 : decode cX8_take 100 = .ok (.iadd, 1) := by decide +kernel
theorem dX8_take_101 : decode cX8_take 101 = .ok (.istore 4, 2) := by decide +kernel
theorem dX8_take_103 : decode cX8_take 103 = .ok (.iinc 5 1, 3) := by decide +kernel
theorem dX8_take_106 : decode cX8_take 106 = .ok (.goto (-47), 3) := by decide +kernel
theorem dX8_take_109 : decode cX8_take 109 = .ok (.iload 4, 2) := by decide +kernel
theorem dX8_take_111 : decode cX8_take 111 = .ok (.aload_n 0, 1) := by decide +kernel
theorem dX8_take_112 : decode cX8_take 112 = .ok (.getfield 35, 3) := by decide +kernel
theorem dX8_take_115 : decode cX8_take 115 = .ok (.iload_n 3, 1) := by decide +kernel
theorem dX8_take_116 : decode cX8_take 116 = .ok (.iaload, 1) := by decide +kernel
theorem dX8_take_117 : decode cX8_take 117 = .ok (.if_icmp .eq 5, 3) := by decide +kernel
theorem dX8_take_120 : decode cX8_take 120 = .ok (.iconst 4, 1) := by decide +kernel
theorem dX8_take_121 : decode cX8_take 121 = .ok (.ireturn, 1) := by decide +kernel
theorem dX8_take_122 : decode cX8_take 122 = .ok (.aload_n 0, 1) := by decide +kernel
theorem dX8_take_123 : decode cX8_take 123 = .ok (.iload_n 3, 1) := by decide +kernel
theorem dX8_take_124 : decode cX8_take 124 = .ok (.invokevirtual 192, 3) := by decide +kernel
theorem dX8_take_127 : decode cX8_take 127 = .ok (.aload_n 0, 1) := by decide +kernel
theorem dX8_take_128 : decode cX8_take 128 = .ok (.iload_n 3, 1) := by decide +kernel
theorem dX8_take_129 : decode cX8_take 129 = .ok (.invokevirtual 196, 3) := by decide +kernel
theorem dX8_take_132 : decode cX8_take 132 = .ok (.ifCond .ne 5, 3) := by decide +kernel
theorem dX8_take_135 : decode cX8_take 135 = .ok (.iconst 5, 1) := by decide +kernel
theorem dX8_take_136 : decode cX8_take 136 = .ok (.ireturn, 1) := by decide +kernel
theorem dX8_take_137 : decode cX8_take 137 = .ok (.aload_n 0, 1) := by decide +kernel
theorem dX8_take_138 : decode cX8_take 138 = .ok (.iload_n 3, 1) := by decide +kernel
theorem dX8_take_139 : decode cX8_take 139 = .ok (.invokevirtual 199, 3) := by decide +kernel
theorem dX8_take_142 : decode cX8_take 142 = .ok (.ifCond .ne 6, 3) := by decide +kernel
theorem dX8_take_145 : decode cX8_take 145 = .ok (.bipush 6, 2) := by decide +kernel
theorem dX8_take_147 : decode cX8_take 147 = .ok (.ireturn, 1) := by decide +kernel
theorem dX8_take_148 : decode cX8_take 148 = .ok (.bipush 8, 2) := by decide +kernel
theorem dX8_take_150 : decode cX8_take 150 = .ok (.iload_n 1, 1) := by decide +kernel
theorem dX8_take_151 : decode cX8_take 151 = .ok (.iadd, 1) := by decide +kernel
theorem dX8_take_152 : decode cX8_take 152 = .ok (.istore 5, 2) := by decide +kernel
theorem dX8_take_154 : decode cX8_take 154 = .ok (.aload_n 0, 1) := by decide +kernel
theorem dX8_take_155 : decode cX8_take 155 = .ok (.getfield 32, 3) := by decide +kernel
theorem dX8_take_158 : decode cX8_take 158 = .ok (.iload 5, 2) := by decide +kernel
theorem dX8_take_160 : decode cX8_take 160 = .ok (.iconst 1, 1) := by decide +kernel
theorem dX8_take_161 : decode cX8_take 161 = .ok (.bastore, 1) := by decide +kernel
theorem dX8_take_162 : decode cX8_take 162 = .ok (.aload_n 0, 1) := by decide +kernel
theorem dX8_take_163 : decode cX8_take 163 = .ok (.getfield 35, 3) := by decide +kernel
theorem dX8_take_166 : decode cX8_take 166 = .ok (.iload 5, 2) := by decide +kernel
theorem dX8_take_168 : decode cX8_take 168 = .ok (.aload_n 0, 1) := by decide +kernel
theorem dX8_take_169 : decode cX8_take 169 = .ok (.getfield 35, 3) := by decide +kernel
theorem dX8_take_172 : decode cX8_take 172 = .ok (.iload_n 3, 1) := by decide +kernel
theorem dX8_take_173 : decode cX8_take 173 = .ok (.iaload, 1) := by decide +kernel
theorem dX8_take_174 : decode cX8_take 174 = .ok (.iastore, 1) := by decide +kernel
theorem dX8_take_175 : decode cX8_take 175 = .ok (.aload_n 0, 1) := by decide +kernel
theorem dX8_take_176 : decode cX8_take 176 = .ok (.getfield 38, 3) := by decide +kernel
theorem dX8_take_179 : decode cX8_take 179 = .ok (.iload 5, 2) := by decide +kernel
theorem dX8_take_181 : decode cX8_take 181 = .ok (.aload_n 0, 1) := by decide +kernel
theorem dX8_take_182 : decode cX8_take 182 = .ok (.getfield 38, 3) := by decide +kernel
theorem dX8_take_185 : decode cX8_take 185 = .ok (.iload_n 3, 1) := by decide +kernel
theorem dX8_take_186 : decode cX8_take 186 = .ok (.iaload, 1) := by decide +kernel
theorem dX8_take_187 : decode cX8_take 187 = .ok (.iastore, 1) := by decide +kernel
theorem dX8_take_188 : decode cX8_take 188 = .ok (.iconst 0, 1) := by decide +kernel
theorem dX8_take_189 : decode cX8_take 189 = .ok (.istore 6, 2) := by decide +kernel
theorem dX8_take_191 : decode cX8_take 191 = .ok (.iload 6, 2) := by decide +kernel
theorem dX8_take_193 : decode cX8_take 193 = .ok (.iconst 4, 1) := by decide +kernel
theorem dX8_take_194 : decode cX8_take 194 = .ok (.if_icmp .ge 55, 3) := by decide +kernel
theorem dX8_take_197 : decode cX8_take 197 = .ok (.aload_n 0, 1) := by decide +kernel
theorem dX8_take_198 : decode cX8_take 198 = .ok (.getfield 41, 3) := by decide +kernel
theorem dX8_take_201 : decode cX8_take 201 = .ok (.iconst 4, 1) := by decide +kernel
theorem dX8_take_202 : decode cX8_take 202 = .ok (.iload 5, 2) := by decide +kernel
theorem dX8_take_204 : decode cX8_take 204 = .ok (.imul, 1) := by decide +kernel
theorem dX8_take_205 : decode cX8_take 205 = .ok (.iload 6, 2) := by decide +kernel
theorem dX8_take_207 : decode cX8_take 207 = .ok (.iadd, 1) := by decide +kernel
theorem dX8_take_208 : decode cX8_take 208 = .ok (.aload_n 0, 1) := by decide +kernel
theorem dX8_take_209 : decode cX8_take 209 = .ok (.getfield 41, 3) := by decide +kernel
theorem dX8_take_212 : decode cX8_take 212 = .ok (.iconst 4, 1) := by decide +kernel
theorem dX8_take_213 : decode cX8_take 213 = .ok (.iload_n 3, 1) := by decide +kernel
theorem dX8_take_214 : decode cX8_take 214 = .ok (.imul, 1) := by decide +kernel
theorem dX8_take_215 : decode cX8_take 215 = .ok (.iload 6, 2) := by decide +kernel
theorem dX8_take_217 : decode cX8_take 217 = .ok (.iadd, 1) := by decide +kernel
theorem dX8_take_218 : decode cX8_take 218 = .ok (.iaload, 1) := by decide +kernel
theorem dX8_take_219 : decode cX8_take 219 = .ok (.iastore, 1) := by decide +kernel
theorem dX8_take_220 : decode cX8_take 220 = .ok (.aload_n 0, 1) := by decide +kernel
theorem dX8_take_221 : decode cX8_take 221 = .ok (.getfield 44, 3) := by decide +kernel
theorem dX8_take_224 : decode cX8_take 224 = .ok (.iconst 4, 1) := by decide +kernel
theorem dX8_take_225 : decode cX8_take 225 = .ok (.iload 5, 2) := by decide +kernel
theorem dX8_take_227 : decode cX8_take 227 = .ok (.imul, 1) := by decide +kernel
theorem dX8_take_228 : decode cX8_take 228 = .ok (.iload 6, 2) := by decide +kernel
theorem dX8_take_230 : decode cX8_take 230 = .ok (.iadd, 1) := by decide +kernel
theorem dX8_take_231 : decode cX8_take 231 = .ok (.aload_n 0, 1) := by decide +kernel
theorem dX8_take_232 : decode cX8_take 232 = .ok (.getfield 44, 3) := by decide +kernel
theorem dX8_take_235 : decode cX8_take 235 = .ok (.iconst 4, 1) := by decide +kernel
theorem dX8_take_236 : decode cX8_take 236 = .ok (.iload_n 3, 1) := by decide +kernel
theorem dX8_take_237 : decode cX8_take 237 = .ok (.imul, 1) := by decide +kernel
theorem dX8_take_238 : decode cX8_take 238 = .ok (.iload 6, 2) := by decide +kernel
theorem dX8_take_240 : decode cX8_take 240 = .ok (.iadd, 1) := by decide +kernel
theorem dX8_take_241 : decode cX8_take 241 = .ok (.iaload, 1) := by decide +kernel
theorem dX8_take_242 : decode cX8_take 242 = .ok (.iastore, 1) := by decide +kernel
theorem dX8_take_243 : decode cX8_take 243 = .ok (.iinc 6 1, 3) := by decide +kernel
theorem dX8_take_246 : decode cX8_take 246 = .ok (.goto (-55), 3) := by decide +kernel
theorem dX8_take_249 : decode cX8_take 249 = .ok (.aload_n 0, 1) := by decide +kernel
theorem dX8_take_250 : decode cX8_take 250 = .ok (.iload 5, 2) := by decide +kernel
theorem dX8_take_252 : decode cX8_take 252 = .ok (.invokevirtual 192, 3) := by decide +kernel
theorem dX8_take_255 : decode cX8_take 255 = .ok (.aload_n 0, 1) := by decide +kernel
theorem dX8_take_256 : decode cX8_take 256 = .ok (.getfield 32, 3) := by decide +kernel
theorem dX8_take_259 : decode cX8_take 259 = .ok (.iload_n 3, 1) := by decide +kernel
theorem dX8_take_260 : decode cX8_take 260 = .ok (.iconst 0, 1) := by decide +kernel
theorem dX8_take_261 : decode cX8_take 261 = .ok (.bastore, 1) := by decide +kernel
theorem dX8_take_262 : decode cX8_take 262 = .ok (.aload_n 0, 1) := by decide +kernel
theorem dX8_take_263 : decode cX8_take 263 = .ok (.getfield 47, 3) := by decide +kernel
theorem dX8_take_266 : decode cX8_take 266 = .ok (.iload 5, 2) := by decide +kernel
theorem dX8_take_268 : decode cX8_take 268 = .ok (.iload_n 2, 1) := by decide +kernel
theorem dX8_take_269 : decode cX8_take 269 = .ok (.iastore, 1) := by decide +kernel
theorem dX8_take_270 : decode cX8_take 270 = .ok (.aload_n 0, 1) := by decide +kernel
theorem dX8_take_271 : decode cX8_take 271 = .ok (.getfield 50, 3) := by decide +kernel
theorem dX8_take_274 : decode cX8_take 274 = .ok (.iload_n 1, 1) := by decide +kernel
theorem dX8_take_275 : decode cX8_take 275 = .ok (.aload_n 0, 1) := by decide +kernel
theorem dX8_take_276 : decode cX8_take 276 = .ok (.getfield 38, 3) := by decide +kernel
theorem dX8_take_279 : decode cX8_take 279 = .ok (.iload 5, 2) := by decide +kernel
theorem dX8_take_281 : decode cX8_take 281 = .ok (.iaload, 1) := by decide +kernel
theorem dX8_take_282 : decode cX8_take 282 = .ok (.iastore, 1) := by decide +kernel
theorem dX8_take_283 : decode cX8_take 283 = .ok (.aload_n 0, 1) := by decide +kernel
theorem dX8_take_284 : decode cX8_take 284 = .ok (.getfield 56, 3) := by decide +kernel
theorem dX8_take_287 : decode cX8_take 287 = .ok (.iload_n 1, 1) := by decide +kernel
theorem dX8_take_288 : decode cX8_take 288 = .ok (.iconst 0, 1) := by decide +kernel
theorem dX8_take_289 : decode cX8_take 289 = .ok (.bastore, 1) := by decide +kernel
theorem dX8_take_290 : decode cX8_take 290 = .ok (.aload_n 0, 1) := by decide +kernel
theorem dX8_take_291 : decode cX8_take 291 = .ok (.getfield 146, 3) := by decide +kernel
theorem dX8_take_294 : decode cX8_take 294 = .ok (.ifCond .le 16, 3) := by decide +kernel
theorem dX8_take_297 : decode cX8_take 297 = .ok (.aload_n 0, 1) := by decide +kernel
theorem dX8_take_298 : decode cX8_take 298 = .ok (.getfield 53, 3) := by decide +kernel
theorem dX8_take_301 : decode cX8_take 301 = .ok (.iload_n 1, 1) := by decide +kernel
theorem dX8_take_302 : decode cX8_take 302 = .ok (.aload_n 0, 1) := by decide +kernel
theorem dX8_take_303 : decode cX8_take 303 = .ok (.getfield 146, 3) := by decide +kernel
theorem dX8_take_306 : decode cX8_take 306 = .ok (.bipush 20, 2) := by decide +kernel
theorem dX8_take_308 : decode cX8_take 308 = .ok (.iadd, 1) := by decide +kernel
theorem dX8_take_309 : decode cX8_take 309 = .ok (.iastore, 1) := by decide +kernel
theorem dX8_take_310 : decode cX8_take 310 = .ok (.iconst 0, 1) := by decide +kernel
theorem dX8_take_311 : decode cX8_take 311 = .ok (.ireturn, 1) := by decide +kernel
theorem dX8_tells_0 : decode cX8_tells 0 = .ok (.aload_n 0, 1) := by decide +kernel
theorem dX8_tells_1 : decode cX8_tells 1 = .ok (.iload_n 1, 1) := by decide +kernel
theorem dX8_tells_2 : decode cX8_tells 2 = .ok (.putfield 202, 3) := by decide +kernel
theorem dX8_tells_5 : decode cX8_tells 5 = .ok (.aload_n 0, 1) := by decide +kernel
theorem dX8_tells_6 : decode cX8_tells 6 = .ok (.iload_n 2, 1) := by decide +kernel
theorem dX8_tells_7 : decode cX8_tells 7 = .ok (.putfield 59, 3) := by decide +kernel
theorem dX8_tells_10 : decode cX8_tells 10 = .ok (.aload_n 0, 1) := by decide +kernel
theorem dX8_tells_11 : decode cX8_tells 11 = .ok (.iload_n 3, 1) := by decide +kernel
theorem dX8_tells_12 : decode cX8_tells 12 = .ok (.putfield 63, 3) := by decide +kernel
theorem dX8_tells_15 : decode cX8_tells 15 = .ok (.aload_n 0, 1) := by decide +kernel
theorem dX8_tells_16 : decode cX8_tells 16 = .ok (.iload 4, 2) := by decide +kernel
theorem dX8_tells_18 : decode cX8_tells 18 = .ok (.putfield 66, 3) := by decide +kernel
theorem dX8_tells_21 : decode cX8_tells 21 = .ok (.iconst 0, 1) := by decide +kernel
theorem dX8_tells_22 : decode cX8_tells 22 = .ok (.ireturn, 1) := by decide +kernel
theorem dX8_hasLeast_0 : decode cX8_hasLeast 0 = .ok (.iconst 0, 1) := by decide +kernel
theorem dX8_hasLeast_1 : decode cX8_hasLeast 1 = .ok (.istore_n 2, 1) := by decide +kernel
theorem dX8_hasLeast_2 : decode cX8_hasLeast 2 = .ok (.iload_n 2, 1) := by decide +kernel
theorem dX8_hasLeast_3 : decode cX8_hasLeast 3 = .ok (.aload_n 0, 1) := by decide +kernel
theorem dX8_hasLeast_4 : decode cX8_hasLeast 4 = .ok (.getfield 35, 3) := by decide +kernel
theorem dX8_hasLeast_7 : decode cX8_hasLeast 7 = .ok (.iload_n 1, 1) := by decide +kernel
theorem dX8_hasLeast_8 : decode cX8_hasLeast 8 = .ok (.iaload, 1) := by decide +kernel
theorem dX8_hasLeast_9 : decode cX8_hasLeast 9 = .ok (.if_icmp .ge 99, 3) := by decide +kernel
theorem dX8_hasLeast_12 : decode cX8_hasLeast 12 = .ok (.iconst 0, 1) := by decide +kernel
theorem dX8_hasLeast_13 : decode cX8_hasLeast 13 = .ok (.istore_n 3, 1) := by decide +kernel
theorem dX8_hasLeast_14 : decode cX8_hasLeast 14 = .ok (.iload_n 3, 1) := by decide +kernel
theorem dX8_hasLeast_15 : decode cX8_hasLeast 15 = .ok (.aload_n 0, 1) := by decide +kernel
theorem dX8_hasLeast_16 : decode cX8_hasLeast 16 = .ok (.getfield 7, 3) := by decide +kernel
theorem dX8_hasLeast_19 : decode cX8_hasLeast 19 = .ok (.iload_n 1, 1) := by decide +kernel
theorem dX8_hasLeast_20 : decode cX8_hasLeast 20 = .ok (.iaload, 1) := by decide +kernel
theorem dX8_hasLeast_21 : decode cX8_hasLeast 21 = .ok (.if_icmp .ge 81, 3) := by decide +kernel
theorem dX8_hasLeast_24 : decode cX8_hasLeast 24 = .ok (.aload_n 0, 1) := by decide +kernel
theorem dX8_hasLeast_25 : decode cX8_hasLeast 25 = .ok (.iload_n 1, 1) := by decide +kernel
theorem dX8_hasLeast_26 : decode cX8_hasLeast 26 = .ok (.iload_n 3, 1) := by decide +kernel
theorem dX8_hasLeast_27 : decode cX8_hasLeast 27 = .ok (.iload_n 2, 1) := by decide +kernel
theorem dX8_hasLeast_28 : decode cX8_hasLeast 28 = .ok (.invokevirtual 205, 3) := by decide +kernel
theorem dX8_hasLeast_31 : decode cX8_hasLeast 31 = .ok (.ifCond .eq 65, 3) := by decide +kernel
theorem dX8_hasLeast_34 : decode cX8_hasLeast 34 = .ok (.aload_n 0, 1) := by decide +kernel
theorem dX8_hasLeast_35 : decode cX8_hasLeast 35 = .ok (.iload_n 1, 1) := by decide +kernel
theorem dX8_hasLeast_36 : decode cX8_hasLeast 36 = .ok (.iload_n 3, 1) := by decide +kernel
theorem dX8_hasLeast_37 : decode cX8_hasLeast 37 = .ok (.iload_n 2, 1) := by decide +kernel
theorem dX8_hasLeast_38 : decode cX8_hasLeast 38 = .ok (.iconst 1, 1) := by decide +kernel
theorem dX8_hasLeast_39 : decode cX8_hasLeast 39 = .ok (.isub, 1) := by decide +kernel
theorem dX8_hasLeast_40 : decode cX8_hasLeast 40 = .ok (.invokevirtual 205, 3) := by decide +kernel
theorem dX8_hasLeast_43 : decode cX8_hasLeast 43 = .ok (.ifCond .eq 6, 3) := by decide +kernel
theorem dX8_hasLeast_46 : decode cX8_hasLeast 46 = .ok (.goto 50, 3) := by decide +kernel
theorem dX8_hasLeast_49 : decode cX8_hasLeast 49 = .ok (.iconst 0, 1) := by decide +kernel
theorem dX8_hasLeast_50 : decode cX8_hasLeast 50 = .ok (.istore 4, 2) := by decide +kernel
theorem dX8_hasLeast_52 : decode cX8_hasLeast 52 = .ok (.aload_n 0, 1) := by decide +kernel
theorem dX8_hasLeast_53 : decode cX8_hasLeast 53 = .ok (.iload_n 1, 1) := by decide +kernel
theorem dX8_hasLeast_54 : decode cX8_hasLeast 54 = .ok (.iload_n 3, 1) := by decide +kernel
theorem dX8_hasLeast_55 : decode cX8_hasLeast 55 = .ok (.iload_n 2, 1) := by decide +kernel
theorem dX8_hasLeast_56 : decode cX8_hasLeast 56 = .ok (.iload 4, 2) := by decide +kernel
theorem dX8_hasLeast_58 : decode cX8_hasLeast 58 = .ok (.iadd, 1) := by decide +kernel
theorem dX8_hasLeast_59 : decode cX8_hasLeast 59 = .ok (.invokevirtual 205, 3) := by decide +kernel
theorem dX8_hasLeast_62 : decode cX8_hasLeast 62 = .ok (.ifCond .eq 9, 3) := by decide +kernel
theorem dX8_hasLeast_65 : decode cX8_hasLeast 65 = .ok (.iinc 4 1, 3) := by decide +kernel
theorem dX8_hasLeast_68 : decode cX8_hasLeast 68 = .ok (.goto (-16), 3) := by decide +kernel
theorem dX8_hasLeast_71 : decode cX8_hasLeast 71 = .ok (.iload 4, 2) := by decide +kernel
theorem dX8_hasLeast_73 : decode cX8_hasLeast 73 = .ok (.aload_n 0, 1) := by decide +kernel
theorem dX8_hasLeast_74 : decode cX8_hasLeast 74 = .ok (.getfield 22, 3) := by decide +kernel
theorem dX8_hasLeast_77 : decode cX8_hasLeast 77 = .ok (.bipush 8, 2) := by decide +kernel
theorem dX8_hasLeast_79 : decode cX8_hasLeast 79 = .ok (.iload_n 1, 1) := by decide +kernel
theorem dX8_hasLeast_80 : decode cX8_hasLeast 80 = .ok (.imul, 1) := by decide +kernel
theorem dX8_hasLeast_81 : decode cX8_hasLeast 81 = .ok (.iload_n 3, 1) := by decide +kernel
theorem dX8_hasLeast_82 : decode cX8_hasLeast 82 = .ok (.iadd, 1) := by decide +kernel
theorem dX8_hasLeast_83 : decode cX8_hasLeast 83 = .ok (.iaload, 1) := by decide +kernel
theorem dX8_hasLeast_84 : decode cX8_hasLeast 84 = .ok (.if_icmp .ge 12, 3) := by decide +kernel
theorem dX8_hasLeast_87 : decode cX8_hasLeast 87 = .ok (.aload_n 0, 1) := by decide +kernel
theorem dX8_hasLeast_88 : decode cX8_hasLeast 88 = .ok (.iconst 5, 1) := by decide +kernel
theorem dX8_hasLeast_89 : decode cX8_hasLeast 89 = .ok (.iload_n 2, 1) := by decide +kernel
theorem dX8_hasLeast_90 : decode cX8_hasLeast 90 = .ok (.iload_n 3, 1) := by decide +kernel
theorem dX8_hasLeast_91 : decode cX8_hasLeast 91 = .ok (.iconst (-1), 1) := by decide +kernel
theorem dX8_hasLeast_92 : decode cX8_hasLeast 92 = .ok (.invokevirtual 208, 3) := by decide +kernel
theorem dX8_hasLeast_95 : decode cX8_hasLeast 95 = .ok (.ireturn, 1) := by decide +kernel
theorem dX8_hasLeast_96 : decode cX8_hasLeast 96 = .ok (.iinc 3 1, 3) := by decide +kernel
theorem dX8_hasLeast_99 : decode cX8_hasLeast 99 = .ok (.goto (-85), 3) := by decide +kernel
theorem dX8_hasLeast_102 : decode cX8_hasLeast 102 = .ok (.iinc 2 1, 3) := by decide +kernel
theorem dX8_hasLeast_105 : decode cX8_hasLeast 105 = .ok (.goto (-103), 3) := by decide +kernel
theorem dX8_hasLeast_108 : decode cX8_hasLeast 108 = .ok (.iconst 1, 1) := by decide +kernel
theorem dX8_hasLeast_109 : decode cX8_hasLeast 109 = .ok (.ireturn, 1) := by decide +kernel
theorem dX8_isApart_0 : decode cX8_isApart 0 = .ok (.iconst 0, 1) := by decide +kernel
theorem dX8_isApart_1 : decode cX8_isApart 1 = .ok (.istore_n 2, 1) := by decide +kernel
theorem dX8_isApart_2 : decode cX8_isApart 2 = .ok (.iload_n 2, 1) := by decide +kernel
theorem dX8_isApart_3 : decode cX8_isApart 3 = .ok (.aload_n 0, 1) := by decide +kernel
theorem dX8_isApart_4 : decode cX8_isApart 4 = .ok (.getfield 35, 3) := by decide +kernel
theorem dX8_isApart_7 : decode cX8_isApart 7 = .ok (.iload_n 1, 1) := by decide +kernel
theorem dX8_isApart_8 : decode cX8_isApart 8 = .ok (.iaload, 1) := by decide +kernel
theorem dX8_isApart_9 : decode cX8_isApart 9 = .ok (.if_icmp .ge 116, 3) := by decide +kernel
theorem dX8_isApart_12 : decode cX8_isApart 12 = .ok (.iconst 0, 1) := by decide +kernel
theorem dX8_isApart_13 : decode cX8_isApart 13 = .ok (.istore_n 3, 1) := by decide +kernel
theorem dX8_isApart_14 : decode cX8_isApart 14 = .ok (.iload_n 3, 1) := by decide +kernel
theorem dX8_isApart_15 : decode cX8_isApart 15 = .ok (.aload_n 0, 1) := by decide +kernel
theorem dX8_isApart_16 : decode cX8_isApart 16 = .ok (.getfield 7, 3) := by decide +kernel
theorem dX8_isApart_19 : decode cX8_isApart 19 = .ok (.iload_n 1, 1) := by decide +kernel
theorem dX8_isApart_20 : decode cX8_isApart 20 = .ok (.iaload, 1) := by decide +kernel
theorem dX8_isApart_21 : decode cX8_isApart 21 = .ok (.if_icmp .ge 98, 3) := by decide +kernel
theorem dX8_isApart_24 : decode cX8_isApart 24 = .ok (.aload_n 0, 1) := by decide +kernel
theorem dX8_isApart_25 : decode cX8_isApart 25 = .ok (.iload_n 1, 1) := by decide +kernel
theorem dX8_isApart_26 : decode cX8_isApart 26 = .ok (.iload_n 3, 1) := by decide +kernel
theorem dX8_isApart_27 : decode cX8_isApart 27 = .ok (.iload_n 2, 1) := by decide +kernel
theorem dX8_isApart_28 : decode cX8_isApart 28 = .ok (.invokevirtual 205, 3) := by decide +kernel
theorem dX8_isApart_31 : decode cX8_isApart 31 = .ok (.ifCond .ne 6, 3) := by decide +kernel
theorem dX8_isApart_34 : decode cX8_isApart 34 = .ok (.goto 79, 3) := by decide +kernel
theorem dX8_isApart_37 : decode cX8_isApart 37 = .ok (.iconst 0, 1) := by decide +kernel
theorem dX8_isApart_38 : decode cX8_isApart 38 = .ok (.istore 4, 2) := by decide +kernel
theorem dX8_isApart_40 : decode cX8_isApart 40 = .ok (.iload 4, 2) := by decide +kernel
theorem dX8_isApart_42 : decode cX8_isApart 42 = .ok (.aload_n 0, 1) := by decide +kernel
theorem dX8_isApart_43 : decode cX8_isApart 43 = .ok (.getfield 7, 3) := by decide +kernel
theorem dX8_isApart_46 : decode cX8_isApart 46 = .ok (.iload_n 1, 1) := by decide +kernel
theorem dX8_isApart_47 : decode cX8_isApart 47 = .ok (.iaload, 1) := by decide +kernel
theorem dX8_isApart_48 : decode cX8_isApart 48 = .ok (.if_icmp .ge 65, 3) := by decide +kernel
theorem dX8_isApart_51 : decode cX8_isApart 51 = .ok (.aload_n 0, 1) := by decide +kernel
theorem dX8_isApart_52 : decode cX8_isApart 52 = .ok (.iload_n 1, 1) := by decide +kernel
theorem dX8_isApart_53 : decode cX8_isApart 53 = .ok (.iload 4, 2) := by decide +kernel
theorem dX8_isApart_55 : decode cX8_isApart 55 = .ok (.iload_n 3, 1) := by decide +kernel
theorem dX8_isApart_56 : decode cX8_isApart 56 = .ok (.invokevirtual 173, 3) := by decide +kernel
theorem dX8_isApart_59 : decode cX8_isApart 59 = .ok (.istore 5, 2) := by decide +kernel
theorem dX8_isApart_61 : decode cX8_isApart 61 = .ok (.iconst 0, 1) := by decide +kernel
theorem dX8_isApart_62 : decode cX8_isApart 62 = .ok (.istore 6, 2) := by decide +kernel
theorem dX8_isApart_64 : decode cX8_isApart 64 = .ok (.iload 6, 2) := by decide +kernel
theorem dX8_isApart_66 : decode cX8_isApart 66 = .ok (.iload 5, 2) := by decide +kernel
theorem dX8_isApart_68 : decode cX8_isApart 68 = .ok (.if_icmp .gt 39, 3) := by decide +kernel
theorem dX8_isApart_71 : decode cX8_isApart 71 = .ok (.iload 5, 2) := by decide +kernel
theorem dX8_isApart_73 : decode cX8_isApart 73 = .ok (.ifCond .le 34, 3) := by decide +kernel
theorem dX8_isApart_76 : decode cX8_isApart 76 = .ok (.aload_n 0, 1) := by decide +kernel
theorem dX8_isApart_77 : decode cX8_isApart 77 = .ok (.iload_n 1, 1) := by decide +kernel
theorem dX8_isApart_78 : decode cX8_isApart 78 = .ok (.iload 4, 2) := by decide +kernel
theorem dX8_isApart_80 : decode cX8_isApart 80 = .ok (.iload_n 2, 1) := by decide +kernel
theorem dX8_isApart_81 : decode cX8_isApart 81 = .ok (.iload 6, 2) := by decide +kernel
theorem dX8_isApart_83 : decode cX8_isApart 83 = .ok (.isub, 1) := by decide +kernel
theorem dX8_isApart_84 : decode cX8_isApart 84 = .ok (.invokevirtual 205, 3) := by decide +kernel
theorem dX8_isApart_87 : decode cX8_isApart 87 = .ok (.ifCond .eq 14, 3) := by decide +kernel
theorem dX8_isApart_90 : decode cX8_isApart 90 = .ok (.aload_n 0, 1) := by decide +kernel
theorem dX8_isApart_91 : decode cX8_isApart 91 = .ok (.bipush 6, 2) := by decide +kernel
theorem dX8_isApart_93 : decode cX8_isApart 93 = .ok (.iload_n 2, 1) := by decide +kernel
theorem dX8_isApart_94 : decode cX8_isApart 94 = .ok (.iload 4, 2) := by decide +kernel
theorem dX8_isApart_96 : decode cX8_isApart 96 = .ok (.iload_n 3, 1) := by decide +kernel
theorem dX8_isApart_97 : decode cX8_isApart 97 = .ok (.invokevirtual 208, 3) := by decide +kernel
theorem dX8_isApart_100 : decode cX8_isApart 100 = .ok (.ireturn, 1) := by decide +kernel
theorem dX8_isApart_101 : decode cX8_isApart 101 = .ok (.iinc 6 1, 3) := by decide +kernel
theorem dX8_isApart_104 : decode cX8_isApart 104 = .ok (.goto (-40), 3) := by decide +kernel
theorem dX8_isApart_107 : decode cX8_isApart 107 = .ok (.iinc 4 1, 3) := by decide +kernel
theorem dX8_isApart_110 : decode cX8_isApart 110 = .ok (.goto (-70), 3) := by decide +kernel
theorem dX8_isApart_113 : decode cX8_isApart 113 = .ok (.iinc 3 1, 3) := by decide +kernel
theorem dX8_isApart_116 : decode cX8_isApart 116 = .ok (.goto (-102), 3) := by decide +kernel
theorem dX8_isApart_119 : decode cX8_isApart 119 = .ok (.iinc 2 1, 3) := by decide +kernel
theorem dX8_isApart_122 : decode cX8_isApart 122 = .ok (.goto (-120), 3) := by decide +kernel
theorem dX8_isApart_125 : decode cX8_isApart 125 = .ok (.iconst 1, 1) := by decide +kernel
theorem dX8_isApart_126 : decode cX8_isApart 126 = .ok (.ireturn, 1) := by decide +kernel
theorem dX8_why_0 : decode cX8_why 0 = .ok (.aload_n 0, 1) := by decide +kernel
theorem dX8_why_1 : decode cX8_why 1 = .ok (.getfield 202, 3) := by decide +kernel
theorem dX8_why_4 : decode cX8_why 4 = .ok (.ifCond .ne 7, 3) := by decide +kernel
theorem dX8_why_7 : decode cX8_why 7 = .ok (.iconst (-1), 1) := by decide +kernel
theorem dX8_why_8 : decode cX8_why 8 = .ok (.goto 39, 3) := by decide +kernel
theorem dX8_why_11 : decode cX8_why 11 = .ok (.iload_n 1, 1) := by decide +kernel
theorem dX8_why_12 : decode cX8_why 12 = .ok (.ifCond .ne 10, 3) := by decide +kernel
theorem dX8_why_15 : decode cX8_why 15 = .ok (.aload_n 0, 1) := by decide +kernel
theorem dX8_why_16 : decode cX8_why 16 = .ok (.getfield 59, 3) := by decide +kernel
theorem dX8_why_19 : decode cX8_why 19 = .ok (.goto 28, 3) := by decide +kernel
theorem dX8_why_22 : decode cX8_why 22 = .ok (.iload_n 1, 1) := by decide +kernel
theorem dX8_why_23 : decode cX8_why 23 = .ok (.iconst 1, 1) := by decide +kernel
theorem dX8_why_24 : decode cX8_why 24 = .ok (.if_icmp .ne 10, 3) := by decide +kernel
theorem dX8_why_27 : decode cX8_why 27 = .ok (.aload_n 0, 1) := by decide +kernel
theorem dX8_why_28 : decode cX8_why 28 = .ok (.getfield 63, 3) := by decide +kernel
theorem dX8_why_31 : decode cX8_why 31 = .ok (.goto 16, 3) := by decide +kernel
theorem dX8_why_34 : decode cX8_why 34 = .ok (.iload_n 1, 1) := by decide +kernel
theorem dX8_why_35 : decode cX8_why 35 = .ok (.iconst 2, 1) := by decide +kernel
theorem dX8_why_36 : decode cX8_why 36 = .ok (.if_icmp .ne 10, 3) := by decide +kernel
theorem dX8_why_39 : decode cX8_why 39 = .ok (.aload_n 0, 1) := by decide +kernel
theorem dX8_why_40 : decode cX8_why 40 = .ok (.getfield 66, 3) := by decide +kernel
theorem dX8_why_43 : decode cX8_why 43 = .ok (.goto 4, 3) := by decide +kernel
theorem dX8_why_46 : decode cX8_why 46 = .ok (.iconst (-1), 1) := by decide +kernel
theorem dX8_why_47 : decode cX8_why 47 = .ok (.ireturn, 1) := by decide +kernel
theorem dX8_told_0 : decode cX8_told 0 = .ok (.aload_n 0, 1) := by decide +kernel
theorem dX8_told_1 : decode cX8_told 1 = .ok (.iload_n 1, 1) := by decide +kernel
theorem dX8_told_2 : decode cX8_told 2 = .ok (.invokevirtual 142, 3) := by decide +kernel
theorem dX8_told_5 : decode cX8_told 5 = .ok (.ifCond .eq 15, 3) := by decide +kernel
