theorem dX8_told_8 : decode cX8_told 8 = .ok (.aload_n 0, 1) := by decide +kernel
theorem dX8_told_9 : decode cX8_told 9 = .ok (.getfield 32, 3) := by decide +kernel
theorem dX8_told_12 : decode cX8_told 12 = .ok (.bipush 8, 2) := by decide +kernel
theorem dX8_told_14 : decode cX8_told 14 = .ok (.iload_n 1, 1) := by decide +kernel
theorem dX8_told_15 : decode cX8_told 15 = .ok (.iadd, 1) := by decide +kernel
theorem dX8_told_16 : decode cX8_told 16 = .ok (.baload, 1) := by decide +kernel
theorem dX8_told_17 : decode cX8_told 17 = .ok (.ifCond .ne 5, 3) := by decide +kernel
theorem dX8_told_20 : decode cX8_told 20 = .ok (.iconst (-1), 1) := by decide +kernel
theorem dX8_told_21 : decode cX8_told 21 = .ok (.ireturn, 1) := by decide +kernel
theorem dX8_told_22 : decode cX8_told 22 = .ok (.bipush 8, 2) := by decide +kernel
theorem dX8_told_24 : decode cX8_told 24 = .ok (.iload_n 1, 1) := by decide +kernel
theorem dX8_told_25 : decode cX8_told 25 = .ok (.iadd, 1) := by decide +kernel
theorem dX8_told_26 : decode cX8_told 26 = .ok (.istore_n 3, 1) := by decide +kernel
theorem dX8_told_27 : decode cX8_told 27 = .ok (.iload_n 2, 1) := by decide +kernel
theorem dX8_told_28 : decode cX8_told 28 = .ok (.bipush 10, 2) := by decide +kernel
theorem dX8_told_30 : decode cX8_told 30 = .ok (.irem, 1) := by decide +kernel
theorem dX8_told_31 : decode cX8_told 31 = .ok (.istore 4, 2) := by decide +kernel
theorem dX8_told_33 : decode cX8_told 33 = .ok (.iload_n 2, 1) := by decide +kernel
theorem dX8_told_34 : decode cX8_told 34 = .ok (.ifCond .ne 10, 3) := by decide +kernel
theorem dX8_told_37 : decode cX8_told 37 = .ok (.aload_n 0, 1) := by decide +kernel
theorem dX8_told_38 : decode cX8_told 38 = .ok (.getfield 35, 3) := by decide +kernel
theorem dX8_told_41 : decode cX8_told 41 = .ok (.iload_n 3, 1) := by decide +kernel
theorem dX8_told_42 : decode cX8_told 42 = .ok (.iaload, 1) := by decide +kernel
theorem dX8_told_43 : decode cX8_told 43 = .ok (.ireturn, 1) := by decide +kernel
theorem dX8_told_44 : decode cX8_told 44 = .ok (.iload_n 2, 1) := by decide +kernel
theorem dX8_told_45 : decode cX8_told 45 = .ok (.iconst 1, 1) := by decide +kernel
theorem dX8_told_46 : decode cX8_told 46 = .ok (.if_icmp .ne 10, 3) := by decide +kernel
theorem dX8_told_49 : decode cX8_told 49 = .ok (.aload_n 0, 1) := by decide +kernel
theorem dX8_told_50 : decode cX8_told 50 = .ok (.getfield 47, 3) := by decide +kernel
theorem dX8_told_53 : decode cX8_told 53 = .ok (.iload_n 3, 1) := by decide +kernel
theorem dX8_told_54 : decode cX8_told 54 = .ok (.iaload, 1) := by decide +kernel
theorem dX8_told_55 : decode cX8_told 55 = .ok (.ireturn, 1) := by decide +kernel
theorem dX8_told_56 : decode cX8_told 56 = .ok (.iload_n 2, 1) := by decide +kernel
theorem dX8_told_57 : decode cX8_told 57 = .ok (.iconst 2, 1) := by decide +kernel
theorem dX8_told_58 : decode cX8_told 58 = .ok (.if_icmp .ne 10, 3) := by decide +kernel
theorem dX8_told_61 : decode cX8_told 61 = .ok (.aload_n 0, 1) := by decide +kernel
theorem dX8_told_62 : decode cX8_told 62 = .ok (.getfield 38, 3) := by decide +kernel
theorem dX8_told_65 : decode cX8_told 65 = .ok (.iload_n 3, 1) := by decide +kernel
theorem dX8_told_66 : decode cX8_told 66 = .ok (.iaload, 1) := by decide +kernel
theorem dX8_told_67 : decode cX8_told 67 = .ok (.ireturn, 1) := by decide +kernel
theorem dX8_told_68 : decode cX8_told 68 = .ok (.iload_n 2, 1) := by decide +kernel
theorem dX8_told_69 : decode cX8_told 69 = .ok (.iconst 3, 1) := by decide +kernel
theorem dX8_told_70 : decode cX8_told 70 = .ok (.if_icmp .ne 9, 3) := by decide +kernel
theorem dX8_told_73 : decode cX8_told 73 = .ok (.aload_n 0, 1) := by decide +kernel
theorem dX8_told_74 : decode cX8_told 74 = .ok (.iload_n 3, 1) := by decide +kernel
theorem dX8_told_75 : decode cX8_told 75 = .ok (.invokevirtual 188, 3) := by decide +kernel
theorem dX8_told_78 : decode cX8_told 78 = .ok (.ireturn, 1) := by decide +kernel
theorem dX8_told_79 : decode cX8_told 79 = .ok (.iload_n 2, 1) := by decide +kernel
theorem dX8_told_80 : decode cX8_told 80 = .ok (.bipush 10, 2) := by decide +kernel
theorem dX8_told_82 : decode cX8_told 82 = .ok (.if_icmp .lt 20, 3) := by decide +kernel
theorem dX8_told_85 : decode cX8_told 85 = .ok (.iload_n 2, 1) := by decide +kernel
theorem dX8_told_86 : decode cX8_told 86 = .ok (.bipush 39, 2) := by decide +kernel
theorem dX8_told_88 : decode cX8_told 88 = .ok (.if_icmp .gt 14, 3) := by decide +kernel
theorem dX8_told_91 : decode cX8_told 91 = .ok (.iload 4, 2) := by decide +kernel
theorem dX8_told_93 : decode cX8_told 93 = .ok (.aload_n 0, 1) := by decide +kernel
theorem dX8_told_94 : decode cX8_told 94 = .ok (.getfield 38, 3) := by decide +kernel
theorem dX8_told_97 : decode cX8_told 97 = .ok (.iload_n 3, 1) := by decide +kernel
theorem dX8_told_98 : decode cX8_told 98 = .ok (.iaload, 1) := by decide +kernel
theorem dX8_told_99 : decode cX8_told 99 = .ok (.if_icmp .lt 5, 3) := by decide +kernel
theorem dX8_told_102 : decode cX8_told 102 = .ok (.iconst (-1), 1) := by decide +kernel
theorem dX8_told_103 : decode cX8_told 103 = .ok (.ireturn, 1) := by decide +kernel
theorem dX8_told_104 : decode cX8_told 104 = .ok (.iload_n 2, 1) := by decide +kernel
theorem dX8_told_105 : decode cX8_told 105 = .ok (.bipush 20, 2) := by decide +kernel
theorem dX8_told_107 : decode cX8_told 107 = .ok (.if_icmp .ge 15, 3) := by decide +kernel
theorem dX8_told_110 : decode cX8_told 110 = .ok (.aload_n 0, 1) := by decide +kernel
theorem dX8_told_111 : decode cX8_told 111 = .ok (.getfield 41, 3) := by decide +kernel
theorem dX8_told_114 : decode cX8_told 114 = .ok (.iconst 4, 1) := by decide +kernel
theorem dX8_told_115 : decode cX8_told 115 = .ok (.iload_n 3, 1) := by decide +kernel
theorem dX8_told_116 : decode cX8_told 116 = .ok (.imul, 1) := by decide +kernel
theorem dX8_told_117 : decode cX8_told 117 = .ok (.iload 4, 2) := by decide +kernel
theorem dX8_told_119 : decode cX8_told 119 = .ok (.iadd, 1) := by decide +kernel
theorem dX8_told_120 : decode cX8_told 120 = .ok (.iaload, 1) := by decide +kernel
theorem dX8_told_121 : decode cX8_told 121 = .ok (.ireturn, 1) := by decide +kernel
theorem dX8_told_122 : decode cX8_told 122 = .ok (.iload_n 2, 1) := by decide +kernel
theorem dX8_told_123 : decode cX8_told 123 = .ok (.bipush 29, 2) := by decide +kernel
theorem dX8_told_125 : decode cX8_told 125 = .ok (.if_icmp .le 13, 3) := by decide +kernel
theorem dX8_told_128 : decode cX8_told 128 = .ok (.aload_n 0, 1) := by decide +kernel
theorem dX8_told_129 : decode cX8_told 129 = .ok (.iload_n 3, 1) := by decide +kernel
theorem dX8_told_130 : decode cX8_told 130 = .ok (.iload 4, 2) := by decide +kernel
theorem dX8_told_132 : decode cX8_told 132 = .ok (.invokevirtual 182, 3) := by decide +kernel
theorem dX8_told_135 : decode cX8_told 135 = .ok (.goto 29, 3) := by decide +kernel
theorem dX8_told_138 : decode cX8_told 138 = .ok (.iload 4, 2) := by decide +kernel
theorem dX8_told_140 : decode cX8_told 140 = .ok (.aload_n 0, 1) := by decide +kernel
theorem dX8_told_141 : decode cX8_told 141 = .ok (.getfield 50, 3) := by decide +kernel
theorem dX8_told_144 : decode cX8_told 144 = .ok (.iload_n 1, 1) := by decide +kernel
theorem dX8_told_145 : decode cX8_told 145 = .ok (.iaload, 1) := by decide +kernel
theorem dX8_told_146 : decode cX8_told 146 = .ok (.if_icmp .ge 17, 3) := by decide +kernel
theorem dX8_told_149 : decode cX8_told 149 = .ok (.aload_n 0, 1) := by decide +kernel
theorem dX8_told_150 : decode cX8_told 150 = .ok (.getfield 44, 3) := by decide +kernel
theorem dX8_told_153 : decode cX8_told 153 = .ok (.iconst 4, 1) := by decide +kernel
theorem dX8_told_154 : decode cX8_told 154 = .ok (.iload_n 3, 1) := by decide +kernel
theorem dX8_told_155 : decode cX8_told 155 = .ok (.imul, 1) := by decide +kernel
theorem dX8_told_156 : decode cX8_told 156 = .ok (.iload 4, 2) := by decide +kernel
theorem dX8_told_158 : decode cX8_told 158 = .ok (.iadd, 1) := by decide +kernel
theorem dX8_told_159 : decode cX8_told 159 = .ok (.iaload, 1) := by decide +kernel
theorem dX8_told_160 : decode cX8_told 160 = .ok (.goto 4, 3) := by decide +kernel
theorem dX8_told_163 : decode cX8_told 163 = .ok (.iconst (-1), 1) := by decide +kernel
theorem dX8_told_164 : decode cX8_told 164 = .ok (.ireturn, 1) := by decide +kernel
theorem dX8_offset_0 : decode cX8_offset 0 = .ok (.aload_n 0, 1) := by decide +kernel
theorem dX8_offset_1 : decode cX8_offset 1 = .ok (.iload_n 1, 1) := by decide +kernel
theorem dX8_offset_2 : decode cX8_offset 2 = .ok (.invokevirtual 142, 3) := by decide +kernel
theorem dX8_offset_5 : decode cX8_offset 5 = .ok (.ifCond .eq 47, 3) := by decide +kernel
theorem dX8_offset_8 : decode cX8_offset 8 = .ok (.aload_n 0, 1) := by decide +kernel
theorem dX8_offset_9 : decode cX8_offset 9 = .ok (.getfield 32, 3) := by decide +kernel
theorem dX8_offset_12 : decode cX8_offset 12 = .ok (.bipush 8, 2) := by decide +kernel
theorem dX8_offset_14 : decode cX8_offset 14 = .ok (.iload_n 1, 1) := by decide +kernel
theorem dX8_offset_15 : decode cX8_offset 15 = .ok (.iadd, 1) := by decide +kernel
theorem dX8_offset_16 : decode cX8_offset 16 = .ok (.baload, 1) := by decide +kernel
theorem dX8_offset_17 : decode cX8_offset 17 = .ok (.ifCond .eq 35, 3) := by decide +kernel
theorem dX8_offset_20 : decode cX8_offset 20 = .ok (.iload_n 2, 1) := by decide +kernel
theorem dX8_offset_21 : decode cX8_offset 21 = .ok (.iconst 0, 1) := by decide +kernel
theorem dX8_offset_22 : decode cX8_offset 22 = .ok (.aload_n 0, 1) := by decide +kernel
theorem dX8_offset_23 : decode cX8_offset 23 = .ok (.getfield 35, 3) := by decide +kernel
theorem dX8_offset_26 : decode cX8_offset 26 = .ok (.bipush 8, 2) := by decide +kernel
theorem dX8_offset_28 : decode cX8_offset 28 = .ok (.iload_n 1, 1) := by decide +kernel
theorem dX8_offset_29 : decode cX8_offset 29 = .ok (.iadd, 1) := by decide +kernel
theorem dX8_offset_30 : decode cX8_offset 30 = .ok (.iaload, 1) := by decide +kernel
theorem dX8_offset_31 : decode cX8_offset 31 = .ok (.iconst 1, 1) := by decide +kernel
theorem dX8_offset_32 : decode cX8_offset 32 = .ok (.isub, 1) := by decide +kernel
theorem dX8_offset_33 : decode cX8_offset 33 = .ok (.invokestatic 149, 3) := by decide +kernel
theorem dX8_offset_36 : decode cX8_offset 36 = .ok (.ifCond .eq 16, 3) := by decide +kernel
theorem dX8_offset_39 : decode cX8_offset 39 = .ok (.aload_n 0, 1) := by decide +kernel
theorem dX8_offset_40 : decode cX8_offset 40 = .ok (.getfield 47, 3) := by decide +kernel
theorem dX8_offset_43 : decode cX8_offset 43 = .ok (.bipush 8, 2) := by decide +kernel
theorem dX8_offset_45 : decode cX8_offset 45 = .ok (.iload_n 1, 1) := by decide +kernel
theorem dX8_offset_46 : decode cX8_offset 46 = .ok (.iadd, 1) := by decide +kernel
theorem dX8_offset_47 : decode cX8_offset 47 = .ok (.iaload, 1) := by decide +kernel
theorem dX8_offset_48 : decode cX8_offset 48 = .ok (.iload_n 2, 1) := by decide +kernel
theorem dX8_offset_49 : decode cX8_offset 49 = .ok (.if_icmp .ne 5, 3) := by decide +kernel
theorem dX8_offset_52 : decode cX8_offset 52 = .ok (.iconst 0, 1) := by decide +kernel
theorem dX8_offset_53 : decode cX8_offset 53 = .ok (.ireturn, 1) := by decide +kernel
theorem dX8_offset_54 : decode cX8_offset 54 = .ok (.aload_n 0, 1) := by decide +kernel
theorem dX8_offset_55 : decode cX8_offset 55 = .ok (.getfield 47, 3) := by decide +kernel
theorem dX8_offset_58 : decode cX8_offset 58 = .ok (.bipush 8, 2) := by decide +kernel
theorem dX8_offset_60 : decode cX8_offset 60 = .ok (.iload_n 1, 1) := by decide +kernel
theorem dX8_offset_61 : decode cX8_offset 61 = .ok (.iadd, 1) := by decide +kernel
theorem dX8_offset_62 : decode cX8_offset 62 = .ok (.iload_n 2, 1) := by decide +kernel
theorem dX8_offset_63 : decode cX8_offset 63 = .ok (.iastore, 1) := by decide +kernel
theorem dX8_offset_64 : decode cX8_offset 64 = .ok (.aload_n 0, 1) := by decide +kernel
theorem dX8_offset_65 : decode cX8_offset 65 = .ok (.getfield 146, 3) := by decide +kernel
theorem dX8_offset_68 : decode cX8_offset 68 = .ok (.ifCond .le 16, 3) := by decide +kernel
theorem dX8_offset_71 : decode cX8_offset 71 = .ok (.aload_n 0, 1) := by decide +kernel
theorem dX8_offset_72 : decode cX8_offset 72 = .ok (.getfield 53, 3) := by decide +kernel
theorem dX8_offset_75 : decode cX8_offset 75 = .ok (.iload_n 1, 1) := by decide +kernel
theorem dX8_offset_76 : decode cX8_offset 76 = .ok (.aload_n 0, 1) := by decide +kernel
theorem dX8_offset_77 : decode cX8_offset 77 = .ok (.getfield 146, 3) := by decide +kernel
theorem dX8_offset_80 : decode cX8_offset 80 = .ok (.bipush 20, 2) := by decide +kernel
theorem dX8_offset_82 : decode cX8_offset 82 = .ok (.iadd, 1) := by decide +kernel
theorem dX8_offset_83 : decode cX8_offset 83 = .ok (.iastore, 1) := by decide +kernel
theorem dX8_offset_84 : decode cX8_offset 84 = .ok (.iconst 1, 1) := by decide +kernel
theorem dX8_offset_85 : decode cX8_offset 85 = .ok (.ireturn, 1) := by decide +kernel
theorem dX8_tear_0 : decode cX8_tear 0 = .ok (.aload_n 0, 1) := by decide +kernel
theorem dX8_tear_1 : decode cX8_tear 1 = .ok (.iload_n 1, 1) := by decide +kernel
theorem dX8_tear_2 : decode cX8_tear 2 = .ok (.invokevirtual 142, 3) := by decide +kernel
theorem dX8_tear_5 : decode cX8_tear 5 = .ok (.ifCond .eq 32, 3) := by decide +kernel
theorem dX8_tear_8 : decode cX8_tear 8 = .ok (.aload_n 0, 1) := by decide +kernel
theorem dX8_tear_9 : decode cX8_tear 9 = .ok (.getfield 32, 3) := by decide +kernel
theorem dX8_tear_12 : decode cX8_tear 12 = .ok (.bipush 8, 2) := by decide +kernel
theorem dX8_tear_14 : decode cX8_tear 14 = .ok (.iload_n 1, 1) := by decide +kernel
theorem dX8_tear_15 : decode cX8_tear 15 = .ok (.iadd, 1) := by decide +kernel
theorem dX8_tear_16 : decode cX8_tear 16 = .ok (.baload, 1) := by decide +kernel
theorem dX8_tear_17 : decode cX8_tear 17 = .ok (.ifCond .eq 20, 3) := by decide +kernel
theorem dX8_tear_20 : decode cX8_tear 20 = .ok (.iload_n 2, 1) := by decide +kernel
theorem dX8_tear_21 : decode cX8_tear 21 = .ok (.iconst 0, 1) := by decide +kernel
theorem dX8_tear_22 : decode cX8_tear 22 = .ok (.aload_n 0, 1) := by decide +kernel
theorem dX8_tear_23 : decode cX8_tear 23 = .ok (.getfield 38, 3) := by decide +kernel
theorem dX8_tear_26 : decode cX8_tear 26 = .ok (.bipush 8, 2) := by decide +kernel
theorem dX8_tear_28 : decode cX8_tear 28 = .ok (.iload_n 1, 1) := by decide +kernel
theorem dX8_tear_29 : decode cX8_tear 29 = .ok (.iadd, 1) := by decide +kernel
theorem dX8_tear_30 : decode cX8_tear 30 = .ok (.iaload, 1) := by decide +kernel
theorem dX8_tear_31 : decode cX8_tear 31 = .ok (.invokestatic 149, 3) := by decide +kernel
theorem dX8_tear_34 : decode cX8_tear 34 = .ok (.ifCond .ne 5, 3) := by decide +kernel
theorem dX8_tear_37 : decode cX8_tear 37 = .ok (.iconst 0, 1) := by decide +kernel
theorem dX8_tear_38 : decode cX8_tear 38 = .ok (.ireturn, 1) := by decide +kernel
theorem dX8_tear_39 : decode cX8_tear 39 = .ok (.aload_n 0, 1) := by decide +kernel
theorem dX8_tear_40 : decode cX8_tear 40 = .ok (.getfield 50, 3) := by decide +kernel
theorem dX8_tear_43 : decode cX8_tear 43 = .ok (.iload_n 1, 1) := by decide +kernel
theorem dX8_tear_44 : decode cX8_tear 44 = .ok (.aload_n 0, 1) := by decide +kernel
theorem dX8_tear_45 : decode cX8_tear 45 = .ok (.getfield 50, 3) := by decide +kernel
theorem dX8_tear_48 : decode cX8_tear 48 = .ok (.iload_n 1, 1) := by decide +kernel
theorem dX8_tear_49 : decode cX8_tear 49 = .ok (.iaload, 1) := by decide +kernel
theorem dX8_tear_50 : decode cX8_tear 50 = .ok (.iload_n 2, 1) := by decide +kernel
theorem dX8_tear_51 : decode cX8_tear 51 = .ok (.invokestatic 212, 3) := by decide +kernel
theorem dX8_tear_54 : decode cX8_tear 54 = .ok (.iastore, 1) := by decide +kernel
theorem dX8_tear_55 : decode cX8_tear 55 = .ok (.iconst 1, 1) := by decide +kernel
theorem dX8_tear_56 : decode cX8_tear 56 = .ok (.ireturn, 1) := by decide +kernel
theorem dX8_isBegun_0 : decode cX8_isBegun 0 = .ok (.aload_n 0, 1) := by decide +kernel
theorem dX8_isBegun_1 : decode cX8_isBegun 1 = .ok (.iload_n 1, 1) := by decide +kernel
theorem dX8_isBegun_2 : decode cX8_isBegun 2 = .ok (.invokevirtual 142, 3) := by decide +kernel
theorem dX8_isBegun_5 : decode cX8_isBegun 5 = .ok (.ifCond .eq 26, 3) := by decide +kernel
theorem dX8_isBegun_8 : decode cX8_isBegun 8 = .ok (.aload_n 0, 1) := by decide +kernel
theorem dX8_isBegun_9 : decode cX8_isBegun 9 = .ok (.getfield 32, 3) := by decide +kernel
theorem dX8_isBegun_12 : decode cX8_isBegun 12 = .ok (.iload_n 1, 1) := by decide +kernel
theorem dX8_isBegun_13 : decode cX8_isBegun 13 = .ok (.baload, 1) := by decide +kernel
theorem dX8_isBegun_14 : decode cX8_isBegun 14 = .ok (.ifCond .eq 17, 3) := by decide +kernel
theorem dX8_isBegun_17 : decode cX8_isBegun 17 = .ok (.aload_n 0, 1) := by decide +kernel
theorem dX8_isBegun_18 : decode cX8_isBegun 18 = .ok (.getfield 38, 3) := by decide +kernel
theorem dX8_isBegun_21 : decode cX8_isBegun 21 = .ok (.iload_n 1, 1) := by decide +kernel
theorem dX8_isBegun_22 : decode cX8_isBegun 22 = .ok (.iaload, 1) := by decide +kernel
theorem dX8_isBegun_23 : decode cX8_isBegun 23 = .ok (.iconst 1, 1) := by decide +kernel
theorem dX8_isBegun_24 : decode cX8_isBegun 24 = .ok (.if_icmp .le 7, 3) := by decide +kernel
theorem dX8_isBegun_27 : decode cX8_isBegun 27 = .ok (.iconst 1, 1) := by decide +kernel
theorem dX8_isBegun_28 : decode cX8_isBegun 28 = .ok (.goto 4, 3) := by decide +kernel
theorem dX8_isBegun_31 : decode cX8_isBegun 31 = .ok (.iconst 0, 1) := by decide +kernel
theorem dX8_isBegun_32 : decode cX8_isBegun 32 = .ok (.ireturn, 1) := by decide +kernel
theorem dX8_stagesOf_0 : decode cX8_stagesOf 0 = .ok (.iconst 0, 1) := by decide +kernel
theorem dX8_stagesOf_1 : decode cX8_stagesOf 1 = .ok (.istore_n 3, 1) := by decide +kernel
theorem dX8_stagesOf_2 : decode cX8_stagesOf 2 = .ok (.iconst 0, 1) := by decide +kernel
theorem dX8_stagesOf_3 : decode cX8_stagesOf 3 = .ok (.istore 4, 2) := by decide +kernel
theorem dX8_stagesOf_5 : decode cX8_stagesOf 5 = .ok (.iload 4, 2) := by decide +kernel
theorem dX8_stagesOf_7 : decode cX8_stagesOf 7 = .ok (.aload_n 0, 1) := by decide +kernel
theorem dX8_stagesOf_8 : decode cX8_stagesOf 8 = .ok (.getfield 38, 3) := by decide +kernel
theorem dX8_stagesOf_11 : decode cX8_stagesOf 11 = .ok (.iload_n 1, 1) := by decide +kernel
theorem dX8_stagesOf_12 : decode cX8_stagesOf 12 = .ok (.iaload, 1) := by decide +kernel
theorem dX8_stagesOf_13 : decode cX8_stagesOf 13 = .ok (.if_icmp .ge 30, 3) := by decide +kernel
theorem dX8_stagesOf_16 : decode cX8_stagesOf 16 = .ok (.iload_n 3, 1) := by decide +kernel
theorem dX8_stagesOf_17 : decode cX8_stagesOf 17 = .ok (.aload_n 0, 1) := by decide +kernel
theorem dX8_stagesOf_18 : decode cX8_stagesOf 18 = .ok (.getfield 41, 3) := by decide +kernel
theorem dX8_stagesOf_21 : decode cX8_stagesOf 21 = .ok (.iconst 4, 1) := by decide +kernel
theorem dX8_stagesOf_22 : decode cX8_stagesOf 22 = .ok (.iload_n 1, 1) := by decide +kernel
theorem dX8_stagesOf_23 : decode cX8_stagesOf 23 = .ok (.imul, 1) := by decide +kernel
theorem dX8_stagesOf_24 : decode cX8_stagesOf 24 = .ok (.iload 4, 2) := by decide +kernel
theorem dX8_stagesOf_26 : decode cX8_stagesOf 26 = .ok (.iadd, 1) := by decide +kernel
theorem dX8_stagesOf_27 : decode cX8_stagesOf 27 = .ok (.iaload, 1) := by decide +kernel
theorem dX8_stagesOf_28 : decode cX8_stagesOf 28 = .ok (.iload_n 2, 1) := by decide +kernel
theorem dX8_stagesOf_29 : decode cX8_stagesOf 29 = .ok (.ishr, 1) := by decide +kernel
theorem dX8_stagesOf_30 : decode cX8_stagesOf 30 = .ok (.iconst 1, 1) := by decide +kernel
theorem dX8_stagesOf_31 : decode cX8_stagesOf 31 = .ok (.iand, 1) := by decide +kernel
theorem dX8_stagesOf_32 : decode cX8_stagesOf 32 = .ok (.iload 4, 2) := by decide +kernel
theorem dX8_stagesOf_34 : decode cX8_stagesOf 34 = .ok (.ishl, 1) := by decide +kernel
theorem dX8_stagesOf_35 : decode cX8_stagesOf 35 = .ok (.ior, 1) := by decide +kernel
theorem dX8_stagesOf_36 : decode cX8_stagesOf 36 = .ok (.istore_n 3, 1) := by decide +kernel
theorem dX8_stagesOf_37 : decode cX8_stagesOf 37 = .ok (.iinc 4 1, 3) := by decide +kernel
theorem dX8_stagesOf_40 : decode cX8_stagesOf 40 = .ok (.goto (-35), 3) := by decide +kernel
theorem dX8_stagesOf_43 : decode cX8_stagesOf 43 = .ok (.iload_n 3, 1) := by decide +kernel
theorem dX8_stagesOf_44 : decode cX8_stagesOf 44 = .ok (.ireturn, 1) := by decide +kernel
theorem dX8_leastSum_0 : decode cX8_leastSum 0 = .ok (.iconst 0, 1) := by decide +kernel
theorem dX8_leastSum_1 : decode cX8_leastSum 1 = .ok (.istore_n 3, 1) := by decide +kernel
theorem dX8_leastSum_2 : decode cX8_leastSum 2 = .ok (.iload_n 3, 1) := by decide +kernel
theorem dX8_leastSum_3 : decode cX8_leastSum 3 = .ok (.bipush 16, 2) := by decide +kernel
theorem dX8_leastSum_5 : decode cX8_leastSum 5 = .ok (.if_icmp .ge 16, 3) := by decide +kernel
theorem dX8_leastSum_8 : decode cX8_leastSum 8 = .ok (.aload_n 0, 1) := by decide +kernel
theorem dX8_leastSum_9 : decode cX8_leastSum 9 = .ok (.getfield 75, 3) := by decide +kernel
theorem dX8_leastSum_12 : decode cX8_leastSum 12 = .ok (.iload_n 3, 1) := by decide +kernel
theorem dX8_leastSum_13 : decode cX8_leastSum 13 = .ok (.iconst 0, 1) := by decide +kernel
theorem dX8_leastSum_14 : decode cX8_leastSum 14 = .ok (.iastore, 1) := by decide +kernel
theorem dX8_leastSum_15 : decode cX8_leastSum 15 = .ok (.iinc 3 1, 3) := by decide +kernel
theorem dX8_leastSum_18 : decode cX8_leastSum 18 = .ok (.goto (-16), 3) := by decide +kernel
theorem dX8_leastSum_21 : decode cX8_leastSum 21 = .ok (.iconst 0, 1) := by decide +kernel
theorem dX8_leastSum_22 : decode cX8_leastSum 22 = .ok (.istore_n 3, 1) := by decide +kernel
theorem dX8_leastSum_23 : decode cX8_leastSum 23 = .ok (.iload_n 3, 1) := by decide +kernel
theorem dX8_leastSum_24 : decode cX8_leastSum 24 = .ok (.aload_n 0, 1) := by decide +kernel
theorem dX8_leastSum_25 : decode cX8_leastSum 25 = .ok (.getfield 7, 3) := by decide +kernel
theorem dX8_leastSum_28 : decode cX8_leastSum 28 = .ok (.iload_n 1, 1) := by decide +kernel
theorem dX8_leastSum_29 : decode cX8_leastSum 29 = .ok (.iaload, 1) := by decide +kernel
theorem dX8_leastSum_30 : decode cX8_leastSum 30 = .ok (.if_icmp .ge 73, 3) := by decide +kernel
theorem dX8_leastSum_33 : decode cX8_leastSum 33 = .ok (.aload_n 0, 1) := by decide +kernel
theorem dX8_leastSum_34 : decode cX8_leastSum 34 = .ok (.iload_n 1, 1) := by decide +kernel
theorem dX8_leastSum_35 : decode cX8_leastSum 35 = .ok (.iload_n 3, 1) := by decide +kernel
theorem dX8_leastSum_36 : decode cX8_leastSum 36 = .ok (.invokevirtual 215, 3) := by decide +kernel
theorem dX8_leastSum_39 : decode cX8_leastSum 39 = .ok (.istore 4, 2) := by decide +kernel
theorem dX8_leastSum_41 : decode cX8_leastSum 41 = .ok (.aload_n 0, 1) := by decide +kernel
theorem dX8_leastSum_42 : decode cX8_leastSum 42 = .ok (.getfield 75, 3) := by decide +kernel
theorem dX8_leastSum_45 : decode cX8_leastSum 45 = .ok (.iload 4, 2) := by decide +kernel
theorem dX8_leastSum_47 : decode cX8_leastSum 47 = .ok (.aload_n 0, 1) := by decide +kernel
theorem dX8_leastSum_48 : decode cX8_leastSum 48 = .ok (.getfield 75, 3) := by decide +kernel
theorem dX8_leastSum_51 : decode cX8_leastSum 51 = .ok (.iload 4, 2) := by decide +kernel
theorem dX8_leastSum_53 : decode cX8_leastSum 53 = .ok (.iaload, 1) := by decide +kernel
theorem dX8_leastSum_54 : decode cX8_leastSum 54 = .ok (.aload_n 0, 1) := by decide +kernel
theorem dX8_leastSum_55 : decode cX8_leastSum 55 = .ok (.getfield 16, 3) := by decide +kernel
theorem dX8_leastSum_58 : decode cX8_leastSum 58 = .ok (.bipush 8, 2) := by decide +kernel
theorem dX8_leastSum_60 : decode cX8_leastSum 60 = .ok (.iload_n 1, 1) := by decide +kernel
theorem dX8_leastSum_61 : decode cX8_leastSum 61 = .ok (.imul, 1) := by decide +kernel
theorem dX8_leastSum_62 : decode cX8_leastSum 62 = .ok (.iload_n 3, 1) := by decide +kernel
theorem dX8_leastSum_63 : decode cX8_leastSum 63 = .ok (.iadd, 1) := by decide +kernel
theorem dX8_leastSum_64 : decode cX8_leastSum 64 = .ok (.iaload, 1) := by decide +kernel
theorem dX8_leastSum_65 : decode cX8_leastSum 65 = .ok (.iload_n 2, 1) := by decide +kernel
theorem dX8_leastSum_66 : decode cX8_leastSum 66 = .ok (.imul, 1) := by decide +kernel
theorem dX8_leastSum_67 : decode cX8_leastSum 67 = .ok (.aload_n 0, 1) := by decide +kernel
theorem dX8_leastSum_68 : decode cX8_leastSum 68 = .ok (.getfield 19, 3) := by decide +kernel
theorem dX8_leastSum_71 : decode cX8_leastSum 71 = .ok (.bipush 8, 2) := by decide +kernel
theorem dX8_leastSum_73 : decode cX8_leastSum 73 = .ok (.iload_n 1, 1) := by decide +kernel
theorem dX8_leastSum_74 : decode cX8_leastSum 74 = .ok (.imul, 1) := by decide +kernel
theorem dX8_leastSum_75 : decode cX8_leastSum 75 = .ok (.iload_n 3, 1) := by decide +kernel
theorem dX8_leastSum_76 : decode cX8_leastSum 76 = .ok (.iadd, 1) := by decide +kernel
theorem dX8_leastSum_77 : decode cX8_leastSum 77 = .ok (.iaload, 1) := by decide +kernel
theorem dX8_leastSum_78 : decode cX8_leastSum 78 = .ok (.iadd, 1) := by decide +kernel
theorem dX8_leastSum_79 : decode cX8_leastSum 79 = .ok (.iconst 1, 1) := by decide +kernel
theorem dX8_leastSum_80 : decode cX8_leastSum 80 = .ok (.isub, 1) := by decide +kernel
theorem dX8_leastSum_81 : decode cX8_leastSum 81 = .ok (.aload_n 0, 1) := by decide +kernel
theorem dX8_leastSum_82 : decode cX8_leastSum 82 = .ok (.getfield 19, 3) := by decide +kernel
theorem dX8_leastSum_85 : decode cX8_leastSum 85 = .ok (.bipush 8, 2) := by decide +kernel
theorem dX8_leastSum_87 : decode cX8_leastSum 87 = .ok (.iload_n 1, 1) := by decide +kernel
theorem dX8_leastSum_88 : decode cX8_leastSum 88 = .ok (.imul, 1) := by decide +kernel
theorem dX8_leastSum_89 : decode cX8_leastSum 89 = .ok (.iload_n 3, 1) := by decide +kernel
theorem dX8_leastSum_90 : decode cX8_leastSum 90 = .ok (.iadd, 1) := by decide +kernel
theorem dX8_leastSum_91 : decode cX8_leastSum 91 = .ok (.iaload, 1) := by decide +kernel
theorem dX8_leastSum_92 : decode cX8_leastSum 92 = .ok (.idiv, 1) := by decide +kernel
theorem dX8_leastSum_93 : decode cX8_leastSum 93 = .ok (.invokestatic 156, 3) := by decide +kernel
theorem dX8_leastSum_96 : decode cX8_leastSum 96 = .ok (.iastore, 1) := by decide +kernel
theorem dX8_leastSum_97 : decode cX8_leastSum 97 = .ok (.iinc 3 1, 3) := by decide +kernel
theorem dX8_leastSum_100 : decode cX8_leastSum 100 = .ok (.goto (-77), 3) := by decide +kernel
theorem dX8_leastSum_103 : decode cX8_leastSum 103 = .ok (.aload_n 0, 1) := by decide +kernel
theorem dX8_leastSum_104 : decode cX8_leastSum 104 = .ok (.getfield 75, 3) := by decide +kernel
theorem dX8_leastSum_107 : decode cX8_leastSum 107 = .ok (.iconst 0, 1) := by decide +kernel
theorem dX8_leastSum_108 : decode cX8_leastSum 108 = .ok (.iaload, 1) := by decide +kernel
theorem dX8_leastSum_109 : decode cX8_leastSum 109 = .ok (.ifCond .le 7, 3) := by decide +kernel
theorem dX8_leastSum_112 : decode cX8_leastSum 112 = .ok (.sipush 1000, 3) := by decide +kernel
theorem dX8_leastSum_115 : decode cX8_leastSum 115 = .ok (.ireturn, 1) := by decide +kernel
theorem dX8_leastSum_116 : decode cX8_leastSum 116 = .ok (.iconst 0, 1) := by decide +kernel
theorem dX8_leastSum_117 : decode cX8_leastSum 117 = .ok (.istore_n 3, 1) := by decide +kernel
theorem dX8_leastSum_118 : decode cX8_leastSum 118 = .ok (.iload_n 3, 1) := by decide +kernel
theorem dX8_leastSum_119 : decode cX8_leastSum 119 = .ok (.aload_n 0, 1) := by decide +kernel
theorem dX8_leastSum_120 : decode cX8_leastSum 120 = .ok (.getfield 38, 3) := by decide +kernel
theorem dX8_leastSum_123 : decode cX8_leastSum 123 = .ok (.iload_n 1, 1) := by decide +kernel
theorem dX8_leastSum_124 : decode cX8_leastSum 124 = .ok (.iaload, 1) := by decide +kernel
theorem dX8_leastSum_125 : decode cX8_leastSum 125 = .ok (.if_icmp .ge 29, 3) := by decide +kernel
theorem dX8_leastSum_128 : decode cX8_leastSum 128 = .ok (.aload_n 0, 1) := by decide +kernel
theorem dX8_leastSum_129 : decode cX8_leastSum 129 = .ok (.getfield 75, 3) := by decide +kernel
theorem dX8_leastSum_132 : decode cX8_leastSum 132 = .ok (.iconst 1, 1) := by decide +kernel
theorem dX8_leastSum_133 : decode cX8_leastSum 133 = .ok (.iload_n 3, 1) := by decide +kernel
theorem dX8_leastSum_134 : decode cX8_leastSum 134 = .ok (.ishl, 1) := by decide +kernel
theorem dX8_leastSum_135 : decode cX8_leastSum 135 = .ok (.iconst 1, 1) := by decide +kernel
theorem dX8_leastSum_136 : decode cX8_leastSum 136 = .ok (.aload_n 0, 1) := by decide +kernel
theorem dX8_leastSum_137 : decode cX8_leastSum 137 = .ok (.getfield 75, 3) := by decide +kernel
theorem dX8_leastSum_140 : decode cX8_leastSum 140 = .ok (.iconst 1, 1) := by decide +kernel
theorem dX8_leastSum_141 : decode cX8_leastSum 141 = .ok (.iload_n 3, 1) := by decide +kernel
theorem dX8_leastSum_142 : decode cX8_leastSum 142 = .ok (.ishl, 1) := by decide +kernel
theorem dX8_leastSum_143 : decode cX8_leastSum 143 = .ok (.iaload, 1) := by decide +kernel
theorem dX8_leastSum_144 : decode cX8_leastSum 144 = .ok (.invokestatic 156, 3) := by decide +kernel
theorem dX8_leastSum_147 : decode cX8_leastSum 147 = .ok (.iastore, 1) := by decide +kernel
theorem dX8_leastSum_148 : decode cX8_leastSum 148 = .ok (.iinc 3 1, 3) := by decide +kernel
theorem dX8_leastSum_151 : decode cX8_leastSum 151 = .ok (.goto (-33), 3) := by decide +kernel
theorem dX8_leastSum_154 : decode cX8_leastSum 154 = .ok (.sipush 1000, 3) := by decide +kernel
theorem dX8_leastSum_157 : decode cX8_leastSum 157 = .ok (.istore_n 3, 1) := by decide +kernel
theorem dX8_leastSum_158 : decode cX8_leastSum 158 = .ok (.aload_n 0, 1) := by decide +kernel
theorem dX8_leastSum_159 : decode cX8_leastSum 159 = .ok (.getfield 75, 3) := by decide +kernel
theorem dX8_leastSum_162 : decode cX8_leastSum 162 = .ok (.iconst 1, 1) := by decide +kernel
theorem dX8_leastSum_163 : decode cX8_leastSum 163 = .ok (.iaload, 1) := by decide +kernel
theorem dX8_leastSum_164 : decode cX8_leastSum 164 = .ok (.istore 4, 2) := by decide +kernel
theorem dX8_leastSum_166 : decode cX8_leastSum 166 = .ok (.iload 4, 2) := by decide +kernel
theorem dX8_leastSum_168 : decode cX8_leastSum 168 = .ok (.bipush 90, 2) := by decide +kernel
theorem dX8_leastSum_170 : decode cX8_leastSum 170 = .ok (.if_icmp .gt 67, 3) := by decide +kernel
theorem dX8_leastSum_173 : decode cX8_leastSum 173 = .ok (.aload_n 0, 1) := by decide +kernel
theorem dX8_leastSum_174 : decode cX8_leastSum 174 = .ok (.getfield 75, 3) := by decide +kernel
theorem dX8_leastSum_177 : decode cX8_leastSum 177 = .ok (.iconst 2, 1) := by decide +kernel
theorem dX8_leastSum_178 : decode cX8_leastSum 178 = .ok (.iaload, 1) := by decide +kernel
theorem dX8_leastSum_179 : decode cX8_leastSum 179 = .ok (.istore 5, 2) := by decide +kernel
theorem dX8_leastSum_181 : decode cX8_leastSum 181 = .ok (.iload 5, 2) := by decide +kernel
theorem dX8_leastSum_183 : decode cX8_leastSum 183 = .ok (.bipush 90, 2) := by decide +kernel
theorem dX8_leastSum_185 : decode cX8_leastSum 185 = .ok (.if_icmp .gt 46, 3) := by decide +kernel
theorem dX8_leastSum_188 : decode cX8_leastSum 188 = .ok (.iload 4, 2) := by decide +kernel
theorem dX8_leastSum_190 : decode cX8_leastSum 190 = .ok (.iload 5, 2) := by decide +kernel
theorem dX8_leastSum_192 : decode cX8_leastSum 192 = .ok (.iadd, 1) := by decide +kernel
theorem dX8_leastSum_193 : decode cX8_leastSum 193 = .ok (.aload_n 0, 1) := by decide +kernel
theorem dX8_leastSum_194 : decode cX8_leastSum 194 = .ok (.getfield 75, 3) := by decide +kernel
theorem dX8_leastSum_197 : decode cX8_leastSum 197 = .ok (.iconst 3, 1) := by decide +kernel
theorem dX8_leastSum_198 : decode cX8_leastSum 198 = .ok (.iaload, 1) := by decide +kernel
theorem dX8_leastSum_199 : decode cX8_leastSum 199 = .ok (.if_icmp .ge 6, 3) := by decide +kernel
theorem dX8_leastSum_202 : decode cX8_leastSum 202 = .ok (.goto 23, 3) := by decide +kernel
theorem dX8_leastSum_205 : decode cX8_leastSum 205 = .ok (.iload_n 3, 1) := by decide +kernel
theorem dX8_leastSum_206 : decode cX8_leastSum 206 = .ok (.iload 4, 2) := by decide +kernel
theorem dX8_leastSum_208 : decode cX8_leastSum 208 = .ok (.iload 5, 2) := by decide +kernel
theorem dX8_leastSum_210 : decode cX8_leastSum 210 = .ok (.iadd, 1) := by decide +kernel
theorem dX8_leastSum_211 : decode cX8_leastSum 211 = .ok (.aload_n 0, 1) := by decide +kernel
theorem dX8_leastSum_212 : decode cX8_leastSum 212 = .ok (.iload_n 1, 1) := by decide +kernel
theorem dX8_leastSum_213 : decode cX8_leastSum 213 = .ok (.iload 4, 2) := by decide +kernel
theorem dX8_leastSum_215 : decode cX8_leastSum 215 = .ok (.iload 5, 2) := by decide +kernel
theorem dX8_leastSum_217 : decode cX8_leastSum 217 = .ok (.invokevirtual 218, 3) := by decide +kernel
theorem dX8_leastSum_220 : decode cX8_leastSum 220 = .ok (.iadd, 1) := by decide +kernel
theorem dX8_leastSum_221 : decode cX8_leastSum 221 = .ok (.invokestatic 212, 3) := by decide +kernel
theorem dX8_leastSum_224 : decode cX8_leastSum 224 = .ok (.istore_n 3, 1) := by decide +kernel
theorem dX8_leastSum_225 : decode cX8_leastSum 225 = .ok (.iinc 5 1, 3) := by decide +kernel
theorem dX8_leastSum_228 : decode cX8_leastSum 228 = .ok (.goto (-47), 3) := by decide +kernel
theorem dX8_leastSum_231 : decode cX8_leastSum 231 = .ok (.iinc 4 1, 3) := by decide +kernel
theorem dX8_leastSum_234 : decode cX8_leastSum 234 = .ok (.goto (-68), 3) := by decide +kernel
theorem dX8_leastSum_237 : decode cX8_leastSum 237 = .ok (.iload_n 3, 1) := by decide +kernel
theorem dX8_leastSum_238 : decode cX8_leastSum 238 = .ok (.ireturn, 1) := by decide +kernel
theorem dX8_others_0 : decode cX8_others 0 = .ok (.aload_n 0, 1) := by decide +kernel
theorem dX8_others_1 : decode cX8_others 1 = .ok (.getfield 38, 3) := by decide +kernel
theorem dX8_others_4 : decode cX8_others 4 = .ok (.iload_n 1, 1) := by decide +kernel
theorem dX8_others_5 : decode cX8_others 5 = .ok (.iaload, 1) := by decide +kernel
theorem dX8_others_6 : decode cX8_others 6 = .ok (.iconst 2, 1) := by decide +kernel
theorem dX8_others_7 : decode cX8_others 7 = .ok (.if_icmp .ne 5, 3) := by decide +kernel
theorem dX8_others_10 : decode cX8_others 10 = .ok (.iconst 0, 1) := by decide +kernel
theorem dX8_others_11 : decode cX8_others 11 = .ok (.ireturn, 1) := by decide +kernel
theorem dX8_others_12 : decode cX8_others 12 = .ok (.iconst 1, 1) := by decide +kernel
theorem dX8_others_13 : decode cX8_others 13 = .ok (.istore 4, 2) := by decide +kernel
theorem dX8_others_15 : decode cX8_others 15 = .ok (.aload_n 0, 1) := by decide +kernel
theorem dX8_others_16 : decode cX8_others 16 = .ok (.getfield 38, 3) := by decide +kernel
theorem dX8_others_19 : decode cX8_others 19 = .ok (.iload_n 1, 1) := by decide +kernel
theorem dX8_others_20 : decode cX8_others 20 = .ok (.iaload, 1) := by decide +kernel
theorem dX8_others_21 : decode cX8_others 21 = .ok (.iconst 3, 1) := by decide +kernel
theorem dX8_others_22 : decode cX8_others 22 = .ok (.if_icmp .le 7, 3) := by decide +kernel
theorem dX8_others_25 : decode cX8_others 25 = .ok (.iconst 1, 1) := by decide +kernel
theorem dX8_others_26 : decode cX8_others 26 = .ok (.goto 4, 3) := by decide +kernel
theorem dX8_others_29 : decode cX8_others 29 = .ok (.iconst 0, 1) := by decide +kernel
theorem dX8_others_30 : decode cX8_others 30 = .ok (.istore 5, 2) := by decide +kernel
theorem dX8_others_32 : decode cX8_others 32 = .ok (.iconst 0, 1) := by decide +kernel
theorem dX8_others_33 : decode cX8_others 33 = .ok (.istore 6, 2) := by decide +kernel
theorem dX8_others_35 : decode cX8_others 35 = .ok (.iconst 4, 1) := by decide +kernel
theorem dX8_others_36 : decode cX8_others 36 = .ok (.istore 7, 2) := by decide +kernel
theorem dX8_others_38 : decode cX8_others 38 = .ok (.iload 7, 2) := by decide +kernel
theorem dX8_others_40 : decode cX8_others 40 = .ok (.bipush 16, 2) := by decide +kernel
theorem dX8_others_42 : decode cX8_others 42 = .ok (.if_icmp .ge 95, 3) := by decide +kernel
theorem dX8_others_45 : decode cX8_others 45 = .ok (.aload_n 0, 1) := by decide +kernel
theorem dX8_others_46 : decode cX8_others 46 = .ok (.getfield 75, 3) := by decide +kernel
theorem dX8_others_49 : decode cX8_others 49 = .ok (.iload 7, 2) := by decide +kernel
theorem dX8_others_51 : decode cX8_others 51 = .ok (.iaload, 1) := by decide +kernel
theorem dX8_others_52 : decode cX8_others 52 = .ok (.iload 7, 2) := by decide +kernel
theorem dX8_others_54 : decode cX8_others 54 = .ok (.iconst 1, 1) := by decide +kernel
theorem dX8_others_55 : decode cX8_others 55 = .ok (.iand, 1) := by decide +kernel
theorem dX8_others_56 : decode cX8_others 56 = .ok (.iconst 1, 1) := by decide +kernel
theorem dX8_others_57 : decode cX8_others 57 = .ok (.if_icmp .ne 7, 3) := by decide +kernel
theorem dX8_others_60 : decode cX8_others 60 = .ok (.iload_n 2, 1) := by decide +kernel
theorem dX8_others_61 : decode cX8_others 61 = .ok (.goto 4, 3) := by decide +kernel
theorem dX8_others_64 : decode cX8_others 64 = .ok (.iconst 0, 1) := by decide +kernel
theorem dX8_others_65 : decode cX8_others 65 = .ok (.isub, 1) := by decide +kernel
theorem dX8_others_66 : decode cX8_others 66 = .ok (.iload 7, 2) := by decide +kernel
theorem dX8_others_68 : decode cX8_others 68 = .ok (.iconst 2, 1) := by decide +kernel
theorem dX8_others_69 : decode cX8_others 69 = .ok (.iand, 1) := by decide +kernel
theorem dX8_others_70 : decode cX8_others 70 = .ok (.iconst 2, 1) := by decide +kernel
theorem dX8_others_71 : decode cX8_others 71 = .ok (.if_icmp .ne 7, 3) := by decide +kernel
theorem dX8_others_74 : decode cX8_others 74 = .ok (.iload_n 3, 1) := by decide +kernel
theorem dX8_others_75 : decode cX8_others 75 = .ok (.goto 4, 3) := by decide +kernel
theorem dX8_others_78 : decode cX8_others 78 = .ok (.iconst 0, 1) := by decide +kernel
theorem dX8_others_79 : decode cX8_others 79 = .ok (.isub, 1) := by decide +kernel
theorem dX8_others_80 : decode cX8_others 80 = .ok (.istore 8, 2) := by decide +kernel
theorem dX8_others_82 : decode cX8_others 82 = .ok (.iload 7, 2) := by decide +kernel
theorem dX8_others_84 : decode cX8_others 84 = .ok (.iconst 2, 1) := by decide +kernel
theorem dX8_others_85 : decode cX8_others 85 = .ok (.ishr, 1) := by decide +kernel
theorem dX8_others_86 : decode cX8_others 86 = .ok (.iconst 1, 1) := by decide +kernel
theorem dX8_others_87 : decode cX8_others 87 = .ok (.if_icmp .ne 15, 3) := by decide +kernel
theorem dX8_others_90 : decode cX8_others 90 = .ok (.iload 4, 2) := by decide +kernel
theorem dX8_others_92 : decode cX8_others 92 = .ok (.iload 8, 2) := by decide +kernel
theorem dX8_others_94 : decode cX8_others 94 = .ok (.invokestatic 156, 3) := by decide +kernel
theorem dX8_others_97 : decode cX8_others 97 = .ok (.istore 4, 2) := by decide +kernel
theorem dX8_others_99 : decode cX8_others 99 = .ok (.goto 32, 3) := by decide +kernel
theorem dX8_others_102 : decode cX8_others 102 = .ok (.iload 7, 2) := by decide +kernel
theorem dX8_others_104 : decode cX8_others 104 = .ok (.iconst 2, 1) := by decide +kernel
theorem dX8_others_105 : decode cX8_others 105 = .ok (.ishr, 1) := by decide +kernel
theorem dX8_others_106 : decode cX8_others 106 = .ok (.iconst 2, 1) := by decide +kernel
theorem dX8_others_107 : decode cX8_others 107 = .ok (.if_icmp .ne 15, 3) := by decide +kernel
theorem dX8_others_110 : decode cX8_others 110 = .ok (.iload 5, 2) := by decide +kernel
theorem dX8_others_112 : decode cX8_others 112 = .ok (.iload 8, 2) := by decide +kernel
theorem dX8_others_114 : decode cX8_others 114 = .ok (.invokestatic 156, 3) := by decide +kernel
theorem dX8_others_117 : decode cX8_others 117 = .ok (.istore 5, 2) := by decide +kernel
theorem dX8_others_119 : decode cX8_others 119 = .ok (.goto 12, 3) := by decide +kernel
theorem dX8_others_122 : decode cX8_others 122 = .ok (.iload 6, 2) := by decide +kernel
theorem dX8_others_124 : decode cX8_others 124 = .ok (.iload 8, 2) := by decide +kernel
theorem dX8_others_126 : decode cX8_others 126 = .ok (.invokestatic 156, 3) := by decide +kernel
theorem dX8_others_129 : decode cX8_others 129 = .ok (.istore 6, 2) := by decide +kernel
theorem dX8_others_131 : decode cX8_others 131 = .ok (.iinc 7 1, 3) := by decide +kernel
theorem dX8_others_134 : decode cX8_others 134 = .ok (.goto (-96), 3) := by decide +kernel
theorem dX8_others_137 : decode cX8_others 137 = .ok (.iload 4, 2) := by decide +kernel
theorem dX8_others_139 : decode cX8_others 139 = .ok (.iload 5, 2) := by decide +kernel
theorem dX8_others_141 : decode cX8_others 141 = .ok (.iadd, 1) := by decide +kernel
theorem dX8_others_142 : decode cX8_others 142 = .ok (.iload 6, 2) := by decide +kernel
theorem dX8_others_144 : decode cX8_others 144 = .ok (.invokestatic 156, 3) := by decide +kernel
theorem dX8_others_147 : decode cX8_others 147 = .ok (.ireturn, 1) := by decide +kernel
theorem dX8_share_0 : decode cX8_share 0 = .ok (.aload_n 0, 1) := by decide +kernel
theorem dX8_share_1 : decode cX8_share 1 = .ok (.iload_n 1, 1) := by decide +kernel
theorem dX8_share_2 : decode cX8_share 2 = .ok (.invokevirtual 221, 3) := by decide +kernel
theorem dX8_share_5 : decode cX8_share 5 = .ok (.ifCond .ne 5, 3) := by decide +kernel
theorem dX8_share_8 : decode cX8_share 8 = .ok (.iconst (-1), 1) := by decide +kernel
theorem dX8_share_9 : decode cX8_share 9 = .ok (.ireturn, 1) := by decide +kernel
theorem dX8_share_10 : decode cX8_share 10 = .ok (.aload_n 0, 1) := by decide +kernel
theorem dX8_share_11 : decode cX8_share 11 = .ok (.iload_n 1, 1) := by decide +kernel
theorem dX8_share_12 : decode cX8_share 12 = .ok (.invokevirtual 188, 3) := by decide +kernel
theorem dX8_share_15 : decode cX8_share 15 = .ok (.istore_n 2, 1) := by decide +kernel
theorem dX8_share_16 : decode cX8_share 16 = .ok (.bipush 20, 2) := by decide +kernel
theorem dX8_share_18 : decode cX8_share 18 = .ok (.istore_n 3, 1) := by decide +kernel
theorem dX8_share_19 : decode cX8_share 19 = .ok (.iload_n 3, 1) := by decide +kernel
theorem dX8_share_20 : decode cX8_share 20 = .ok (.bipush 90, 2) := by decide +kernel
theorem dX8_share_22 : decode cX8_share 22 = .ok (.if_icmp .gt 23, 3) := by decide +kernel
theorem dX8_share_25 : decode cX8_share 25 = .ok (.aload_n 0, 1) := by decide +kernel
theorem dX8_share_26 : decode cX8_share 26 = .ok (.iload_n 1, 1) := by decide +kernel
theorem dX8_share_27 : decode cX8_share 27 = .ok (.iload_n 3, 1) := by decide +kernel
theorem dX8_share_28 : decode cX8_share 28 = .ok (.invokevirtual 224, 3) := by decide +kernel
theorem dX8_share_31 : decode cX8_share 31 = .ok (.iload_n 2, 1) := by decide +kernel
theorem dX8_share_32 : decode cX8_share 32 = .ok (.iadd, 1) := by decide +kernel
theorem dX8_share_33 : decode cX8_share 33 = .ok (.iload_n 3, 1) := by decide +kernel
theorem dX8_share_34 : decode cX8_share 34 = .ok (.if_icmp .gt 5, 3) := by decide +kernel
theorem dX8_share_37 : decode cX8_share 37 = .ok (.iload_n 3, 1) := by decide +kernel
theorem dX8_share_38 : decode cX8_share 38 = .ok (.ireturn, 1) := by decide +kernel
theorem dX8_share_39 : decode cX8_share 39 = .ok (.iinc 3 1, 3) := by decide +kernel
theorem dX8_share_42 : decode cX8_share 42 = .ok (.goto (-23), 3) := by decide +kernel
theorem dX8_share_45 : decode cX8_share 45 = .ok (.iconst (-1), 1) := by decide +kernel
theorem dX8_share_46 : decode cX8_share 46 = .ok (.ireturn, 1) := by decide +kernel
theorem dX8_fit_0 : decode cX8_fit 0 = .ok (.aload_n 0, 1) := by decide +kernel
theorem dX8_fit_1 : decode cX8_fit 1 = .ok (.iload_n 1, 1) := by decide +kernel
theorem dX8_fit_2 : decode cX8_fit 2 = .ok (.invokevirtual 221, 3) := by decide +kernel
theorem dX8_fit_5 : decode cX8_fit 5 = .ok (.ifCond .eq 14, 3) := by decide +kernel
theorem dX8_fit_8 : decode cX8_fit 8 = .ok (.iload_n 2, 1) := by decide +kernel
theorem dX8_fit_9 : decode cX8_fit 9 = .ok (.bipush 20, 2) := by decide +kernel
theorem dX8_fit_11 : decode cX8_fit 11 = .ok (.bipush 90, 2) := by decide +kernel
theorem dX8_fit_13 : decode cX8_fit 13 = .ok (.invokestatic 149, 3) := by decide +kernel
theorem dX8_fit_16 : decode cX8_fit 16 = .ok (.ifCond .ne 5, 3) := by decide +kernel
theorem dX8_fit_19 : decode cX8_fit 19 = .ok (.iconst 0, 1) := by decide +kernel
theorem dX8_fit_20 : decode cX8_fit 20 = .ok (.ireturn, 1) := by decide +kernel
theorem dX8_fit_21 : decode cX8_fit 21 = .ok (.iload_n 1, 1) := by decide +kernel
theorem dX8_fit_22 : decode cX8_fit 22 = .ok (.istore_n 3, 1) := by decide +kernel
theorem dX8_fit_23 : decode cX8_fit 23 = .ok (.aload_n 0, 1) := by decide +kernel
theorem dX8_fit_24 : decode cX8_fit 24 = .ok (.getfield 38, 3) := by decide +kernel
theorem dX8_fit_27 : decode cX8_fit 27 = .ok (.iload_n 3, 1) := by decide +kernel
theorem dX8_fit_28 : decode cX8_fit 28 = .ok (.iaload, 1) := by decide +kernel
theorem dX8_fit_29 : decode cX8_fit 29 = .ok (.istore 4, 2) := by decide +kernel
theorem dX8_fit_31 : decode cX8_fit 31 = .ok (.iload_n 2, 1) := by decide +kernel
theorem dX8_fit_32 : decode cX8_fit 32 = .ok (.aload_n 0, 1) := by decide +kernel
theorem dX8_fit_33 : decode cX8_fit 33 = .ok (.iload_n 3, 1) := by decide +kernel
theorem dX8_fit_34 : decode cX8_fit 34 = .ok (.invokevirtual 188, 3) := by decide +kernel
theorem dX8_fit_37 : decode cX8_fit 37 = .ok (.isub, 1) := by decide +kernel
theorem dX8_fit_38 : decode cX8_fit 38 = .ok (.istore 5, 2) := by decide +kernel
theorem dX8_fit_40 : decode cX8_fit 40 = .ok (.iload 5, 2) := by decide +kernel
theorem dX8_fit_42 : decode cX8_fit 42 = .ok (.iload 4, 2) := by decide +kernel
theorem dX8_fit_44 : decode cX8_fit 44 = .ok (.if_icmp .ge 5, 3) := by decide +kernel
theorem dX8_fit_47 : decode cX8_fit 47 = .ok (.iconst 0, 1) := by decide +kernel
theorem dX8_fit_48 : decode cX8_fit 48 = .ok (.ireturn, 1) := by decide +kernel
theorem dX8_fit_49 : decode cX8_fit 49 = .ok (.aload_n 0, 1) := by decide +kernel
theorem dX8_fit_50 : decode cX8_fit 50 = .ok (.lconst 0, 1) := by decide +kernel
theorem dX8_fit_51 : decode cX8_fit 51 = .ok (.putfield 227, 3) := by decide +kernel
theorem dX8_fit_54 : decode cX8_fit 54 = .ok (.iconst 1, 1) := by decide +kernel
theorem dX8_fit_55 : decode cX8_fit 55 = .ok (.istore 6, 2) := by decide +kernel
theorem dX8_fit_57 : decode cX8_fit 57 = .ok (.iload 6, 2) := by decide +kernel
theorem dX8_fit_59 : decode cX8_fit 59 = .ok (.iload 5, 2) := by decide +kernel
theorem dX8_fit_61 : decode cX8_fit 61 = .ok (.iload 4, 2) := by decide +kernel
theorem dX8_fit_63 : decode cX8_fit 63 = .ok (.isub, 1) := by decide +kernel
theorem dX8_fit_64 : decode cX8_fit 64 = .ok (.iconst 1, 1) := by decide +kernel
theorem dX8_fit_65 : decode cX8_fit 65 = .ok (.iadd, 1) := by decide +kernel
theorem dX8_fit_66 : decode cX8_fit 66 = .ok (.if_icmp .gt 159, 3) := by decide +kernel
theorem dX8_fit_69 : decode cX8_fit 69 = .ok (.aload_n 0, 1) := by decide +kernel
theorem dX8_fit_70 : decode cX8_fit 70 = .ok (.getfield 78, 3) := by decide +kernel
theorem dX8_fit_73 : decode cX8_fit 73 = .ok (.iconst 0, 1) := by decide +kernel
theorem dX8_fit_74 : decode cX8_fit 74 = .ok (.iload 6, 2) := by decide +kernel
theorem dX8_fit_76 : decode cX8_fit 76 = .ok (.iastore, 1) := by decide +kernel
theorem dX8_fit_77 : decode cX8_fit 77 = .ok (.iload 4, 2) := by decide +kernel
theorem dX8_fit_79 : decode cX8_fit 79 = .ok (.iconst 2, 1) := by decide +kernel
theorem dX8_fit_80 : decode cX8_fit 80 = .ok (.if_icmp .ne 23, 3) := by decide +kernel
theorem dX8_fit_83 : decode cX8_fit 83 = .ok (.aload_n 0, 1) := by decide +kernel
theorem dX8_fit_84 : decode cX8_fit 84 = .ok (.getfield 78, 3) := by decide +kernel
theorem dX8_fit_87 : decode cX8_fit 87 = .ok (.iconst 1, 1) := by decide +kernel
theorem dX8_fit_88 : decode cX8_fit 88 = .ok (.iload 5, 2) := by decide +kernel
theorem dX8_fit_90 : decode cX8_fit 90 = .ok (.iload 6, 2) := by decide +kernel
theorem dX8_fit_92 : decode cX8_fit 92 = .ok (.isub, 1) := by decide +kernel
theorem dX8_fit_93 : decode cX8_fit 93 = .ok (.iastore, 1) := by decide +kernel
theorem dX8_fit_94 : decode cX8_fit 94 = .ok (.aload_n 0, 1) := by decide +kernel
theorem dX8_fit_95 : decode cX8_fit 95 = .ok (.iload_n 3, 1) := by decide +kernel
theorem dX8_fit_96 : decode cX8_fit 96 = .ok (.iload_n 2, 1) := by decide +kernel
theorem dX8_fit_97 : decode cX8_fit 97 = .ok (.invokevirtual 231, 3) := by decide +kernel
theorem dX8_fit_100 : decode cX8_fit 100 = .ok (.goto 119, 3) := by decide +kernel
theorem dX8_fit_103 : decode cX8_fit 103 = .ok (.iconst 1, 1) := by decide +kernel
theorem dX8_fit_104 : decode cX8_fit 104 = .ok (.istore 7, 2) := by decide +kernel
theorem dX8_fit_106 : decode cX8_fit 106 = .ok (.iload 7, 2) := by decide +kernel
theorem dX8_fit_108 : decode cX8_fit 108 = .ok (.iload 5, 2) := by decide +kernel
theorem dX8_fit_110 : decode cX8_fit 110 = .ok (.iload 6, 2) := by decide +kernel
theorem dX8_fit_112 : decode cX8_fit 112 = .ok (.isub, 1) := by decide +kernel
theorem dX8_fit_113 : decode cX8_fit 113 = .ok (.iload 4, 2) := by decide +kernel
theorem dX8_fit_115 : decode cX8_fit 115 = .ok (.isub, 1) := by decide +kernel
theorem dX8_fit_116 : decode cX8_fit 116 = .ok (.iconst 2, 1) := by decide +kernel
theorem dX8_fit_117 : decode cX8_fit 117 = .ok (.iadd, 1) := by decide +kernel
theorem dX8_fit_118 : decode cX8_fit 118 = .ok (.if_icmp .gt 101, 3) := by decide +kernel
theorem dX8_fit_121 : decode cX8_fit 121 = .ok (.aload_n 0, 1) := by decide +kernel
theorem dX8_fit_122 : decode cX8_fit 122 = .ok (.getfield 78, 3) := by decide +kernel
theorem dX8_fit_125 : decode cX8_fit 125 = .ok (.iconst 1, 1) := by decide +kernel
theorem dX8_fit_126 : decode cX8_fit 126 = .ok (.iload 7, 2) := by decide +kernel
theorem dX8_fit_128 : decode cX8_fit 128 = .ok (.iastore, 1) := by decide +kernel
theorem dX8_fit_129 : decode cX8_fit 129 = .ok (.iload 4, 2) := by decide +kernel
theorem dX8_fit_131 : decode cX8_fit 131 = .ok (.iconst 3, 1) := by decide +kernel
theorem dX8_fit_132 : decode cX8_fit 132 = .ok (.if_icmp .ne 26, 3) := by decide +kernel
theorem dX8_fit_135 : decode cX8_fit 135 = .ok (.aload_n 0, 1) := by decide +kernel
theorem dX8_fit_136 : decode cX8_fit 136 = .ok (.getfield 78, 3) := by decide +kernel
theorem dX8_fit_139 : decode cX8_fit 139 = .ok (.iconst 2, 1) := by decide +kernel
theorem dX8_fit_140 : decode cX8_fit 140 = .ok (.iload 5, 2) := by decide +kernel
theorem dX8_fit_142 : decode cX8_fit 142 = .ok (.iload 6, 2) := by decide +kernel
theorem dX8_fit_144 : decode cX8_fit 144 = .ok (.isub, 1) := by decide +kernel
theorem dX8_fit_145 : decode cX8_fit 145 = .ok (.iload 7, 2) := by decide +kernel
theorem dX8_fit_147 : decode cX8_fit 147 = .ok (.isub, 1) := by decide +kernel
theorem dX8_fit_148 : decode cX8_fit 148 = .ok (.iastore, 1) := by decide +kernel
theorem dX8_fit_149 : decode cX8_fit 149 = .ok (.aload_n 0, 1) := by decide +kernel
theorem dX8_fit_150 : decode cX8_fit 150 = .ok (.iload_n 3, 1) := by decide +kernel
theorem dX8_fit_151 : decode cX8_fit 151 = .ok (.iload_n 2, 1) := by decide +kernel
theorem dX8_fit_152 : decode cX8_fit 152 = .ok (.invokevirtual 231, 3) := by decide +kernel
theorem dX8_fit_155 : decode cX8_fit 155 = .ok (.goto 58, 3) := by decide +kernel
theorem dX8_fit_158 : decode cX8_fit 158 = .ok (.iconst 1, 1) := by decide +kernel
theorem dX8_fit_159 : decode cX8_fit 159 = .ok (.istore 8, 2) := by decide +kernel
theorem dX8_fit_161 : decode cX8_fit 161 = .ok (.iload 8, 2) := by decide +kernel
theorem dX8_fit_163 : decode cX8_fit 163 = .ok (.iload 5, 2) := by decide +kernel
theorem dX8_fit_165 : decode cX8_fit 165 = .ok (.iload 6, 2) := by decide +kernel
theorem dX8_fit_167 : decode cX8_fit 167 = .ok (.isub, 1) := by decide +kernel
theorem dX8_fit_168 : decode cX8_fit 168 = .ok (.iload 7, 2) := by decide +kernel
theorem dX8_fit_170 : decode cX8_fit 170 = .ok (.isub, 1) := by decide +kernel
theorem dX8_fit_171 : decode cX8_fit 171 = .ok (.iconst 1, 1) := by decide +kernel
theorem dX8_fit_172 : decode cX8_fit 172 = .ok (.isub, 1) := by decide +kernel
theorem dX8_fit_173 : decode cX8_fit 173 = .ok (.if_icmp .gt 40, 3) := by decide +kernel
theorem dX8_fit_176 : decode cX8_fit 176 = .ok (.aload_n 0, 1) := by decide +kernel
theorem dX8_fit_177 : decode cX8_fit 177 = .ok (.getfield 78, 3) := by decide +kernel
theorem dX8_fit_180 : decode cX8_fit 180 = .ok (.iconst 2, 1) := by decide +kernel
theorem dX8_fit_181 : decode cX8_fit 181 = .ok (.iload 8, 2) := by decide +kernel
theorem dX8_fit_183 : decode cX8_fit 183 = .ok (.iastore, 1) := by decide +kernel
theorem dX8_fit_184 : decode cX8_fit 184 = .ok (.aload_n 0, 1) := by decide +kernel
theorem dX8_fit_185 : decode cX8_fit 185 = .ok (.getfield 78, 3) := by decide +kernel
theorem dX8_fit_188 : decode cX8_fit 188 = .ok (.iconst 3, 1) := by decide +kernel
theorem dX8_fit_189 : decode cX8_fit 189 = .ok (.iload 5, 2) := by decide +kernel
theorem dX8_fit_191 : decode cX8_fit 191 = .ok (.iload 6, 2) := by decide +kernel
theorem dX8_fit_193 : decode cX8_fit 193 = .ok (.isub, 1) := by decide +kernel
theorem dX8_fit_194 : decode cX8_fit 194 = .ok (.iload 7, 2) := by decide +kernel
theorem dX8_fit_196 : decode cX8_fit 196 = .ok (.isub, 1) := by decide +kernel
theorem dX8_fit_197 : decode cX8_fit 197 = .ok (.iload 8, 2) := by decide +kernel
theorem dX8_fit_199 : decode cX8_fit 199 = .ok (.isub, 1) := by decide +kernel
theorem dX8_fit_200 : decode cX8_fit 200 = .ok (.iastore, 1) := by decide +kernel
theorem dX8_fit_201 : decode cX8_fit 201 = .ok (.aload_n 0, 1) := by decide +kernel
theorem dX8_fit_202 : decode cX8_fit 202 = .ok (.iload_n 3, 1) := by decide +kernel
theorem dX8_fit_203 : decode cX8_fit 203 = .ok (.iload_n 2, 1) := by decide +kernel
theorem dX8_fit_204 : decode cX8_fit 204 = .ok (.invokevirtual 231, 3) := by decide +kernel
theorem dX8_fit_207 : decode cX8_fit 207 = .ok (.iinc 8 1, 3) := by decide +kernel
theorem dX8_fit_210 : decode cX8_fit 210 = .ok (.goto (-49), 3) := by decide +kernel
theorem dX8_fit_213 : decode cX8_fit 213 = .ok (.iinc 7 1, 3) := by decide +kernel
theorem dX8_fit_216 : decode cX8_fit 216 = .ok (.goto (-110), 3) := by decide +kernel
theorem dX8_fit_219 : decode cX8_fit 219 = .ok (.iinc 6 1, 3) := by decide +kernel
theorem dX8_fit_222 : decode cX8_fit 222 = .ok (.goto (-165), 3) := by decide +kernel
theorem dX8_fit_225 : decode cX8_fit 225 = .ok (.aload_n 0, 1) := by decide +kernel
theorem dX8_fit_226 : decode cX8_fit 226 = .ok (.getfield 35, 3) := by decide +kernel
theorem dX8_fit_229 : decode cX8_fit 229 = .ok (.iload_n 3, 1) := by decide +kernel
theorem dX8_fit_230 : decode cX8_fit 230 = .ok (.iload_n 2, 1) := by decide +kernel
theorem dX8_fit_231 : decode cX8_fit 231 = .ok (.iastore, 1) := by decide +kernel
theorem dX8_fit_232 : decode cX8_fit 232 = .ok (.iconst 0, 1) := by decide +kernel
theorem dX8_fit_233 : decode cX8_fit 233 = .ok (.istore 6, 2) := by decide +kernel
theorem dX8_fit_235 : decode cX8_fit 235 = .ok (.iload 6, 2) := by decide +kernel
theorem dX8_fit_237 : decode cX8_fit 237 = .ok (.iload 4, 2) := by decide +kernel
theorem dX8_fit_239 : decode cX8_fit 239 = .ok (.if_icmp .ge 27, 3) := by decide +kernel
theorem dX8_fit_242 : decode cX8_fit 242 = .ok (.aload_n 0, 1) := by decide +kernel
theorem dX8_fit_243 : decode cX8_fit 243 = .ok (.getfield 44, 3) := by decide +kernel
theorem dX8_fit_246 : decode cX8_fit 246 = .ok (.iconst 4, 1) := by decide +kernel
theorem dX8_fit_247 : decode cX8_fit 247 = .ok (.iload_n 3, 1) := by decide +kernel
theorem dX8_fit_248 : decode cX8_fit 248 = .ok (.imul, 1) := by decide +kernel
theorem dX8_fit_249 : decode cX8_fit 249 = .ok (.iload 6, 2) := by decide +kernel
theorem dX8_fit_251 : decode cX8_fit 251 = .ok (.iadd, 1) := by decide +kernel
theorem dX8_fit_252 : decode cX8_fit 252 = .ok (.aload_n 0, 1) := by decide +kernel
theorem dX8_fit_253 : decode cX8_fit 253 = .ok (.getfield 81, 3) := by decide +kernel
theorem dX8_fit_256 : decode cX8_fit 256 = .ok (.iload 6, 2) := by decide +kernel
theorem dX8_fit_258 : decode cX8_fit 258 = .ok (.iaload, 1) := by decide +kernel
theorem dX8_fit_259 : decode cX8_fit 259 = .ok (.iastore, 1) := by decide +kernel
theorem dX8_fit_260 : decode cX8_fit 260 = .ok (.iinc 6 1, 3) := by decide +kernel
theorem dX8_fit_263 : decode cX8_fit 263 = .ok (.goto (-28), 3) := by decide +kernel
theorem dX8_fit_266 : decode cX8_fit 266 = .ok (.iconst 1, 1) := by decide +kernel
theorem dX8_fit_267 : decode cX8_fit 267 = .ok (.ireturn, 1) := by decide +kernel
theorem dX8_tries_0 : decode cX8_tries 0 = .ok (.lconst 0, 1) := by decide +kernel
theorem dX8_tries_1 : decode cX8_tries 1 = .ok (.lstore_n 3, 1) := by decide +kernel
theorem dX8_tries_2 : decode cX8_tries 2 = .ok (.lconst 1, 1) := by decide +kernel
theorem dX8_tries_3 : decode cX8_tries 3 = .ok (.lstore 5, 2) := by decide +kernel
theorem dX8_tries_5 : decode cX8_tries 5 = .ok (.iconst 0, 1) := by decide +kernel
theorem dX8_tries_6 : decode cX8_tries 6 = .ok (.istore 7, 2) := by decide +kernel
theorem dX8_tries_8 : decode cX8_tries 8 = .ok (.iload 7, 2) := by decide +kernel
theorem dX8_tries_10 : decode cX8_tries 10 = .ok (.aload_n 0, 1) := by decide +kernel
theorem dX8_tries_11 : decode cX8_tries 11 = .ok (.getfield 7, 3) := by decide +kernel
theorem dX8_tries_14 : decode cX8_tries 14 = .ok (.iload_n 1, 1) := by decide +kernel
theorem dX8_tries_15 : decode cX8_tries 15 = .ok (.iaload, 1) := by decide +kernel
theorem dX8_tries_16 : decode cX8_tries 16 = .ok (.if_icmp .ge 132, 3) := by decide +kernel
theorem dX8_tries_19 : decode cX8_tries 19 = .ok (.iconst 0, 1) := by decide +kernel
theorem dX8_tries_20 : decode cX8_tries 20 = .ok (.istore 8, 2) := by decide +kernel
theorem dX8_tries_22 : decode cX8_tries 22 = .ok (.iconst 0, 1) := by decide +kernel
theorem dX8_tries_23 : decode cX8_tries 23 = .ok (.istore 9, 2) := by decide +kernel
theorem dX8_tries_25 : decode cX8_tries 25 = .ok (.iload 9, 2) := by decide +kernel
theorem dX8_tries_27 : decode cX8_tries 27 = .ok (.aload_n 0, 1) := by decide +kernel
theorem dX8_tries_28 : decode cX8_tries 28 = .ok (.getfield 38, 3) := by decide +kernel
theorem dX8_tries_31 : decode cX8_tries 31 = .ok (.iload_n 1, 1) := by decide +kernel
theorem dX8_tries_32 : decode cX8_tries 32 = .ok (.iaload, 1) := by decide +kernel
theorem dX8_tries_33 : decode cX8_tries 33 = .ok (.if_icmp .ge 41, 3) := by decide +kernel
theorem dX8_tries_36 : decode cX8_tries 36 = .ok (.aload_n 0, 1) := by decide +kernel
theorem dX8_tries_37 : decode cX8_tries 37 = .ok (.getfield 41, 3) := by decide +kernel
theorem dX8_tries_40 : decode cX8_tries 40 = .ok (.iconst 4, 1) := by decide +kernel
theorem dX8_tries_41 : decode cX8_tries 41 = .ok (.iload_n 1, 1) := by decide +kernel
theorem dX8_tries_42 : decode cX8_tries 42 = .ok (.imul, 1) := by decide +kernel
theorem dX8_tries_43 : decode cX8_tries 43 = .ok (.iload 9, 2) := by decide +kernel
theorem dX8_tries_45 : decode cX8_tries 45 = .ok (.iadd, 1) := by decide +kernel
theorem dX8_tries_46 : decode cX8_tries 46 = .ok (.iaload, 1) := by decide +kernel
theorem dX8_tries_47 : decode cX8_tries 47 = .ok (.iload 7, 2) := by decide +kernel
theorem dX8_tries_49 : decode cX8_tries 49 = .ok (.ishr, 1) := by decide +kernel
theorem dX8_tries_50 : decode cX8_tries 50 = .ok (.iconst 1, 1) := by decide +kernel
theorem dX8_tries_51 : decode cX8_tries 51 = .ok (.iand, 1) := by decide +kernel
theorem dX8_tries_52 : decode cX8_tries 52 = .ok (.iconst 1, 1) := by decide +kernel
theorem dX8_tries_53 : decode cX8_tries 53 = .ok (.if_icmp .ne 15, 3) := by decide +kernel
theorem dX8_tries_56 : decode cX8_tries 56 = .ok (.iload 8, 2) := by decide +kernel
theorem dX8_tries_58 : decode cX8_tries 58 = .ok (.aload_n 0, 1) := by decide +kernel
theorem dX8_tries_59 : decode cX8_tries 59 = .ok (.getfield 78, 3) := by decide +kernel
theorem dX8_tries_62 : decode cX8_tries 62 = .ok (.iload 9, 2) := by decide +kernel
theorem dX8_tries_64 : decode cX8_tries 64 = .ok (.iaload, 1) := by decide +kernel
theorem dX8_tries_65 : decode cX8_tries 65 = .ok (.iadd, 1) := by decide +kernel
theorem dX8_tries_66 : decode cX8_tries 66 = .ok (.istore 8, 2) := by decide +kernel
theorem dX8_tries_68 : decode cX8_tries 68 = .ok (.iinc 9 1, 3) := by decide +kernel
theorem dX8_tries_71 : decode cX8_tries 71 = .ok (.goto (-46), 3) := by decide +kernel
theorem dX8_tries_74 : decode cX8_tries 74 = .ok (.iload 8, 2) := by decide +kernel
theorem dX8_tries_76 : decode cX8_tries 76 = .ok (.ifCond .ne 6, 3) := by decide +kernel
theorem dX8_tries_79 : decode cX8_tries 79 = .ok (.goto 63, 3) := by decide +kernel
theorem dX8_tries_82 : decode cX8_tries 82 = .ok (.aload_n 0, 1) := by decide +kernel
theorem dX8_tries_83 : decode cX8_tries 83 = .ok (.getfield 16, 3) := by decide +kernel
theorem dX8_tries_86 : decode cX8_tries 86 = .ok (.bipush 8, 2) := by decide +kernel
theorem dX8_tries_88 : decode cX8_tries 88 = .ok (.iload_n 1, 1) := by decide +kernel
theorem dX8_tries_89 : decode cX8_tries 89 = .ok (.imul, 1) := by decide +kernel
theorem dX8_tries_90 : decode cX8_tries 90 = .ok (.iload 7, 2) := by decide +kernel
theorem dX8_tries_92 : decode cX8_tries 92 = .ok (.iadd, 1) := by decide +kernel
theorem dX8_tries_93 : decode cX8_tries 93 = .ok (.iaload, 1) := by decide +kernel
theorem dX8_tries_94 : decode cX8_tries 94 = .ok (.i2l, 1) := by decide +kernel
theorem dX8_tries_95 : decode cX8_tries 95 = .ok (.iload_n 2, 1) := by decide +kernel
theorem dX8_tries_96 : decode cX8_tries 96 = .ok (.i2l, 1) := by decide +kernel
theorem dX8_tries_97 : decode cX8_tries 97 = .ok (.lmul, 1) := by decide +kernel
theorem dX8_tries_98 : decode cX8_tries 98 = .ok (.lstore 9, 2) := by decide +kernel
theorem dX8_tries_100 : decode cX8_tries 100 = .ok (.aload_n 0, 1) := by decide +kernel
theorem dX8_tries_101 : decode cX8_tries 101 = .ok (.getfield 19, 3) := by decide +kernel
theorem dX8_tries_104 : decode cX8_tries 104 = .ok (.bipush 8, 2) := by decide +kernel
theorem dX8_tries_106 : decode cX8_tries 106 = .ok (.iload_n 1, 1) := by decide +kernel
theorem dX8_tries_107 : decode cX8_tries 107 = .ok (.imul, 1) := by decide +kernel
theorem dX8_tries_108 : decode cX8_tries 108 = .ok (.iload 7, 2) := by decide +kernel
theorem dX8_tries_110 : decode cX8_tries 110 = .ok (.iadd, 1) := by decide +kernel
theorem dX8_tries_111 : decode cX8_tries 111 = .ok (.iaload, 1) := by decide +kernel
theorem dX8_tries_112 : decode cX8_tries 112 = .ok (.i2l, 1) := by decide +kernel
theorem dX8_tries_113 : decode cX8_tries 113 = .ok (.iload 8, 2) := by decide +kernel
theorem dX8_tries_115 : decode cX8_tries 115 = .ok (.i2l, 1) := by decide +kernel
theorem dX8_tries_116 : decode cX8_tries 116 = .ok (.lmul, 1) := by decide +kernel
theorem dX8_tries_117 : decode cX8_tries 117 = .ok (.lstore 11, 2) := by decide +kernel
theorem dX8_tries_119 : decode cX8_tries 119 = .ok (.lload 9, 2) := by decide +kernel
theorem dX8_tries_121 : decode cX8_tries 121 = .ok (.lload 5, 2) := by decide +kernel
theorem dX8_tries_123 : decode cX8_tries 123 = .ok (.lmul, 1) := by decide +kernel
theorem dX8_tries_124 : decode cX8_tries 124 = .ok (.lload_n 3, 1) := by decide +kernel
theorem dX8_tries_125 : decode cX8_tries 125 = .ok (.lload 11, 2) := by decide +kernel
theorem dX8_tries_127 : decode cX8_tries 127 = .ok (.lmul, 1) := by decide +kernel
theorem dX8_tries_128 : decode cX8_tries 128 = .ok (.lcmp, 1) := by decide +kernel
theorem dX8_tries_129 : decode cX8_tries 129 = .ok (.ifCond .gt 6, 3) := by decide +kernel
theorem dX8_tries_132 : decode cX8_tries 132 = .ok (.goto 10, 3) := by decide +kernel
theorem dX8_tries_135 : decode cX8_tries 135 = .ok (.lload 9, 2) := by decide +kernel
theorem dX8_tries_137 : decode cX8_tries 137 = .ok (.lstore_n 3, 1) := by decide +kernel
theorem dX8_tries_138 : decode cX8_tries 138 = .ok (.lload 11, 2) := by decide +kernel
theorem dX8_tries_140 : decode cX8_tries 140 = .ok (.lstore 5, 2) := by decide +kernel
theorem dX8_tries_142 : decode cX8_tries 142 = .ok (.iinc 7 1, 3) := by decide +kernel
theorem dX8_tries_145 : decode cX8_tries 145 = .ok (.goto (-137), 3) := by decide +kernel
theorem dX8_tries_148 : decode cX8_tries 148 = .ok (.aload_n 0, 1) := by decide +kernel
theorem dX8_tries_149 : decode cX8_tries 149 = .ok (.getfield 227, 3) := by decide +kernel
theorem dX8_tries_152 : decode cX8_tries 152 = .ok (.lconst 0, 1) := by decide +kernel
theorem dX8_tries_153 : decode cX8_tries 153 = .ok (.lcmp, 1) := by decide +kernel
theorem dX8_tries_154 : decode cX8_tries 154 = .ok (.ifCond .le 21, 3) := by decide +kernel
theorem dX8_tries_157 : decode cX8_tries 157 = .ok (.lload_n 3, 1) := by decide +kernel
theorem dX8_tries_158 : decode cX8_tries 158 = .ok (.aload_n 0, 1) := by decide +kernel
theorem dX8_tries_159 : decode cX8_tries 159 = .ok (.getfield 227, 3) := by decide +kernel
theorem dX8_tries_162 : decode cX8_tries 162 = .ok (.lmul, 1) := by decide +kernel
theorem dX8_tries_163 : decode cX8_tries 163 = .ok (.aload_n 0, 1) := by decide +kernel
theorem dX8_tries_164 : decode cX8_tries 164 = .ok (.getfield 235, 3) := by decide +kernel
theorem dX8_tries_167 : decode cX8_tries 167 = .ok (.lload 5, 2) := by decide +kernel
theorem dX8_tries_169 : decode cX8_tries 169 = .ok (.lmul, 1) := by decide +kernel
theorem dX8_tries_170 : decode cX8_tries 170 = .ok (.lcmp, 1) := by decide +kernel
theorem dX8_tries_171 : decode cX8_tries 171 = .ok (.ifCond .lt 4, 3) := by decide +kernel
theorem dX8_tries_174 : decode cX8_tries 174 = .ok (.return_, 1) := by decide +kernel
theorem dX8_tries_175 : decode cX8_tries 175 = .ok (.aload_n 0, 1) := by decide +kernel
theorem dX8_tries_176 : decode cX8_tries 176 = .ok (.lload_n 3, 1) := by decide +kernel
theorem dX8_tries_177 : decode cX8_tries 177 = .ok (.putfield 235, 3) := by decide +kernel
theorem dX8_tries_180 : decode cX8_tries 180 = .ok (.aload_n 0, 1) := by decide +kernel
theorem dX8_tries_181 : decode cX8_tries 181 = .ok (.lload 5, 2) := by decide +kernel
theorem dX8_tries_183 : decode cX8_tries 183 = .ok (.putfield 227, 3) := by decide +kernel
theorem dX8_tries_186 : decode cX8_tries 186 = .ok (.iconst 0, 1) := by decide +kernel
theorem dX8_tries_187 : decode cX8_tries 187 = .ok (.istore 7, 2) := by decide +kernel
theorem dX8_tries_189 : decode cX8_tries 189 = .ok (.iload 7, 2) := by decide +kernel
theorem dX8_tries_191 : decode cX8_tries 191 = .ok (.aload_n 0, 1) := by decide +kernel
theorem dX8_tries_192 : decode cX8_tries 192 = .ok (.getfield 38, 3) := by decide +kernel
theorem dX8_tries_195 : decode cX8_tries 195 = .ok (.iload_n 1, 1) := by decide +kernel
theorem dX8_tries_196 : decode cX8_tries 196 = .ok (.iaload, 1) := by decide +kernel
theorem dX8_tries_197 : decode cX8_tries 197 = .ok (.if_icmp .ge 23, 3) := by decide +kernel
theorem dX8_tries_200 : decode cX8_tries 200 = .ok (.aload_n 0, 1) := by decide +kernel
theorem dX8_tries_201 : decode cX8_tries 201 = .ok (.getfield 81, 3) := by decide +kernel
theorem dX8_tries_204 : decode cX8_tries 204 = .ok (.iload 7, 2) := by decide +kernel
theorem dX8_tries_206 : decode cX8_tries 206 = .ok (.aload_n 0, 1) := by decide +kernel
theorem dX8_tries_207 : decode cX8_tries 207 = .ok (.getfield 78, 3) := by decide +kernel
theorem dX8_tries_210 : decode cX8_tries 210 = .ok (.iload 7, 2) := by decide +kernel
theorem dX8_tries_212 : decode cX8_tries 212 = .ok (.iaload, 1) := by decide +kernel
theorem dX8_tries_213 : decode cX8_tries 213 = .ok (.iastore, 1) := by decide +kernel
theorem dX8_tries_214 : decode cX8_tries 214 = .ok (.iinc 7 1, 3) := by decide +kernel
theorem dX8_tries_217 : decode cX8_tries 217 = .ok (.goto (-28), 3) := by decide +kernel
theorem dX8_tries_220 : decode cX8_tries 220 = .ok (.return_, 1) := by decide +kernel
theorem dX8_green_0 : decode cX8_green 0 = .ok (.aload_n 0, 1) := by decide +kernel
theorem dX8_green_1 : decode cX8_green 1 = .ok (.iload_n 1, 1) := by decide +kernel
theorem dX8_green_2 : decode cX8_green 2 = .ok (.invokevirtual 142, 3) := by decide +kernel
theorem dX8_green_5 : decode cX8_green 5 = .ok (.ifCond .eq 39, 3) := by decide +kernel
theorem dX8_green_8 : decode cX8_green 8 = .ok (.aload_n 0, 1) := by decide +kernel
theorem dX8_green_9 : decode cX8_green 9 = .ok (.getfield 32, 3) := by decide +kernel
theorem dX8_green_12 : decode cX8_green 12 = .ok (.iload_n 1, 1) := by decide +kernel
theorem dX8_green_13 : decode cX8_green 13 = .ok (.baload, 1) := by decide +kernel
theorem dX8_green_14 : decode cX8_green 14 = .ok (.ifCond .eq 30, 3) := by decide +kernel
theorem dX8_green_17 : decode cX8_green 17 = .ok (.iload_n 2, 1) := by decide +kernel
theorem dX8_green_18 : decode cX8_green 18 = .ok (.ifCond .lt 26, 3) := by decide +kernel
theorem dX8_green_21 : decode cX8_green 21 = .ok (.iload_n 2, 1) := by decide +kernel
theorem dX8_green_22 : decode cX8_green 22 = .ok (.aload_n 0, 1) := by decide +kernel
theorem dX8_green_23 : decode cX8_green 23 = .ok (.getfield 38, 3) := by decide +kernel
theorem dX8_green_26 : decode cX8_green 26 = .ok (.iload_n 1, 1) := by decide +kernel
theorem dX8_green_27 : decode cX8_green 27 = .ok (.iaload, 1) := by decide +kernel
theorem dX8_green_28 : decode cX8_green 28 = .ok (.if_icmp .ge 16, 3) := by decide +kernel
theorem dX8_green_31 : decode cX8_green 31 = .ok (.aload_n 0, 1) := by decide +kernel
theorem dX8_green_32 : decode cX8_green 32 = .ok (.getfield 44, 3) := by decide +kernel
theorem dX8_green_35 : decode cX8_green 35 = .ok (.iconst 4, 1) := by decide +kernel
theorem dX8_green_36 : decode cX8_green 36 = .ok (.iload_n 1, 1) := by decide +kernel
theorem dX8_green_37 : decode cX8_green 37 = .ok (.imul, 1) := by decide +kernel
theorem dX8_green_38 : decode cX8_green 38 = .ok (.iload_n 2, 1) := by decide +kernel
theorem dX8_green_39 : decode cX8_green 39 = .ok (.iadd, 1) := by decide +kernel
theorem dX8_green_40 : decode cX8_green 40 = .ok (.iaload, 1) := by decide +kernel
theorem dX8_green_41 : decode cX8_green 41 = .ok (.goto 4, 3) := by decide +kernel
theorem dX8_green_44 : decode cX8_green 44 = .ok (.iconst (-1), 1) := by decide +kernel
theorem dX8_green_45 : decode cX8_green 45 = .ok (.ireturn, 1) := by decide +kernel
theorem dX8_lamp_0 : decode cX8_lamp 0 = .ok (.aload_n 0, 1) := by decide +kernel
theorem dX8_lamp_1 : decode cX8_lamp 1 = .ok (.iload_n 1, 1) := by decide +kernel
theorem dX8_lamp_2 : decode cX8_lamp 2 = .ok (.iload_n 2, 1) := by decide +kernel
theorem dX8_lamp_3 : decode cX8_lamp 3 = .ok (.invokevirtual 169, 3) := by decide +kernel
theorem dX8_lamp_6 : decode cX8_lamp 6 = .ok (.ifCond .eq 13, 3) := by decide +kernel
theorem dX8_lamp_9 : decode cX8_lamp 9 = .ok (.iload_n 3, 1) := by decide +kernel
theorem dX8_lamp_10 : decode cX8_lamp 10 = .ok (.iconst 0, 1) := by decide +kernel
theorem dX8_lamp_11 : decode cX8_lamp 11 = .ok (.ldc 238, 2) := by decide +kernel
theorem dX8_lamp_13 : decode cX8_lamp 13 = .ok (.invokestatic 149, 3) := by decide +kernel
theorem dX8_lamp_16 : decode cX8_lamp 16 = .ok (.ifCond .ne 5, 3) := by decide +kernel
theorem dX8_lamp_19 : decode cX8_lamp 19 = .ok (.iconst (-1), 1) := by decide +kernel
theorem dX8_lamp_20 : decode cX8_lamp 20 = .ok (.ireturn, 1) := by decide +kernel
theorem dX8_lamp_21 : decode cX8_lamp 21 = .ok (.aload_n 0, 1) := by decide +kernel
theorem dX8_lamp_22 : decode cX8_lamp 22 = .ok (.getfield 32, 3) := by decide +kernel
theorem dX8_lamp_25 : decode cX8_lamp 25 = .ok (.bipush 8, 2) := by decide +kernel
theorem dX8_lamp_27 : decode cX8_lamp 27 = .ok (.iload_n 1, 1) := by decide +kernel
theorem dX8_lamp_28 : decode cX8_lamp 28 = .ok (.iadd, 1) := by decide +kernel
theorem dX8_lamp_29 : decode cX8_lamp 29 = .ok (.baload, 1) := by decide +kernel
theorem dX8_lamp_30 : decode cX8_lamp 30 = .ok (.ifCond .eq 30, 3) := by decide +kernel
theorem dX8_lamp_33 : decode cX8_lamp 33 = .ok (.aload_n 0, 1) := by decide +kernel
theorem dX8_lamp_34 : decode cX8_lamp 34 = .ok (.bipush 8, 2) := by decide +kernel
theorem dX8_lamp_36 : decode cX8_lamp 36 = .ok (.iload_n 1, 1) := by decide +kernel
theorem dX8_lamp_37 : decode cX8_lamp 37 = .ok (.iadd, 1) := by decide +kernel
theorem dX8_lamp_38 : decode cX8_lamp 38 = .ok (.iload_n 2, 1) := by decide +kernel
theorem dX8_lamp_39 : decode cX8_lamp 39 = .ok (.iload_n 3, 1) := by decide +kernel
theorem dX8_lamp_40 : decode cX8_lamp 40 = .ok (.aload_n 0, 1) := by decide +kernel
theorem dX8_lamp_41 : decode cX8_lamp 41 = .ok (.getfield 47, 3) := by decide +kernel
theorem dX8_lamp_44 : decode cX8_lamp 44 = .ok (.bipush 8, 2) := by decide +kernel
theorem dX8_lamp_46 : decode cX8_lamp 46 = .ok (.iload_n 1, 1) := by decide +kernel
theorem dX8_lamp_47 : decode cX8_lamp 47 = .ok (.iadd, 1) := by decide +kernel
theorem dX8_lamp_48 : decode cX8_lamp 48 = .ok (.iaload, 1) := by decide +kernel
theorem dX8_lamp_49 : decode cX8_lamp 49 = .ok (.isub, 1) := by decide +kernel
theorem dX8_lamp_50 : decode cX8_lamp 50 = .ok (.invokevirtual 205, 3) := by decide +kernel
theorem dX8_lamp_53 : decode cX8_lamp 53 = .ok (.ifCond .eq 7, 3) := by decide +kernel
theorem dX8_lamp_56 : decode cX8_lamp 56 = .ok (.iconst 1, 1) := by decide +kernel
theorem dX8_lamp_57 : decode cX8_lamp 57 = .ok (.goto 4, 3) := by decide +kernel
theorem dX8_lamp_60 : decode cX8_lamp 60 = .ok (.iconst 0, 1) := by decide +kernel
theorem dX8_lamp_61 : decode cX8_lamp 61 = .ok (.ireturn, 1) := by decide +kernel
theorem dX8_street_0 : decode cX8_street 0 = .ok (.aload_n 0, 1) := by decide +kernel
theorem dX8_street_1 : decode cX8_street 1 = .ok (.iload_n 1, 1) := by decide +kernel
theorem dX8_street_2 : decode cX8_street 2 = .ok (.iload_n 2, 1) := by decide +kernel
theorem dX8_street_3 : decode cX8_street 3 = .ok (.invokevirtual 169, 3) := by decide +kernel
theorem dX8_street_6 : decode cX8_street 6 = .ok (.ifCond .eq 40, 3) := by decide +kernel
theorem dX8_street_9 : decode cX8_street 9 = .ok (.aload_n 0, 1) := by decide +kernel
theorem dX8_street_10 : decode cX8_street 10 = .ok (.iload_n 3, 1) := by decide +kernel
theorem dX8_street_11 : decode cX8_street 11 = .ok (.iload 4, 2) := by decide +kernel
theorem dX8_street_13 : decode cX8_street 13 = .ok (.invokevirtual 169, 3) := by decide +kernel
theorem dX8_street_16 : decode cX8_street 16 = .ok (.ifCond .eq 30, 3) := by decide +kernel
theorem dX8_street_19 : decode cX8_street 19 = .ok (.iload_n 1, 1) := by decide +kernel
theorem dX8_street_20 : decode cX8_street 20 = .ok (.iload_n 3, 1) := by decide +kernel
theorem dX8_street_21 : decode cX8_street 21 = .ok (.if_icmp .eq 25, 3) := by decide +kernel
theorem dX8_street_24 : decode cX8_street 24 = .ok (.iload 5, 2) := by decide +kernel
theorem dX8_street_26 : decode cX8_street 26 = .ok (.iconst 1, 1) := by decide +kernel
theorem dX8_street_27 : decode cX8_street 27 = .ok (.bipush 60, 2) := by decide +kernel
theorem dX8_street_29 : decode cX8_street 29 = .ok (.invokestatic 149, 3) := by decide +kernel
theorem dX8_street_32 : decode cX8_street 32 = .ok (.ifCond .eq 14, 3) := by decide +kernel
theorem dX8_street_35 : decode cX8_street 35 = .ok (.iload 6, 2) := by decide +kernel
theorem dX8_street_37 : decode cX8_street 37 = .ok (.iconst 1, 1) := by decide +kernel
theorem dX8_street_38 : decode cX8_street 38 = .ok (.bipush 60, 2) := by decide +kernel
theorem dX8_street_40 : decode cX8_street 40 = .ok (.invokestatic 149, 3) := by decide +kernel
theorem dX8_street_43 : decode cX8_street 43 = .ok (.ifCond .ne 5, 3) := by decide +kernel
theorem dX8_street_46 : decode cX8_street 46 = .ok (.iconst 0, 1) := by decide +kernel
theorem dX8_street_47 : decode cX8_street 47 = .ok (.ireturn, 1) := by decide +kernel
theorem dX8_street_48 : decode cX8_street 48 = .ok (.bipush 8, 2) := by decide +kernel
theorem dX8_street_50 : decode cX8_street 50 = .ok (.iload_n 1, 1) := by decide +kernel
theorem dX8_street_51 : decode cX8_street 51 = .ok (.imul, 1) := by decide +kernel
theorem dX8_street_52 : decode cX8_street 52 = .ok (.iload_n 2, 1) := by decide +kernel
theorem dX8_street_53 : decode cX8_street 53 = .ok (.iadd, 1) := by decide +kernel
theorem dX8_street_54 : decode cX8_street 54 = .ok (.istore 7, 2) := by decide +kernel
theorem dX8_street_56 : decode cX8_street 56 = .ok (.aload_n 0, 1) := by decide +kernel
theorem dX8_street_57 : decode cX8_street 57 = .ok (.getfield 84, 3) := by decide +kernel
theorem dX8_street_60 : decode cX8_street 60 = .ok (.iload 7, 2) := by decide +kernel
theorem dX8_street_62 : decode cX8_street 62 = .ok (.baload, 1) := by decide +kernel
theorem dX8_street_63 : decode cX8_street 63 = .ok (.ifCond .ne 10, 3) := by decide +kernel
theorem dX8_street_66 : decode cX8_street 66 = .ok (.aload_n 0, 1) := by decide +kernel
theorem dX8_street_67 : decode cX8_street 67 = .ok (.getfield 146, 3) := by decide +kernel
theorem dX8_street_70 : decode cX8_street 70 = .ok (.ifCond .le 5, 3) := by decide +kernel
theorem dX8_street_73 : decode cX8_street 73 = .ok (.iconst 0, 1) := by decide +kernel
theorem dX8_street_74 : decode cX8_street 74 = .ok (.ireturn, 1) := by decide +kernel
theorem dX8_street_75 : decode cX8_street 75 = .ok (.aload_n 0, 1) := by decide +kernel
theorem dX8_street_76 : decode cX8_street 76 = .ok (.getfield 84, 3) := by decide +kernel
theorem dX8_street_79 : decode cX8_street 79 = .ok (.iload 7, 2) := by decide +kernel
theorem dX8_street_81 : decode cX8_street 81 = .ok (.iconst 1, 1) := by decide +kernel
theorem dX8_street_82 : decode cX8_street 82 = .ok (.bastore, 1) := by decide +kernel
theorem dX8_street_83 : decode cX8_street 83 = .ok (.aload_n 0, 1) := by decide +kernel
theorem dX8_street_84 : decode cX8_street 84 = .ok (.getfield 87, 3) := by decide +kernel
theorem dX8_street_87 : decode cX8_street 87 = .ok (.iload 7, 2) := by decide +kernel
theorem dX8_street_89 : decode cX8_street 89 = .ok (.bipush 8, 2) := by decide +kernel
theorem dX8_street_91 : decode cX8_street 91 = .ok (.iload_n 3, 1) := by decide +kernel
theorem dX8_street_92 : decode cX8_street 92 = .ok (.imul, 1) := by decide +kernel
theorem dX8_street_93 : decode cX8_street 93 = .ok (.iload 4, 2) := by decide +kernel
theorem dX8_street_95 : decode cX8_street 95 = .ok (.iadd, 1) := by decide +kernel
theorem dX8_street_96 : decode cX8_street 96 = .ok (.iastore, 1) := by decide +kernel
theorem dX8_street_97 : decode cX8_street 97 = .ok (.aload_n 0, 1) := by decide +kernel
theorem dX8_street_98 : decode cX8_street 98 = .ok (.getfield 90, 3) := by decide +kernel
theorem dX8_street_101 : decode cX8_street 101 = .ok (.iload 7, 2) := by decide +kernel
theorem dX8_street_103 : decode cX8_street 103 = .ok (.iload 5, 2) := by decide +kernel
theorem dX8_street_105 : decode cX8_street 105 = .ok (.iastore, 1) := by decide +kernel
theorem dX8_street_106 : decode cX8_street 106 = .ok (.aload_n 0, 1) := by decide +kernel
theorem dX8_street_107 : decode cX8_street 107 = .ok (.getfield 93, 3) := by decide +kernel
theorem dX8_street_110 : decode cX8_street 110 = .ok (.iload 7, 2) := by decide +kernel
theorem dX8_street_112 : decode cX8_street 112 = .ok (.iload 6, 2) := by decide +kernel
theorem dX8_street_114 : decode cX8_street 114 = .ok (.iastore, 1) := by decide +kernel
theorem dX8_street_115 : decode cX8_street 115 = .ok (.iconst 1, 1) := by decide +kernel
theorem dX8_street_116 : decode cX8_street 116 = .ok (.ireturn, 1) := by decide +kernel
theorem dX8_run_0 : decode cX8_run 0 = .ok (.iload_n 1, 1) := by decide +kernel
theorem dX8_run_1 : decode cX8_run 1 = .ok (.iconst 0, 1) := by decide +kernel
theorem dX8_run_2 : decode cX8_run 2 = .ok (.sipush 300, 3) := by decide +kernel
theorem dX8_run_5 : decode cX8_run 5 = .ok (.invokestatic 149, 3) := by decide +kernel
theorem dX8_run_8 : decode cX8_run 8 = .ok (.ifCond .eq 14, 3) := by decide +kernel
theorem dX8_run_11 : decode cX8_run 11 = .ok (.aload_n 0, 1) := by decide +kernel
theorem dX8_run_12 : decode cX8_run 12 = .ok (.getfield 146, 3) := by decide +kernel
theorem dX8_run_15 : decode cX8_run 15 = .ok (.iload_n 1, 1) := by decide +kernel
theorem dX8_run_16 : decode cX8_run 16 = .ok (.iadd, 1) := by decide +kernel
theorem dX8_run_17 : decode cX8_run 17 = .ok (.ldc 239, 2) := by decide +kernel
theorem dX8_run_19 : decode cX8_run 19 = .ok (.if_icmp .le 5, 3) := by decide +kernel
theorem dX8_run_22 : decode cX8_run 22 = .ok (.iconst (-1), 1) := by decide +kernel
theorem dX8_run_23 : decode cX8_run 23 = .ok (.ireturn, 1) := by decide +kernel
theorem dX8_run_24 : decode cX8_run 24 = .ok (.iconst 0, 1) := by decide +kernel
theorem dX8_run_25 : decode cX8_run 25 = .ok (.istore_n 2, 1) := by decide +kernel
theorem dX8_run_26 : decode cX8_run 26 = .ok (.iload_n 2, 1) := by decide +kernel
theorem dX8_run_27 : decode cX8_run 27 = .ok (.iload_n 1, 1) := by decide +kernel
theorem dX8_run_28 : decode cX8_run 28 = .ok (.if_icmp .ge 40, 3) := by decide +kernel
theorem dX8_run_31 : decode cX8_run 31 = .ok (.iconst 0, 1) := by decide +kernel
theorem dX8_run_32 : decode cX8_run 32 = .ok (.istore_n 3, 1) := by decide +kernel
theorem dX8_run_33 : decode cX8_run 33 = .ok (.iload_n 3, 1) := by decide +kernel
theorem dX8_run_34 : decode cX8_run 34 = .ok (.aload_n 0, 1) := by decide +kernel
theorem dX8_run_35 : decode cX8_run 35 = .ok (.getfield 139, 3) := by decide +kernel
theorem dX8_run_38 : decode cX8_run 38 = .ok (.if_icmp .ge 14, 3) := by decide +kernel
theorem dX8_run_41 : decode cX8_run 41 = .ok (.aload_n 0, 1) := by decide +kernel
theorem dX8_run_42 : decode cX8_run 42 = .ok (.iload_n 3, 1) := by decide +kernel
theorem dX8_run_43 : decode cX8_run 43 = .ok (.invokevirtual 240, 3) := by decide +kernel
theorem dX8_run_46 : decode cX8_run 46 = .ok (.iinc 3 1, 3) := by decide +kernel
theorem dX8_run_49 : decode cX8_run 49 = .ok (.goto (-16), 3) := by decide +kernel
theorem dX8_run_52 : decode cX8_run 52 = .ok (.aload_n 0, 1) := by decide +kernel
theorem dX8_run_53 : decode cX8_run 53 = .ok (.dup, 1) := by decide +kernel
theorem dX8_run_54 : decode cX8_run 54 = .ok (.getfield 146, 3) := by decide +kernel
theorem dX8_run_57 : decode cX8_run 57 = .ok (.iconst 1, 1) := by decide +kernel
theorem dX8_run_58 : decode cX8_run 58 = .ok (.iadd, 1) := by decide +kernel
theorem dX8_run_59 : decode cX8_run 59 = .ok (.putfield 146, 3) := by decide +kernel
theorem dX8_run_62 : decode cX8_run 62 = .ok (.iinc 2 1, 3) := by decide +kernel
theorem dX8_run_65 : decode cX8_run 65 = .ok (.goto (-39), 3) := by decide +kernel
theorem dX8_run_68 : decode cX8_run 68 = .ok (.aload_n 0, 1) := by decide +kernel
theorem dX8_run_69 : decode cX8_run 69 = .ok (.getfield 146, 3) := by decide +kernel
theorem dX8_run_72 : decode cX8_run 72 = .ok (.ireturn, 1) := by decide +kernel
theorem dX8_runJunction_0 : decode cX8_runJunction 0 = .ok (.bipush 8, 2) := by decide +kernel
theorem dX8_runJunction_2 : decode cX8_runJunction 2 = .ok (.iload_n 1, 1) := by decide +kernel
theorem dX8_runJunction_3 : decode cX8_runJunction 3 = .ok (.iadd, 1) := by decide +kernel
theorem dX8_runJunction_4 : decode cX8_runJunction 4 = .ok (.istore_n 2, 1) := by decide +kernel
theorem dX8_runJunction_5 : decode cX8_runJunction 5 = .ok (.iconst 0, 1) := by decide +kernel
theorem dX8_runJunction_6 : decode cX8_runJunction 6 = .ok (.istore_n 3, 1) := by decide +kernel
theorem dX8_runJunction_7 : decode cX8_runJunction 7 = .ok (.aload_n 0, 1) := by decide +kernel
theorem dX8_runJunction_8 : decode cX8_runJunction 8 = .ok (.getfield 32, 3) := by decide +kernel
theorem dX8_runJunction_11 : decode cX8_runJunction 11 = .ok (.iload_n 2, 1) := by decide +kernel
theorem dX8_runJunction_12 : decode cX8_runJunction 12 = .ok (.baload, 1) := by decide +kernel
theorem dX8_runJunction_13 : decode cX8_runJunction 13 = .ok (.ifCond .eq 87, 3) := by decide +kernel
theorem dX8_runJunction_16 : decode cX8_runJunction 16 = .ok (.bipush 90, 2) := by decide +kernel
theorem dX8_runJunction_18 : decode cX8_runJunction 18 = .ok (.iload_n 2, 1) := by decide +kernel
theorem dX8_runJunction_19 : decode cX8_runJunction 19 = .ok (.imul, 1) := by decide +kernel
theorem dX8_runJunction_20 : decode cX8_runJunction 20 = .ok (.aload_n 0, 1) := by decide +kernel
theorem dX8_runJunction_21 : decode cX8_runJunction 21 = .ok (.getfield 146, 3) := by decide +kernel
theorem dX8_runJunction_24 : decode cX8_runJunction 24 = .ok (.aload_n 0, 1) := by decide +kernel
theorem dX8_runJunction_25 : decode cX8_runJunction 25 = .ok (.getfield 47, 3) := by decide +kernel
theorem dX8_runJunction_28 : decode cX8_runJunction 28 = .ok (.iload_n 2, 1) := by decide +kernel
theorem dX8_runJunction_29 : decode cX8_runJunction 29 = .ok (.iaload, 1) := by decide +kernel
theorem dX8_runJunction_30 : decode cX8_runJunction 30 = .ok (.isub, 1) := by decide +kernel
theorem dX8_runJunction_31 : decode cX8_runJunction 31 = .ok (.aload_n 0, 1) := by decide +kernel
theorem dX8_runJunction_32 : decode cX8_runJunction 32 = .ok (.getfield 35, 3) := by decide +kernel
theorem dX8_runJunction_35 : decode cX8_runJunction 35 = .ok (.iload_n 2, 1) := by decide +kernel
theorem dX8_runJunction_36 : decode cX8_runJunction 36 = .ok (.iaload, 1) := by decide +kernel
theorem dX8_runJunction_37 : decode cX8_runJunction 37 = .ok (.invokestatic 185, 3) := by decide +kernel
theorem dX8_runJunction_40 : decode cX8_runJunction 40 = .ok (.iadd, 1) := by decide +kernel
theorem dX8_runJunction_41 : decode cX8_runJunction 41 = .ok (.istore 4, 2) := by decide +kernel
theorem dX8_runJunction_43 : decode cX8_runJunction 43 = .ok (.aload_n 0, 1) := by decide +kernel
theorem dX8_runJunction_44 : decode cX8_runJunction 44 = .ok (.getfield 72, 3) := by decide +kernel
theorem dX8_runJunction_47 : decode cX8_runJunction 47 = .ok (.iload 4, 2) := by decide +kernel
theorem dX8_runJunction_49 : decode cX8_runJunction 49 = .ok (.iaload, 1) := by decide +kernel
theorem dX8_runJunction_50 : decode cX8_runJunction 50 = .ok (.aload_n 0, 1) := by decide +kernel
theorem dX8_runJunction_51 : decode cX8_runJunction 51 = .ok (.getfield 50, 3) := by decide +kernel
theorem dX8_runJunction_54 : decode cX8_runJunction 54 = .ok (.iload_n 1, 1) := by decide +kernel
theorem dX8_runJunction_55 : decode cX8_runJunction 55 = .ok (.iaload, 1) := by decide +kernel
theorem dX8_runJunction_56 : decode cX8_runJunction 56 = .ok (.if_icmp .lt 10, 3) := by decide +kernel
theorem dX8_runJunction_59 : decode cX8_runJunction 59 = .ok (.aload_n 0, 1) := by decide +kernel
theorem dX8_runJunction_60 : decode cX8_runJunction 60 = .ok (.getfield 56, 3) := by decide +kernel
theorem dX8_runJunction_63 : decode cX8_runJunction 63 = .ok (.iload_n 1, 1) := by decide +kernel
theorem dX8_runJunction_64 : decode cX8_runJunction 64 = .ok (.iconst 1, 1) := by decide +kernel
theorem dX8_runJunction_65 : decode cX8_runJunction 65 = .ok (.bastore, 1) := by decide +kernel
theorem dX8_runJunction_66 : decode cX8_runJunction 66 = .ok (.aload_n 0, 1) := by decide +kernel
theorem dX8_runJunction_67 : decode cX8_runJunction 67 = .ok (.getfield 56, 3) := by decide +kernel
theorem dX8_runJunction_70 : decode cX8_runJunction 70 = .ok (.iload_n 1, 1) := by decide +kernel
theorem dX8_runJunction_71 : decode cX8_runJunction 71 = .ok (.baload, 1) := by decide +kernel
theorem dX8_runJunction_72 : decode cX8_runJunction 72 = .ok (.ifCond .ne 16, 3) := by decide +kernel
theorem dX8_runJunction_75 : decode cX8_runJunction 75 = .ok (.aload_n 0, 1) := by decide +kernel
theorem dX8_runJunction_76 : decode cX8_runJunction 76 = .ok (.getfield 146, 3) := by decide +kernel
theorem dX8_runJunction_79 : decode cX8_runJunction 79 = .ok (.aload_n 0, 1) := by decide +kernel
theorem dX8_runJunction_80 : decode cX8_runJunction 80 = .ok (.getfield 53, 3) := by decide +kernel
theorem dX8_runJunction_83 : decode cX8_runJunction 83 = .ok (.iload_n 1, 1) := by decide +kernel
theorem dX8_runJunction_84 : decode cX8_runJunction 84 = .ok (.iaload, 1) := by decide +kernel
theorem dX8_runJunction_85 : decode cX8_runJunction 85 = .ok (.if_icmp .ge 7, 3) := by decide +kernel
theorem dX8_runJunction_88 : decode cX8_runJunction 88 = .ok (.iconst 0, 1) := by decide +kernel
theorem dX8_runJunction_89 : decode cX8_runJunction 89 = .ok (.goto 10, 3) := by decide +kernel
theorem dX8_runJunction_92 : decode cX8_runJunction 92 = .ok (.aload_n 0, 1) := by decide +kernel
theorem dX8_runJunction_93 : decode cX8_runJunction 93 = .ok (.getfield 69, 3) := by decide +kernel
theorem dX8_runJunction_96 : decode cX8_runJunction 96 = .ok (.iload 4, 2) := by decide +kernel
theorem dX8_runJunction_98 : decode cX8_runJunction 98 = .ok (.iaload, 1) := by decide +kernel
theorem dX8_runJunction_99 : decode cX8_runJunction 99 = .ok (.istore_n 3, 1) := by decide +kernel
theorem dX8_runJunction_100 : decode cX8_runJunction 100 = .ok (.aload_n 0, 1) := by decide +kernel
theorem dX8_runJunction_101 : decode cX8_runJunction 101 = .ok (.getfield 130, 3) := by decide +kernel
theorem dX8_runJunction_104 : decode cX8_runJunction 104 = .ok (.sipush 200, 3) := by decide +kernel
theorem dX8_runJunction_107 : decode cX8_runJunction 107 = .ok (.iload_n 1, 1) := by decide +kernel
theorem dX8_runJunction_108 : decode cX8_runJunction 108 = .ok (.imul, 1) := by decide +kernel
theorem dX8_runJunction_109 : decode cX8_runJunction 109 = .ok (.aload_n 0, 1) := by decide +kernel
theorem dX8_runJunction_110 : decode cX8_runJunction 110 = .ok (.getfield 146, 3) := by decide +kernel
theorem dX8_runJunction_113 : decode cX8_runJunction 113 = .ok (.sipush 200, 3) := by decide +kernel
theorem dX8_runJunction_116 : decode cX8_runJunction 116 = .ok (.irem, 1) := by decide +kernel
theorem dX8_runJunction_117 : decode cX8_runJunction 117 = .ok (.iadd, 1) := by decide +kernel
theorem dX8_runJunction_118 : decode cX8_runJunction 118 = .ok (.iload_n 3, 1) := by decide +kernel
theorem dX8_runJunction_119 : decode cX8_runJunction 119 = .ok (.iastore, 1) := by decide +kernel
theorem dX8_runJunction_120 : decode cX8_runJunction 120 = .ok (.iconst 0, 1) := by decide +kernel
theorem dX8_runJunction_121 : decode cX8_runJunction 121 = .ok (.istore 4, 2) := by decide +kernel
theorem dX8_runJunction_123 : decode cX8_runJunction 123 = .ok (.iload 4, 2) := by decide +kernel
theorem dX8_runJunction_125 : decode cX8_runJunction 125 = .ok (.aload_n 0, 1) := by decide +kernel
theorem dX8_runJunction_126 : decode cX8_runJunction 126 = .ok (.getfield 7, 3) := by decide +kernel
theorem dX8_runJunction_129 : decode cX8_runJunction 129 = .ok (.iload_n 1, 1) := by decide +kernel
theorem dX8_runJunction_130 : decode cX8_runJunction 130 = .ok (.iaload, 1) := by decide +kernel
theorem dX8_runJunction_131 : decode cX8_runJunction 131 = .ok (.if_icmp .ge 35, 3) := by decide +kernel
theorem dX8_runJunction_134 : decode cX8_runJunction 134 = .ok (.aload_n 0, 1) := by decide +kernel
theorem dX8_runJunction_135 : decode cX8_runJunction 135 = .ok (.bipush 8, 2) := by decide +kernel
theorem dX8_runJunction_137 : decode cX8_runJunction 137 = .ok (.iload_n 1, 1) := by decide +kernel
theorem dX8_runJunction_138 : decode cX8_runJunction 138 = .ok (.imul, 1) := by decide +kernel
theorem dX8_runJunction_139 : decode cX8_runJunction 139 = .ok (.iload 4, 2) := by decide +kernel
theorem dX8_runJunction_141 : decode cX8_runJunction 141 = .ok (.iadd, 1) := by decide +kernel
theorem dX8_runJunction_142 : decode cX8_runJunction 142 = .ok (.iload_n 3, 1) := by decide +kernel
theorem dX8_runJunction_143 : decode cX8_runJunction 143 = .ok (.iload 4, 2) := by decide +kernel
theorem dX8_runJunction_145 : decode cX8_runJunction 145 = .ok (.ishr, 1) := by decide +kernel
theorem dX8_runJunction_146 : decode cX8_runJunction 146 = .ok (.iconst 1, 1) := by decide +kernel
theorem dX8_runJunction_147 : decode cX8_runJunction 147 = .ok (.iand, 1) := by decide +kernel
theorem dX8_runJunction_148 : decode cX8_runJunction 148 = .ok (.iconst 1, 1) := by decide +kernel
theorem dX8_runJunction_149 : decode cX8_runJunction 149 = .ok (.if_icmp .ne 7, 3) := by decide +kernel
theorem dX8_runJunction_152 : decode cX8_runJunction 152 = .ok (.iconst 1, 1) := by decide +kernel
theorem dX8_runJunction_153 : decode cX8_runJunction 153 = .ok (.goto 4, 3) := by decide +kernel
theorem dX8_runJunction_156 : decode cX8_runJunction 156 = .ok (.iconst 0, 1) := by decide +kernel
theorem dX8_runJunction_157 : decode cX8_runJunction 157 = .ok (.invokevirtual 243, 3) := by decide +kernel
theorem dX8_runJunction_160 : decode cX8_runJunction 160 = .ok (.iinc 4 1, 3) := by decide +kernel
theorem dX8_runJunction_163 : decode cX8_runJunction 163 = .ok (.goto (-40), 3) := by decide +kernel
theorem dX8_runJunction_166 : decode cX8_runJunction 166 = .ok (.return_, 1) := by decide +kernel
theorem dX8_comes_0 : decode cX8_comes 0 = .ok (.aload_n 0, 1) := by decide +kernel
theorem dX8_comes_1 : decode cX8_comes 1 = .ok (.getfield 112, 3) := by decide +kernel
theorem dX8_comes_4 : decode cX8_comes 4 = .ok (.iload_n 1, 1) := by decide +kernel
theorem dX8_comes_5 : decode cX8_comes 5 = .ok (.dup2, 1) := by decide +kernel
theorem dX8_comes_6 : decode cX8_comes 6 = .ok (.laload, 1) := by decide +kernel
theorem dX8_comes_7 : decode cX8_comes 7 = .ok (.lconst 1, 1) := by decide +kernel
theorem dX8_comes_8 : decode cX8_comes 8 = .ok (.ladd, 1) := by decide +kernel
theorem dX8_comes_9 : decode cX8_comes 9 = .ok (.lastore, 1) := by decide +kernel
theorem dX8_comes_10 : decode cX8_comes 10 = .ok (.iload_n 2, 1) := by decide +kernel
theorem dX8_comes_11 : decode cX8_comes 11 = .ok (.ifCond .eq 14, 3) := by decide +kernel
theorem dX8_comes_14 : decode cX8_comes 14 = .ok (.aload_n 0, 1) := by decide +kernel
theorem dX8_comes_15 : decode cX8_comes 15 = .ok (.getfield 108, 3) := by decide +kernel
theorem dX8_comes_18 : decode cX8_comes 18 = .ok (.iload_n 1, 1) := by decide +kernel
theorem dX8_comes_19 : decode cX8_comes 19 = .ok (.laload, 1) := by decide +kernel
theorem dX8_comes_20 : decode cX8_comes 20 = .ok (.lconst 0, 1) := by decide +kernel
theorem dX8_comes_21 : decode cX8_comes 21 = .ok (.lcmp, 1) := by decide +kernel
theorem dX8_comes_22 : decode cX8_comes 22 = .ok (.ifCond .le 13, 3) := by decide +kernel
theorem dX8_comes_25 : decode cX8_comes 25 = .ok (.aload_n 0, 1) := by decide +kernel
theorem dX8_comes_26 : decode cX8_comes 26 = .ok (.getfield 121, 3) := by decide +kernel
theorem dX8_comes_29 : decode cX8_comes 29 = .ok (.iload_n 1, 1) := by decide +kernel
theorem dX8_comes_30 : decode cX8_comes 30 = .ok (.dup2, 1) := by decide +kernel
theorem dX8_comes_31 : decode cX8_comes 31 = .ok (.laload, 1) := by decide +kernel
theorem dX8_comes_32 : decode cX8_comes 32 = .ok (.lconst 1, 1) := by decide +kernel
theorem dX8_comes_33 : decode cX8_comes 33 = .ok (.ladd, 1) := by decide +kernel
theorem dX8_comes_34 : decode cX8_comes 34 = .ok (.lastore, 1) := by decide +kernel
theorem dX8_comes_35 : decode cX8_comes 35 = .ok (.aload_n 0, 1) := by decide +kernel
theorem dX8_comes_36 : decode cX8_comes 36 = .ok (.getfield 108, 3) := by decide +kernel
theorem dX8_comes_39 : decode cX8_comes 39 = .ok (.iload_n 1, 1) := by decide +kernel
theorem dX8_comes_40 : decode cX8_comes 40 = .ok (.dup2, 1) := by decide +kernel
theorem dX8_comes_41 : decode cX8_comes 41 = .ok (.laload, 1) := by decide +kernel
theorem dX8_comes_42 : decode cX8_comes 42 = .ok (.lconst 1, 1) := by decide +kernel
theorem dX8_comes_43 : decode cX8_comes 43 = .ok (.ladd, 1) := by decide +kernel
theorem dX8_comes_44 : decode cX8_comes 44 = .ok (.lastore, 1) := by decide +kernel
theorem dX8_comes_45 : decode cX8_comes 45 = .ok (.return_, 1) := by decide +kernel
theorem dX8_runStream_0 : decode cX8_runStream 0 = .ok (.aload_n 0, 1) := by decide +kernel
theorem dX8_runStream_1 : decode cX8_runStream 1 = .ok (.getfield 102, 3) := by decide +kernel
theorem dX8_runStream_4 : decode cX8_runStream 4 = .ok (.iload_n 1, 1) := by decide +kernel
theorem dX8_runStream_5 : decode cX8_runStream 5 = .ok (.dup2, 1) := by decide +kernel
theorem dX8_runStream_6 : decode cX8_runStream 6 = .ok (.iaload, 1) := by decide +kernel
theorem dX8_runStream_7 : decode cX8_runStream 7 = .ok (.aload_n 0, 1) := by decide +kernel
theorem dX8_runStream_8 : decode cX8_runStream 8 = .ok (.getfield 16, 3) := by decide +kernel
theorem dX8_runStream_11 : decode cX8_runStream 11 = .ok (.iload_n 1, 1) := by decide +kernel
theorem dX8_runStream_12 : decode cX8_runStream 12 = .ok (.iaload, 1) := by decide +kernel
theorem dX8_runStream_13 : decode cX8_runStream 13 = .ok (.iadd, 1) := by decide +kernel
theorem dX8_runStream_14 : decode cX8_runStream 14 = .ok (.iastore, 1) := by decide +kernel
theorem dX8_runStream_15 : decode cX8_runStream 15 = .ok (.aload_n 0, 1) := by decide +kernel
theorem dX8_runStream_16 : decode cX8_runStream 16 = .ok (.getfield 102, 3) := by decide +kernel
theorem dX8_runStream_19 : decode cX8_runStream 19 = .ok (.iload_n 1, 1) := by decide +kernel
theorem dX8_runStream_20 : decode cX8_runStream 20 = .ok (.iaload, 1) := by decide +kernel
theorem dX8_runStream_21 : decode cX8_runStream 21 = .ok (.sipush 3600, 3) := by decide +kernel
theorem dX8_runStream_24 : decode cX8_runStream 24 = .ok (.if_icmp .lt 21, 3) := by decide +kernel
theorem dX8_runStream_27 : decode cX8_runStream 27 = .ok (.aload_n 0, 1) := by decide +kernel
theorem dX8_runStream_28 : decode cX8_runStream 28 = .ok (.getfield 102, 3) := by decide +kernel
theorem dX8_runStream_31 : decode cX8_runStream 31 = .ok (.iload_n 1, 1) := by decide +kernel
theorem dX8_runStream_32 : decode cX8_runStream 32 = .ok (.dup2, 1) := by decide +kernel
theorem dX8_runStream_33 : decode cX8_runStream 33 = .ok (.iaload, 1) := by decide +kernel
theorem dX8_runStream_34 : decode cX8_runStream 34 = .ok (.sipush 3600, 3) := by decide +kernel
theorem dX8_runStream_37 : decode cX8_runStream 37 = .ok (.isub, 1) := by decide +kernel
theorem dX8_runStream_38 : decode cX8_runStream 38 = .ok (.iastore, 1) := by decide +kernel
theorem dX8_runStream_39 : decode cX8_runStream 39 = .ok (.aload_n 0, 1) := by decide +kernel
theorem dX8_runStream_40 : decode cX8_runStream 40 = .ok (.iload_n 1, 1) := by decide +kernel
theorem dX8_runStream_41 : decode cX8_runStream 41 = .ok (.iload_n 2, 1) := by decide +kernel
theorem dX8_runStream_42 : decode cX8_runStream 42 = .ok (.invokevirtual 247, 3) := by decide +kernel
theorem dX8_runStream_45 : decode cX8_runStream 45 = .ok (.iconst 0, 1) := by decide +kernel
theorem dX8_runStream_46 : decode cX8_runStream 46 = .ok (.istore_n 3, 1) := by decide +kernel
theorem dX8_runStream_47 : decode cX8_runStream 47 = .ok (.iload_n 3, 1) := by decide +kernel
theorem dX8_runStream_48 : decode cX8_runStream 48 = .ok (.bipush 64, 2) := by decide +kernel
theorem dX8_runStream_50 : decode cX8_runStream 50 = .ok (.if_icmp .ge 121, 3) := by decide +kernel
theorem dX8_runStream_53 : decode cX8_runStream 53 = .ok (.aload_n 0, 1) := by decide +kernel
theorem dX8_runStream_54 : decode cX8_runStream 54 = .ok (.getfield 84, 3) := by decide +kernel
theorem dX8_runStream_57 : decode cX8_runStream 57 = .ok (.iload_n 3, 1) := by decide +kernel
theorem dX8_runStream_58 : decode cX8_runStream 58 = .ok (.baload, 1) := by decide +kernel
theorem dX8_runStream_59 : decode cX8_runStream 59 = .ok (.ifCond .eq 106, 3) := by decide +kernel
theorem dX8_runStream_62 : decode cX8_runStream 62 = .ok (.aload_n 0, 1) := by decide +kernel
theorem dX8_runStream_63 : decode cX8_runStream 63 = .ok (.getfield 87, 3) := by decide +kernel
theorem dX8_runStream_66 : decode cX8_runStream 66 = .ok (.iload_n 3, 1) := by decide +kernel
theorem dX8_runStream_67 : decode cX8_runStream 67 = .ok (.iaload, 1) := by decide +kernel
theorem dX8_runStream_68 : decode cX8_runStream 68 = .ok (.iload_n 1, 1) := by decide +kernel
theorem dX8_runStream_69 : decode cX8_runStream 69 = .ok (.if_icmp .eq 6, 3) := by decide +kernel
theorem dX8_runStream_72 : decode cX8_runStream 72 = .ok (.goto 93, 3) := by decide +kernel
theorem dX8_runStream_75 : decode cX8_runStream 75 = .ok (.aload_n 0, 1) := by decide +kernel
theorem dX8_runStream_76 : decode cX8_runStream 76 = .ok (.getfield 96, 3) := by decide +kernel
theorem dX8_runStream_79 : decode cX8_runStream 79 = .ok (.iload_n 3, 1) := by decide +kernel
theorem dX8_runStream_80 : decode cX8_runStream 80 = .ok (.iaload, 1) := by decide +kernel
theorem dX8_runStream_81 : decode cX8_runStream 81 = .ok (.ifCond .le 84, 3) := by decide +kernel
theorem dX8_runStream_84 : decode cX8_runStream 84 = .ok (.aload_n 0, 1) := by decide +kernel
theorem dX8_runStream_85 : decode cX8_runStream 85 = .ok (.getfield 99, 3) := by decide +kernel
theorem dX8_runStream_88 : decode cX8_runStream 88 = .ok (.bipush 60, 2) := by decide +kernel
theorem dX8_runStream_90 : decode cX8_runStream 90 = .ok (.iload_n 3, 1) := by decide +kernel
theorem dX8_runStream_91 : decode cX8_runStream 91 = .ok (.imul, 1) := by decide +kernel
theorem dX8_runStream_92 : decode cX8_runStream 92 = .ok (.iaload, 1) := by decide +kernel
theorem dX8_runStream_93 : decode cX8_runStream 93 = .ok (.aload_n 0, 1) := by decide +kernel
theorem dX8_runStream_94 : decode cX8_runStream 94 = .ok (.getfield 146, 3) := by decide +kernel
theorem dX8_runStream_97 : decode cX8_runStream 97 = .ok (.if_icmp .gt 68, 3) := by decide +kernel
theorem dX8_runStream_100 : decode cX8_runStream 100 = .ok (.aload_n 0, 1) := by decide +kernel
theorem dX8_runStream_101 : decode cX8_runStream 101 = .ok (.getfield 96, 3) := by decide +kernel
theorem dX8_runStream_104 : decode cX8_runStream 104 = .ok (.iload_n 3, 1) := by decide +kernel
theorem dX8_runStream_105 : decode cX8_runStream 105 = .ok (.dup2, 1) := by decide +kernel
theorem dX8_runStream_106 : decode cX8_runStream 106 = .ok (.iaload, 1) := by decide +kernel
theorem dX8_runStream_107 : decode cX8_runStream 107 = .ok (.iconst 1, 1) := by decide +kernel
theorem dX8_runStream_108 : decode cX8_runStream 108 = .ok (.isub, 1) := by decide +kernel
theorem dX8_runStream_109 : decode cX8_runStream 109 = .ok (.iastore, 1) := by decide +kernel
theorem dX8_runStream_110 : decode cX8_runStream 110 = .ok (.iconst 0, 1) := by decide +kernel
theorem dX8_runStream_111 : decode cX8_runStream 111 = .ok (.istore 4, 2) := by decide +kernel
theorem dX8_runStream_113 : decode cX8_runStream 113 = .ok (.iload 4, 2) := by decide +kernel
theorem dX8_runStream_115 : decode cX8_runStream 115 = .ok (.aload_n 0, 1) := by decide +kernel
theorem dX8_runStream_116 : decode cX8_runStream 116 = .ok (.getfield 96, 3) := by decide +kernel
theorem dX8_runStream_119 : decode cX8_runStream 119 = .ok (.iload_n 3, 1) := by decide +kernel
theorem dX8_runStream_120 : decode cX8_runStream 120 = .ok (.iaload, 1) := by decide +kernel
theorem dX8_runStream_121 : decode cX8_runStream 121 = .ok (.if_icmp .ge 35, 3) := by decide +kernel
theorem dX8_runStream_124 : decode cX8_runStream 124 = .ok (.aload_n 0, 1) := by decide +kernel
theorem dX8_runStream_125 : decode cX8_runStream 125 = .ok (.getfield 99, 3) := by decide +kernel
theorem dX8_runStream_128 : decode cX8_runStream 128 = .ok (.bipush 60, 2) := by decide +kernel
theorem dX8_runStream_130 : decode cX8_runStream 130 = .ok (.iload_n 3, 1) := by decide +kernel
theorem dX8_runStream_131 : decode cX8_runStream 131 = .ok (.imul, 1) := by decide +kernel
theorem dX8_runStream_132 : decode cX8_runStream 132 = .ok (.iload 4, 2) := by decide +kernel
theorem dX8_runStream_134 : decode cX8_runStream 134 = .ok (.iadd, 1) := by decide +kernel
theorem dX8_runStream_135 : decode cX8_runStream 135 = .ok (.aload_n 0, 1) := by decide +kernel
theorem dX8_runStream_136 : decode cX8_runStream 136 = .ok (.getfield 99, 3) := by decide +kernel
theorem dX8_runStream_139 : decode cX8_runStream 139 = .ok (.bipush 60, 2) := by decide +kernel
theorem dX8_runStream_141 : decode cX8_runStream 141 = .ok (.iload_n 3, 1) := by decide +kernel
theorem dX8_runStream_142 : decode cX8_runStream 142 = .ok (.imul, 1) := by decide +kernel
theorem dX8_runStream_143 : decode cX8_runStream 143 = .ok (.iload 4, 2) := by decide +kernel
theorem dX8_runStream_145 : decode cX8_runStream 145 = .ok (.iadd, 1) := by decide +kernel
theorem dX8_runStream_146 : decode cX8_runStream 146 = .ok (.iconst 1, 1) := by decide +kernel
theorem dX8_runStream_147 : decode cX8_runStream 147 = .ok (.iadd, 1) := by decide +kernel
theorem dX8_runStream_148 : decode cX8_runStream 148 = .ok (.iaload, 1) := by decide +kernel
theorem dX8_runStream_149 : decode cX8_runStream 149 = .ok (.iastore, 1) := by decide +kernel
theorem dX8_runStream_150 : decode cX8_runStream 150 = .ok (.iinc 4 1, 3) := by decide +kernel
theorem dX8_runStream_153 : decode cX8_runStream 153 = .ok (.goto (-40), 3) := by decide +kernel
theorem dX8_runStream_156 : decode cX8_runStream 156 = .ok (.aload_n 0, 1) := by decide +kernel
theorem dX8_runStream_157 : decode cX8_runStream 157 = .ok (.iload_n 1, 1) := by decide +kernel
theorem dX8_runStream_158 : decode cX8_runStream 158 = .ok (.iload_n 2, 1) := by decide +kernel
theorem dX8_runStream_159 : decode cX8_runStream 159 = .ok (.invokevirtual 247, 3) := by decide +kernel
theorem dX8_runStream_162 : decode cX8_runStream 162 = .ok (.goto (-87), 3) := by decide +kernel
theorem dX8_runStream_165 : decode cX8_runStream 165 = .ok (.iinc 3 1, 3) := by decide +kernel
theorem dX8_runStream_168 : decode cX8_runStream 168 = .ok (.goto (-121), 3) := by decide +kernel
theorem dX8_runStream_171 : decode cX8_runStream 171 = .ok (.aload_n 0, 1) := by decide +kernel
theorem dX8_runStream_172 : decode cX8_runStream 172 = .ok (.getfield 105, 3) := by decide +kernel
theorem dX8_runStream_175 : decode cX8_runStream 175 = .ok (.iload_n 1, 1) := by decide +kernel
theorem dX8_runStream_176 : decode cX8_runStream 176 = .ok (.iload_n 2, 1) := by decide +kernel
theorem dX8_runStream_177 : decode cX8_runStream 177 = .ok (.ifCond .eq 19, 3) := by decide +kernel
theorem dX8_runStream_180 : decode cX8_runStream 180 = .ok (.aload_n 0, 1) := by decide +kernel
theorem dX8_runStream_181 : decode cX8_runStream 181 = .ok (.getfield 105, 3) := by decide +kernel
theorem dX8_runStream_184 : decode cX8_runStream 184 = .ok (.iload_n 1, 1) := by decide +kernel
theorem dX8_runStream_185 : decode cX8_runStream 185 = .ok (.iaload, 1) := by decide +kernel
theorem dX8_runStream_186 : decode cX8_runStream 186 = .ok (.aload_n 0, 1) := by decide +kernel
theorem dX8_runStream_187 : decode cX8_runStream 187 = .ok (.getfield 19, 3) := by decide +kernel
theorem dX8_runStream_190 : decode cX8_runStream 190 = .ok (.iload_n 1, 1) := by decide +kernel
theorem dX8_runStream_191 : decode cX8_runStream 191 = .ok (.iaload, 1) := by decide +kernel
theorem dX8_runStream_192 : decode cX8_runStream 192 = .ok (.iadd, 1) := by decide +kernel
theorem dX8_runStream_193 : decode cX8_runStream 193 = .ok (.goto 4, 3) := by decide +kernel
theorem dX8_runStream_196 : decode cX8_runStream 196 = .ok (.iconst 0, 1) := by decide +kernel
theorem dX8_runStream_197 : decode cX8_runStream 197 = .ok (.iastore, 1) := by decide +kernel
theorem dX8_runStream_198 : decode cX8_runStream 198 = .ok (.aload_n 0, 1) := by decide +kernel
theorem dX8_runStream_199 : decode cX8_runStream 199 = .ok (.getfield 105, 3) := by decide +kernel
theorem dX8_runStream_202 : decode cX8_runStream 202 = .ok (.iload_n 1, 1) := by decide +kernel
theorem dX8_runStream_203 : decode cX8_runStream 203 = .ok (.iaload, 1) := by decide +kernel
theorem dX8_runStream_204 : decode cX8_runStream 204 = .ok (.sipush 3600, 3) := by decide +kernel
theorem dX8_runStream_207 : decode cX8_runStream 207 = .ok (.if_icmp .lt 100, 3) := by decide +kernel
theorem dX8_runStream_210 : decode cX8_runStream 210 = .ok (.aload_n 0, 1) := by decide +kernel
theorem dX8_runStream_211 : decode cX8_runStream 211 = .ok (.getfield 108, 3) := by decide +kernel
theorem dX8_runStream_214 : decode cX8_runStream 214 = .ok (.iload_n 1, 1) := by decide +kernel
theorem dX8_runStream_215 : decode cX8_runStream 215 = .ok (.laload, 1) := by decide +kernel
theorem dX8_runStream_216 : decode cX8_runStream 216 = .ok (.lconst 0, 1) := by decide +kernel
theorem dX8_runStream_217 : decode cX8_runStream 217 = .ok (.lcmp, 1) := by decide +kernel
theorem dX8_runStream_218 : decode cX8_runStream 218 = .ok (.ifCond .le 89, 3) := by decide +kernel
theorem dX8_runStream_221 : decode cX8_runStream 221 = .ok (.aload_n 0, 1) := by decide +kernel
theorem dX8_runStream_222 : decode cX8_runStream 222 = .ok (.iload_n 1, 1) := by decide +kernel
theorem dX8_runStream_223 : decode cX8_runStream 223 = .ok (.invokevirtual 250, 3) := by decide +kernel
theorem dX8_runStream_226 : decode cX8_runStream 226 = .ok (.ifCond .ne 81, 3) := by decide +kernel
theorem dX8_runStream_229 : decode cX8_runStream 229 = .ok (.aload_n 0, 1) := by decide +kernel
theorem dX8_runStream_230 : decode cX8_runStream 230 = .ok (.getfield 105, 3) := by decide +kernel
theorem dX8_runStream_233 : decode cX8_runStream 233 = .ok (.iload_n 1, 1) := by decide +kernel
theorem dX8_runStream_234 : decode cX8_runStream 234 = .ok (.dup2, 1) := by decide +kernel
theorem dX8_runStream_235 : decode cX8_runStream 235 = .ok (.iaload, 1) := by decide +kernel
theorem dX8_runStream_236 : decode cX8_runStream 236 = .ok (.sipush 3600, 3) := by decide +kernel
theorem dX8_runStream_239 : decode cX8_runStream 239 = .ok (.isub, 1) := by decide +kernel
theorem dX8_runStream_240 : decode cX8_runStream 240 = .ok (.iastore, 1) := by decide +kernel
theorem dX8_runStream_241 : decode cX8_runStream 241 = .ok (.aload_n 0, 1) := by decide +kernel
theorem dX8_runStream_242 : decode cX8_runStream 242 = .ok (.getfield 108, 3) := by decide +kernel
theorem dX8_runStream_245 : decode cX8_runStream 245 = .ok (.iload_n 1, 1) := by decide +kernel
theorem dX8_runStream_246 : decode cX8_runStream 246 = .ok (.dup2, 1) := by decide +kernel
theorem dX8_runStream_247 : decode cX8_runStream 247 = .ok (.laload, 1) := by decide +kernel
theorem dX8_runStream_248 : decode cX8_runStream 248 = .ok (.lconst 1, 1) := by decide +kernel
theorem dX8_runStream_249 : decode cX8_runStream 249 = .ok (.lsub, 1) := by decide +kernel
theorem dX8_runStream_250 : decode cX8_runStream 250 = .ok (.lastore, 1) := by decide +kernel
theorem dX8_runStream_251 : decode cX8_runStream 251 = .ok (.aload_n 0, 1) := by decide +kernel
theorem dX8_runStream_252 : decode cX8_runStream 252 = .ok (.getfield 115, 3) := by decide +kernel
theorem dX8_runStream_255 : decode cX8_runStream 255 = .ok (.iload_n 1, 1) := by decide +kernel
theorem dX8_runStream_256 : decode cX8_runStream 256 = .ok (.dup2, 1) := by decide +kernel
theorem dX8_runStream_257 : decode cX8_runStream 257 = .ok (.laload, 1) := by decide +kernel
theorem dX8_runStream_258 : decode cX8_runStream 258 = .ok (.lconst 1, 1) := by decide +kernel
theorem dX8_runStream_259 : decode cX8_runStream 259 = .ok (.ladd, 1) := by decide +kernel
theorem dX8_runStream_260 : decode cX8_runStream 260 = .ok (.lastore, 1) := by decide +kernel
theorem dX8_runStream_261 : decode cX8_runStream 261 = .ok (.aload_n 0, 1) := by decide +kernel
theorem dX8_runStream_262 : decode cX8_runStream 262 = .ok (.getfield 84, 3) := by decide +kernel
theorem dX8_runStream_265 : decode cX8_runStream 265 = .ok (.iload_n 1, 1) := by decide +kernel
theorem dX8_runStream_266 : decode cX8_runStream 266 = .ok (.baload, 1) := by decide +kernel
theorem dX8_runStream_267 : decode cX8_runStream 267 = .ok (.ifCond .eq 40, 3) := by decide +kernel
theorem dX8_runStream_270 : decode cX8_runStream 270 = .ok (.aload_n 0, 1) := by decide +kernel
theorem dX8_runStream_271 : decode cX8_runStream 271 = .ok (.getfield 99, 3) := by decide +kernel
theorem dX8_runStream_274 : decode cX8_runStream 274 = .ok (.bipush 60, 2) := by decide +kernel
theorem dX8_runStream_276 : decode cX8_runStream 276 = .ok (.iload_n 1, 1) := by decide +kernel
theorem dX8_runStream_277 : decode cX8_runStream 277 = .ok (.imul, 1) := by decide +kernel
theorem dX8_runStream_278 : decode cX8_runStream 278 = .ok (.aload_n 0, 1) := by decide +kernel
theorem dX8_runStream_279 : decode cX8_runStream 279 = .ok (.getfield 96, 3) := by decide +kernel
theorem dX8_runStream_282 : decode cX8_runStream 282 = .ok (.iload_n 1, 1) := by decide +kernel
theorem dX8_runStream_283 : decode cX8_runStream 283 = .ok (.iaload, 1) := by decide +kernel
theorem dX8_runStream_284 : decode cX8_runStream 284 = .ok (.iadd, 1) := by decide +kernel
theorem dX8_runStream_285 : decode cX8_runStream 285 = .ok (.aload_n 0, 1) := by decide +kernel
theorem dX8_runStream_286 : decode cX8_runStream 286 = .ok (.getfield 146, 3) := by decide +kernel
theorem dX8_runStream_289 : decode cX8_runStream 289 = .ok (.aload_n 0, 1) := by decide +kernel
theorem dX8_runStream_290 : decode cX8_runStream 290 = .ok (.getfield 90, 3) := by decide +kernel
theorem dX8_runStream_293 : decode cX8_runStream 293 = .ok (.iload_n 1, 1) := by decide +kernel
theorem dX8_runStream_294 : decode cX8_runStream 294 = .ok (.iaload, 1) := by decide +kernel
theorem dX8_runStream_295 : decode cX8_runStream 295 = .ok (.iadd, 1) := by decide +kernel
theorem dX8_runStream_296 : decode cX8_runStream 296 = .ok (.iastore, 1) := by decide +kernel
theorem dX8_runStream_297 : decode cX8_runStream 297 = .ok (.aload_n 0, 1) := by decide +kernel
theorem dX8_runStream_298 : decode cX8_runStream 298 = .ok (.getfield 96, 3) := by decide +kernel
theorem dX8_runStream_301 : decode cX8_runStream 301 = .ok (.iload_n 1, 1) := by decide +kernel
theorem dX8_runStream_302 : decode cX8_runStream 302 = .ok (.dup2, 1) := by decide +kernel
theorem dX8_runStream_303 : decode cX8_runStream 303 = .ok (.iaload, 1) := by decide +kernel
theorem dX8_runStream_304 : decode cX8_runStream 304 = .ok (.iconst 1, 1) := by decide +kernel
theorem dX8_runStream_305 : decode cX8_runStream 305 = .ok (.iadd, 1) := by decide +kernel
theorem dX8_runStream_306 : decode cX8_runStream 306 = .ok (.iastore, 1) := by decide +kernel
theorem dX8_runStream_307 : decode cX8_runStream 307 = .ok (.aload_n 0, 1) := by decide +kernel
theorem dX8_runStream_308 : decode cX8_runStream 308 = .ok (.getfield 105, 3) := by decide +kernel
theorem dX8_runStream_311 : decode cX8_runStream 311 = .ok (.iload_n 1, 1) := by decide +kernel
theorem dX8_runStream_312 : decode cX8_runStream 312 = .ok (.aload_n 0, 1) := by decide +kernel
theorem dX8_runStream_313 : decode cX8_runStream 313 = .ok (.getfield 105, 3) := by decide +kernel
theorem dX8_runStream_316 : decode cX8_runStream 316 = .ok (.iload_n 1, 1) := by decide +kernel
theorem dX8_runStream_317 : decode cX8_runStream 317 = .ok (.iaload, 1) := by decide +kernel
theorem dX8_runStream_318 : decode cX8_runStream 318 = .ok (.sipush 3600, 3) := by decide +kernel
theorem dX8_runStream_321 : decode cX8_runStream 321 = .ok (.invokestatic 212, 3) := by decide +kernel
theorem dX8_runStream_324 : decode cX8_runStream 324 = .ok (.iastore, 1) := by decide +kernel
theorem dX8_runStream_325 : decode cX8_runStream 325 = .ok (.aload_n 0, 1) := by decide +kernel
theorem dX8_runStream_326 : decode cX8_runStream 326 = .ok (.getfield 118, 3) := by decide +kernel
theorem dX8_runStream_329 : decode cX8_runStream 329 = .ok (.iload_n 1, 1) := by decide +kernel
theorem dX8_runStream_330 : decode cX8_runStream 330 = .ok (.dup2, 1) := by decide +kernel
theorem dX8_runStream_331 : decode cX8_runStream 331 = .ok (.laload, 1) := by decide +kernel
theorem dX8_runStream_332 : decode cX8_runStream 332 = .ok (.aload_n 0, 1) := by decide +kernel
theorem dX8_runStream_333 : decode cX8_runStream 333 = .ok (.getfield 108, 3) := by decide +kernel
theorem dX8_runStream_336 : decode cX8_runStream 336 = .ok (.iload_n 1, 1) := by decide +kernel
theorem dX8_runStream_337 : decode cX8_runStream 337 = .ok (.laload, 1) := by decide +kernel
theorem dX8_runStream_338 : decode cX8_runStream 338 = .ok (.ladd, 1) := by decide +kernel
theorem dX8_runStream_339 : decode cX8_runStream 339 = .ok (.lastore, 1) := by decide +kernel
theorem dX8_runStream_340 : decode cX8_runStream 340 = .ok (.aload_n 0, 1) := by decide +kernel
theorem dX8_runStream_341 : decode cX8_runStream 341 = .ok (.getfield 124, 3) := by decide +kernel
theorem dX8_runStream_344 : decode cX8_runStream 344 = .ok (.iload_n 1, 1) := by decide +kernel
theorem dX8_runStream_345 : decode cX8_runStream 345 = .ok (.aload_n 0, 1) := by decide +kernel
theorem dX8_runStream_346 : decode cX8_runStream 346 = .ok (.getfield 124, 3) := by decide +kernel
theorem dX8_runStream_349 : decode cX8_runStream 349 = .ok (.iload_n 1, 1) := by decide +kernel
theorem dX8_runStream_350 : decode cX8_runStream 350 = .ok (.laload, 1) := by decide +kernel
theorem dX8_runStream_351 : decode cX8_runStream 351 = .ok (.aload_n 0, 1) := by decide +kernel
theorem dX8_runStream_352 : decode cX8_runStream 352 = .ok (.getfield 108, 3) := by decide +kernel
theorem dX8_runStream_355 : decode cX8_runStream 355 = .ok (.iload_n 1, 1) := by decide +kernel
theorem dX8_runStream_356 : decode cX8_runStream 356 = .ok (.laload, 1) := by decide +kernel
theorem dX8_runStream_357 : decode cX8_runStream 357 = .ok (.invokestatic 253, 3) := by decide +kernel
theorem dX8_runStream_360 : decode cX8_runStream 360 = .ok (.lastore, 1) := by decide +kernel
theorem dX8_runStream_361 : decode cX8_runStream 361 = .ok (.aload_n 0, 1) := by decide +kernel
theorem dX8_runStream_362 : decode cX8_runStream 362 = .ok (.getfield 127, 3) := by decide +kernel
theorem dX8_runStream_365 : decode cX8_runStream 365 = .ok (.iload_n 1, 1) := by decide +kernel
theorem dX8_runStream_366 : decode cX8_runStream 366 = .ok (.iload_n 2, 1) := by decide +kernel
theorem dX8_runStream_367 : decode cX8_runStream 367 = .ok (.bastore, 1) := by decide +kernel
theorem dX8_runStream_368 : decode cX8_runStream 368 = .ok (.return_, 1) := by decide +kernel
theorem dX8_isFull_0 : decode cX8_isFull 0 = .ok (.aload_n 0, 1) := by decide +kernel
theorem dX8_isFull_1 : decode cX8_isFull 1 = .ok (.getfield 84, 3) := by decide +kernel
theorem dX8_isFull_4 : decode cX8_isFull 4 = .ok (.iload_n 1, 1) := by decide +kernel
theorem dX8_isFull_5 : decode cX8_isFull 5 = .ok (.baload, 1) := by decide +kernel
theorem dX8_isFull_6 : decode cX8_isFull 6 = .ok (.ifCond .eq 37, 3) := by decide +kernel
theorem dX8_isFull_9 : decode cX8_isFull 9 = .ok (.aload_n 0, 1) := by decide +kernel
theorem dX8_isFull_10 : decode cX8_isFull 10 = .ok (.getfield 96, 3) := by decide +kernel
theorem dX8_isFull_13 : decode cX8_isFull 13 = .ok (.iload_n 1, 1) := by decide +kernel
theorem dX8_isFull_14 : decode cX8_isFull 14 = .ok (.iaload, 1) := by decide +kernel
theorem dX8_isFull_15 : decode cX8_isFull 15 = .ok (.i2l, 1) := by decide +kernel
theorem dX8_isFull_16 : decode cX8_isFull 16 = .ok (.aload_n 0, 1) := by decide +kernel
theorem dX8_isFull_17 : decode cX8_isFull 17 = .ok (.getfield 108, 3) := by decide +kernel
theorem dX8_isFull_20 : decode cX8_isFull 20 = .ok (.aload_n 0, 1) := by decide +kernel
theorem dX8_isFull_21 : decode cX8_isFull 21 = .ok (.getfield 87, 3) := by decide +kernel
theorem dX8_isFull_24 : decode cX8_isFull 24 = .ok (.iload_n 1, 1) := by decide +kernel
theorem dX8_isFull_25 : decode cX8_isFull 25 = .ok (.iaload, 1) := by decide +kernel
theorem dX8_isFull_26 : decode cX8_isFull 26 = .ok (.laload, 1) := by decide +kernel
theorem dX8_isFull_27 : decode cX8_isFull 27 = .ok (.ladd, 1) := by decide +kernel
theorem dX8_isFull_28 : decode cX8_isFull 28 = .ok (.aload_n 0, 1) := by decide +kernel
theorem dX8_isFull_29 : decode cX8_isFull 29 = .ok (.getfield 93, 3) := by decide +kernel
theorem dX8_isFull_32 : decode cX8_isFull 32 = .ok (.iload_n 1, 1) := by decide +kernel
theorem dX8_isFull_33 : decode cX8_isFull 33 = .ok (.iaload, 1) := by decide +kernel
theorem dX8_isFull_34 : decode cX8_isFull 34 = .ok (.i2l, 1) := by decide +kernel
theorem dX8_isFull_35 : decode cX8_isFull 35 = .ok (.lcmp, 1) := by decide +kernel
theorem dX8_isFull_36 : decode cX8_isFull 36 = .ok (.ifCond .lt 7, 3) := by decide +kernel
theorem dX8_isFull_39 : decode cX8_isFull 39 = .ok (.iconst 1, 1) := by decide +kernel
theorem dX8_isFull_40 : decode cX8_isFull 40 = .ok (.goto 4, 3) := by decide +kernel
theorem dX8_isFull_43 : decode cX8_isFull 43 = .ok (.iconst 0, 1) := by decide +kernel
theorem dX8_isFull_44 : decode cX8_isFull 44 = .ok (.ireturn, 1) := by decide +kernel
theorem dX8_queue_0 : decode cX8_queue 0 = .ok (.aload_n 0, 1) := by decide +kernel
theorem dX8_queue_1 : decode cX8_queue 1 = .ok (.iload_n 1, 1) := by decide +kernel
theorem dX8_queue_2 : decode cX8_queue 2 = .ok (.iload_n 2, 1) := by decide +kernel
theorem dX8_queue_3 : decode cX8_queue 3 = .ok (.invokevirtual 169, 3) := by decide +kernel
theorem dX8_queue_6 : decode cX8_queue 6 = .ok (.ifCond .ne 7, 3) := by decide +kernel
theorem dX8_queue_9 : decode cX8_queue 9 = .ok (.ldc2_w 256, 3) := by decide +kernel
theorem dX8_queue_12 : decode cX8_queue 12 = .ok (.lreturn, 1) := by decide +kernel
theorem dX8_queue_13 : decode cX8_queue 13 = .ok (.bipush 8, 2) := by decide +kernel
theorem dX8_queue_15 : decode cX8_queue 15 = .ok (.iload_n 1, 1) := by decide +kernel
theorem dX8_queue_16 : decode cX8_queue 16 = .ok (.imul, 1) := by decide +kernel
theorem dX8_queue_17 : decode cX8_queue 17 = .ok (.iload_n 2, 1) := by decide +kernel
theorem dX8_queue_18 : decode cX8_queue 18 = .ok (.iadd, 1) := by decide +kernel
theorem dX8_queue_19 : decode cX8_queue 19 = .ok (.istore 4, 2) := by decide +kernel
theorem dX8_queue_21 : decode cX8_queue 21 = .ok (.iload_n 3, 1) := by decide +kernel
theorem dX8_queue_22 : decode cX8_queue 22 = .ok (.tableswitch 187 0 11 #[62, 70, 78, 86, 94, 102, 110, 135, 144, 153, 162, 171], 62) := by decide +kernel
theorem dX8_queue_84 : decode cX8_queue 84 = .ok (.aload_n 0, 1) := by decide +kernel
theorem dX8_queue_85 : decode cX8_queue 85 = .ok (.getfield 108, 3) := by decide +kernel
theorem dX8_queue_88 : decode cX8_queue 88 = .ok (.iload 4, 2) := by decide +kernel
theorem dX8_queue_90 : decode cX8_queue 90 = .ok (.laload, 1) := by decide +kernel
theorem dX8_queue_91 : decode cX8_queue 91 = .ok (.lreturn, 1) := by decide +kernel
theorem dX8_queue_92 : decode cX8_queue 92 = .ok (.aload_n 0, 1) := by decide +kernel
theorem dX8_queue_93 : decode cX8_queue 93 = .ok (.getfield 112, 3) := by decide +kernel
theorem dX8_queue_96 : decode cX8_queue 96 = .ok (.iload 4, 2) := by decide +kernel
theorem dX8_queue_98 : decode cX8_queue 98 = .ok (.laload, 1) := by decide +kernel
theorem dX8_queue_99 : decode cX8_queue 99 = .ok (.lreturn, 1) := by decide +kernel
theorem dX8_queue_100 : decode cX8_queue 100 = .ok (.aload_n 0, 1) := by decide +kernel
theorem dX8_queue_101 : decode cX8_queue 101 = .ok (.getfield 115, 3) := by decide +kernel
theorem dX8_queue_104 : decode cX8_queue 104 = .ok (.iload 4, 2) := by decide +kernel
theorem dX8_queue_106 : decode cX8_queue 106 = .ok (.laload, 1) := by decide +kernel
theorem dX8_queue_107 : decode cX8_queue 107 = .ok (.lreturn, 1) := by decide +kernel
theorem dX8_queue_108 : decode cX8_queue 108 = .ok (.aload_n 0, 1) := by decide +kernel
theorem dX8_queue_109 : decode cX8_queue 109 = .ok (.getfield 118, 3) := by decide +kernel
theorem dX8_queue_112 : decode cX8_queue 112 = .ok (.iload 4, 2) := by decide +kernel
theorem dX8_queue_114 : decode cX8_queue 114 = .ok (.laload, 1) := by decide +kernel
theorem dX8_queue_115 : decode cX8_queue 115 = .ok (.lreturn, 1) := by decide +kernel
theorem dX8_queue_116 : decode cX8_queue 116 = .ok (.aload_n 0, 1) := by decide +kernel
theorem dX8_queue_117 : decode cX8_queue 117 = .ok (.getfield 121, 3) := by decide +kernel
theorem dX8_queue_120 : decode cX8_queue 120 = .ok (.iload 4, 2) := by decide +kernel
theorem dX8_queue_122 : decode cX8_queue 122 = .ok (.laload, 1) := by decide +kernel
theorem dX8_queue_123 : decode cX8_queue 123 = .ok (.lreturn, 1) := by decide +kernel
theorem dX8_queue_124 : decode cX8_queue 124 = .ok (.aload_n 0, 1) := by decide +kernel
theorem dX8_queue_125 : decode cX8_queue 125 = .ok (.getfield 124, 3) := by decide +kernel
theorem dX8_queue_128 : decode cX8_queue 128 = .ok (.iload 4, 2) := by decide +kernel
theorem dX8_queue_130 : decode cX8_queue 130 = .ok (.laload, 1) := by decide +kernel
theorem dX8_queue_131 : decode cX8_queue 131 = .ok (.lreturn, 1) := by decide +kernel
theorem dX8_queue_132 : decode cX8_queue 132 = .ok (.aload_n 0, 1) := by decide +kernel
theorem dX8_queue_133 : decode cX8_queue 133 = .ok (.getfield 84, 3) := by decide +kernel
theorem dX8_queue_136 : decode cX8_queue 136 = .ok (.iload 4, 2) := by decide +kernel
theorem dX8_queue_138 : decode cX8_queue 138 = .ok (.baload, 1) := by decide +kernel
theorem dX8_queue_139 : decode cX8_queue 139 = .ok (.ifCond .eq 14, 3) := by decide +kernel
theorem dX8_queue_142 : decode cX8_queue 142 = .ok (.aload_n 0, 1) := by decide +kernel
theorem dX8_queue_143 : decode cX8_queue 143 = .ok (.getfield 96, 3) := by decide +kernel
theorem dX8_queue_146 : decode cX8_queue 146 = .ok (.iload 4, 2) := by decide +kernel
theorem dX8_queue_148 : decode cX8_queue 148 = .ok (.iaload, 1) := by decide +kernel
theorem dX8_queue_149 : decode cX8_queue 149 = .ok (.i2l, 1) := by decide +kernel
theorem dX8_queue_150 : decode cX8_queue 150 = .ok (.goto 6, 3) := by decide +kernel
theorem dX8_queue_153 : decode cX8_queue 153 = .ok (.ldc2_w 256, 3) := by decide +kernel
theorem dX8_queue_156 : decode cX8_queue 156 = .ok (.lreturn, 1) := by decide +kernel
theorem dX8_queue_157 : decode cX8_queue 157 = .ok (.aload_n 0, 1) := by decide +kernel
theorem dX8_queue_158 : decode cX8_queue 158 = .ok (.getfield 13, 3) := by decide +kernel
theorem dX8_queue_161 : decode cX8_queue 161 = .ok (.iload 4, 2) := by decide +kernel
theorem dX8_queue_163 : decode cX8_queue 163 = .ok (.iaload, 1) := by decide +kernel
theorem dX8_queue_164 : decode cX8_queue 164 = .ok (.i2l, 1) := by decide +kernel
theorem dX8_queue_165 : decode cX8_queue 165 = .ok (.lreturn, 1) := by decide +kernel
theorem dX8_queue_166 : decode cX8_queue 166 = .ok (.aload_n 0, 1) := by decide +kernel
theorem dX8_queue_167 : decode cX8_queue 167 = .ok (.getfield 19, 3) := by decide +kernel
theorem dX8_queue_170 : decode cX8_queue 170 = .ok (.iload 4, 2) := by decide +kernel
theorem dX8_queue_172 : decode cX8_queue 172 = .ok (.iaload, 1) := by decide +kernel
theorem dX8_queue_173 : decode cX8_queue 173 = .ok (.i2l, 1) := by decide +kernel
theorem dX8_queue_174 : decode cX8_queue 174 = .ok (.lreturn, 1) := by decide +kernel
theorem dX8_queue_175 : decode cX8_queue 175 = .ok (.aload_n 0, 1) := by decide +kernel
theorem dX8_queue_176 : decode cX8_queue 176 = .ok (.getfield 22, 3) := by decide +kernel
theorem dX8_queue_179 : decode cX8_queue 179 = .ok (.iload 4, 2) := by decide +kernel
theorem dX8_queue_181 : decode cX8_queue 181 = .ok (.iaload, 1) := by decide +kernel
theorem dX8_queue_182 : decode cX8_queue 182 = .ok (.i2l, 1) := by decide +kernel
theorem dX8_queue_183 : decode cX8_queue 183 = .ok (.lreturn, 1) := by decide +kernel
theorem dX8_queue_184 : decode cX8_queue 184 = .ok (.aload_n 0, 1) := by decide +kernel
theorem dX8_queue_185 : decode cX8_queue 185 = .ok (.getfield 16, 3) := by decide +kernel
theorem dX8_queue_188 : decode cX8_queue 188 = .ok (.iload 4, 2) := by decide +kernel
theorem dX8_queue_190 : decode cX8_queue 190 = .ok (.iaload, 1) := by decide +kernel
theorem dX8_queue_191 : decode cX8_queue 191 = .ok (.i2l, 1) := by decide +kernel
theorem dX8_queue_192 : decode cX8_queue 192 = .ok (.lreturn, 1) := by decide +kernel
theorem dX8_queue_193 : decode cX8_queue 193 = .ok (.aload_n 0, 1) := by decide +kernel
theorem dX8_queue_194 : decode cX8_queue 194 = .ok (.getfield 127, 3) := by decide +kernel
theorem dX8_queue_197 : decode cX8_queue 197 = .ok (.iload 4, 2) := by decide +kernel
theorem dX8_queue_199 : decode cX8_queue 199 = .ok (.baload, 1) := by decide +kernel
theorem dX8_queue_200 : decode cX8_queue 200 = .ok (.ifCond .eq 7, 3) := by decide +kernel
theorem dX8_queue_203 : decode cX8_queue 203 = .ok (.lconst 1, 1) := by decide +kernel
theorem dX8_queue_204 : decode cX8_queue 204 = .ok (.goto 4, 3) := by decide +kernel
theorem dX8_queue_207 : decode cX8_queue 207 = .ok (.lconst 0, 1) := by decide +kernel
theorem dX8_queue_208 : decode cX8_queue 208 = .ok (.lreturn, 1) := by decide +kernel
theorem dX8_queue_209 : decode cX8_queue 209 = .ok (.ldc2_w 256, 3) := by decide +kernel
theorem dX8_queue_212 : decode cX8_queue 212 = .ok (.lreturn, 1) := by decide +kernel
theorem dX8_count_0 : decode cX8_count 0 = .ok (.iload_n 1, 1) := by decide +kernel
theorem dX8_count_1 : decode cX8_count 1 = .ok (.ifCond .ne 8, 3) := by decide +kernel
theorem dX8_count_4 : decode cX8_count 4 = .ok (.aload_n 0, 1) := by decide +kernel
theorem dX8_count_5 : decode cX8_count 5 = .ok (.getfield 139, 3) := by decide +kernel
theorem dX8_count_8 : decode cX8_count 8 = .ok (.ireturn, 1) := by decide +kernel
theorem dX8_count_9 : decode cX8_count 9 = .ok (.iload_n 1, 1) := by decide +kernel
theorem dX8_count_10 : decode cX8_count 10 = .ok (.iconst 1, 1) := by decide +kernel
theorem dX8_count_11 : decode cX8_count 11 = .ok (.if_icmp .ne 8, 3) := by decide +kernel
theorem dX8_count_14 : decode cX8_count 14 = .ok (.aload_n 0, 1) := by decide +kernel
theorem dX8_count_15 : decode cX8_count 15 = .ok (.getfield 146, 3) := by decide +kernel
theorem dX8_count_18 : decode cX8_count 18 = .ok (.ireturn, 1) := by decide +kernel
theorem dX8_count_19 : decode cX8_count 19 = .ok (.iload_n 1, 1) := by decide +kernel
theorem dX8_count_20 : decode cX8_count 20 = .ok (.iconst 2, 1) := by decide +kernel
theorem dX8_count_21 : decode cX8_count 21 = .ok (.if_icmp .eq 5, 3) := by decide +kernel
theorem dX8_count_24 : decode cX8_count 24 = .ok (.iconst (-1), 1) := by decide +kernel
theorem dX8_count_25 : decode cX8_count 25 = .ok (.ireturn, 1) := by decide +kernel
theorem dX8_count_26 : decode cX8_count 26 = .ok (.iconst 0, 1) := by decide +kernel
theorem dX8_count_27 : decode cX8_count 27 = .ok (.istore_n 2, 1) := by decide +kernel
theorem dX8_count_28 : decode cX8_count 28 = .ok (.iconst 0, 1) := by decide +kernel
theorem dX8_count_29 : decode cX8_count 29 = .ok (.istore_n 3, 1) := by decide +kernel
theorem dX8_count_30 : decode cX8_count 30 = .ok (.iload_n 3, 1) := by decide +kernel
theorem dX8_count_31 : decode cX8_count 31 = .ok (.aload_n 0, 1) := by decide +kernel
theorem dX8_count_32 : decode cX8_count 32 = .ok (.getfield 139, 3) := by decide +kernel
theorem dX8_count_35 : decode cX8_count 35 = .ok (.if_icmp .ge 26, 3) := by decide +kernel
theorem dX8_count_38 : decode cX8_count 38 = .ok (.iload_n 2, 1) := by decide +kernel
theorem dX8_count_39 : decode cX8_count 39 = .ok (.aload_n 0, 1) := by decide +kernel
theorem dX8_count_40 : decode cX8_count 40 = .ok (.getfield 56, 3) := by decide +kernel
theorem dX8_count_43 : decode cX8_count 43 = .ok (.iload_n 3, 1) := by decide +kernel
theorem dX8_count_44 : decode cX8_count 44 = .ok (.baload, 1) := by decide +kernel
theorem dX8_count_45 : decode cX8_count 45 = .ok (.ifCond .eq 7, 3) := by decide +kernel
theorem dX8_count_48 : decode cX8_count 48 = .ok (.iconst 1, 1) := by decide +kernel
theorem dX8_count_49 : decode cX8_count 49 = .ok (.goto 4, 3) := by decide +kernel
theorem dX8_count_52 : decode cX8_count 52 = .ok (.iconst 0, 1) := by decide +kernel
theorem dX8_count_53 : decode cX8_count 53 = .ok (.iadd, 1) := by decide +kernel
theorem dX8_count_54 : decode cX8_count 54 = .ok (.istore_n 2, 1) := by decide +kernel
theorem dX8_count_55 : decode cX8_count 55 = .ok (.iinc 3 1, 3) := by decide +kernel
theorem dX8_count_58 : decode cX8_count 58 = .ok (.goto (-28), 3) := by decide +kernel
theorem dX8_count_61 : decode cX8_count 61 = .ok (.iload_n 2, 1) := by decide +kernel
theorem dX8_count_62 : decode cX8_count 62 = .ok (.ireturn, 1) := by decide +kernel
theorem dX8_flashes_0 : decode cX8_flashes 0 = .ok (.aload_n 0, 1) := by decide +kernel
theorem dX8_flashes_1 : decode cX8_flashes 1 = .ok (.iload_n 1, 1) := by decide +kernel
theorem dX8_flashes_2 : decode cX8_flashes 2 = .ok (.invokevirtual 142, 3) := by decide +kernel
theorem dX8_flashes_5 : decode cX8_flashes 5 = .ok (.ifCond .eq 16, 3) := by decide +kernel
theorem dX8_flashes_8 : decode cX8_flashes 8 = .ok (.aload_n 0, 1) := by decide +kernel
theorem dX8_flashes_9 : decode cX8_flashes 9 = .ok (.getfield 56, 3) := by decide +kernel
theorem dX8_flashes_12 : decode cX8_flashes 12 = .ok (.iload_n 1, 1) := by decide +kernel
theorem dX8_flashes_13 : decode cX8_flashes 13 = .ok (.baload, 1) := by decide +kernel
theorem dX8_flashes_14 : decode cX8_flashes 14 = .ok (.ifCond .eq 7, 3) := by decide +kernel
theorem dX8_flashes_17 : decode cX8_flashes 17 = .ok (.iconst 1, 1) := by decide +kernel
theorem dX8_flashes_18 : decode cX8_flashes 18 = .ok (.goto 4, 3) := by decide +kernel
theorem dX8_flashes_21 : decode cX8_flashes 21 = .ok (.iconst 0, 1) := by decide +kernel
theorem dX8_flashes_22 : decode cX8_flashes 22 = .ok (.ireturn, 1) := by decide +kernel
theorem dX8_isWay_0 : decode cX8_isWay 0 = .ok (.aload_n 0, 1) := by decide +kernel
theorem dX8_isWay_1 : decode cX8_isWay 1 = .ok (.iload_n 3, 1) := by decide +kernel
theorem dX8_isWay_2 : decode cX8_isWay 2 = .ok (.iconst (-1), 1) := by decide +kernel
theorem dX8_isWay_3 : decode cX8_isWay 3 = .ok (.if_icmp .ne 7, 3) := by decide +kernel
theorem dX8_isWay_6 : decode cX8_isWay 6 = .ok (.iconst 2, 1) := by decide +kernel
theorem dX8_isWay_7 : decode cX8_isWay 7 = .ok (.goto 4, 3) := by decide +kernel
theorem dX8_isWay_10 : decode cX8_isWay 10 = .ok (.iconst 3, 1) := by decide +kernel
theorem dX8_isWay_11 : decode cX8_isWay 11 = .ok (.putfield 258, 3) := by decide +kernel
theorem dX8_isWay_14 : decode cX8_isWay 14 = .ok (.aload_n 0, 1) := by decide +kernel
theorem dX8_isWay_15 : decode cX8_isWay 15 = .ok (.getfield 133, 3) := by decide +kernel
theorem dX8_isWay_18 : decode cX8_isWay 18 = .ok (.iconst 0, 1) := by decide +kernel
theorem dX8_isWay_19 : decode cX8_isWay 19 = .ok (.iload_n 1, 1) := by decide +kernel
theorem dX8_isWay_20 : decode cX8_isWay 20 = .ok (.iastore, 1) := by decide +kernel
theorem dX8_isWay_21 : decode cX8_isWay 21 = .ok (.aload_n 0, 1) := by decide +kernel
theorem dX8_isWay_22 : decode cX8_isWay 22 = .ok (.getfield 133, 3) := by decide +kernel
theorem dX8_isWay_25 : decode cX8_isWay 25 = .ok (.iconst 1, 1) := by decide +kernel
theorem dX8_isWay_26 : decode cX8_isWay 26 = .ok (.iload_n 2, 1) := by decide +kernel
theorem dX8_isWay_27 : decode cX8_isWay 27 = .ok (.iastore, 1) := by decide +kernel
theorem dX8_isWay_28 : decode cX8_isWay 28 = .ok (.aload_n 0, 1) := by decide +kernel
theorem dX8_isWay_29 : decode cX8_isWay 29 = .ok (.getfield 133, 3) := by decide +kernel
theorem dX8_isWay_32 : decode cX8_isWay 32 = .ok (.iconst 2, 1) := by decide +kernel
theorem dX8_isWay_33 : decode cX8_isWay 33 = .ok (.iload_n 3, 1) := by decide +kernel
theorem dX8_isWay_34 : decode cX8_isWay 34 = .ok (.iastore, 1) := by decide +kernel
theorem dX8_isWay_35 : decode cX8_isWay 35 = .ok (.iload 4, 2) := by decide +kernel
theorem dX8_isWay_37 : decode cX8_isWay 37 = .ok (.ifCond .lt 43, 3) := by decide +kernel
theorem dX8_isWay_40 : decode cX8_isWay 40 = .ok (.iload 5, 2) := by decide +kernel
theorem dX8_isWay_42 : decode cX8_isWay 42 = .ok (.ifCond .lt 38, 3) := by decide +kernel
theorem dX8_isWay_45 : decode cX8_isWay 45 = .ok (.iload 6, 2) := by decide +kernel
theorem dX8_isWay_47 : decode cX8_isWay 47 = .ok (.iconst 0, 1) := by decide +kernel
theorem dX8_isWay_48 : decode cX8_isWay 48 = .ok (.bipush 120, 2) := by decide +kernel
theorem dX8_isWay_50 : decode cX8_isWay 50 = .ok (.invokestatic 149, 3) := by decide +kernel
theorem dX8_isWay_53 : decode cX8_isWay 53 = .ok (.ifCond .eq 27, 3) := by decide +kernel
theorem dX8_isWay_56 : decode cX8_isWay 56 = .ok (.iload 7, 2) := by decide +kernel
theorem dX8_isWay_58 : decode cX8_isWay 58 = .ok (.iconst 0, 1) := by decide +kernel
theorem dX8_isWay_59 : decode cX8_isWay 59 = .ok (.bipush 120, 2) := by decide +kernel
theorem dX8_isWay_61 : decode cX8_isWay 61 = .ok (.invokestatic 149, 3) := by decide +kernel
theorem dX8_isWay_64 : decode cX8_isWay 64 = .ok (.ifCond .eq 16, 3) := by decide +kernel
theorem dX8_isWay_67 : decode cX8_isWay 67 = .ok (.aload_n 0, 1) := by decide +kernel
theorem dX8_isWay_68 : decode cX8_isWay 68 = .ok (.getfield 258, 3) := by decide +kernel
theorem dX8_isWay_71 : decode cX8_isWay 71 = .ok (.iconst 2, 1) := by decide +kernel
theorem dX8_isWay_72 : decode cX8_isWay 72 = .ok (.if_icmp .ne 10, 3) := by decide +kernel
theorem dX8_isWay_75 : decode cX8_isWay 75 = .ok (.iload 7, 2) := by decide +kernel
theorem dX8_isWay_77 : decode cX8_isWay 77 = .ok (.ifCond .eq 5, 3) := by decide +kernel
theorem dX8_isWay_80 : decode cX8_isWay 80 = .ok (.iconst 0, 1) := by decide +kernel
theorem dX8_isWay_81 : decode cX8_isWay 81 = .ok (.ireturn, 1) := by decide +kernel
theorem dX8_isWay_82 : decode cX8_isWay 82 = .ok (.iload_n 1, 1) := by decide +kernel
theorem dX8_isWay_83 : decode cX8_isWay 83 = .ok (.iload_n 2, 1) := by decide +kernel
theorem dX8_isWay_84 : decode cX8_isWay 84 = .ok (.if_icmp .eq 21, 3) := by decide +kernel
theorem dX8_isWay_87 : decode cX8_isWay 87 = .ok (.aload_n 0, 1) := by decide +kernel
theorem dX8_isWay_88 : decode cX8_isWay 88 = .ok (.getfield 258, 3) := by decide +kernel
theorem dX8_isWay_91 : decode cX8_isWay 91 = .ok (.iconst 3, 1) := by decide +kernel
theorem dX8_isWay_92 : decode cX8_isWay 92 = .ok (.if_icmp .ne 15, 3) := by decide +kernel
theorem dX8_isWay_95 : decode cX8_isWay 95 = .ok (.iload_n 1, 1) := by decide +kernel
theorem dX8_isWay_96 : decode cX8_isWay 96 = .ok (.iload_n 3, 1) := by decide +kernel
theorem dX8_isWay_97 : decode cX8_isWay 97 = .ok (.if_icmp .eq 8, 3) := by decide +kernel
theorem dX8_isWay_100 : decode cX8_isWay 100 = .ok (.iload_n 2, 1) := by decide +kernel
theorem dX8_isWay_101 : decode cX8_isWay 101 = .ok (.iload_n 3, 1) := by decide +kernel
theorem dX8_isWay_102 : decode cX8_isWay 102 = .ok (.if_icmp .ne 5, 3) := by decide +kernel
theorem dX8_isWay_105 : decode cX8_isWay 105 = .ok (.iconst 0, 1) := by decide +kernel
theorem dX8_isWay_106 : decode cX8_isWay 106 = .ok (.ireturn, 1) := by decide +kernel
theorem dX8_isWay_107 : decode cX8_isWay 107 = .ok (.iload 4, 2) := by decide +kernel
theorem dX8_isWay_109 : decode cX8_isWay 109 = .ok (.istore 8, 2) := by decide +kernel
theorem dX8_isWay_111 : decode cX8_isWay 111 = .ok (.iload 5, 2) := by decide +kernel
theorem dX8_isWay_113 : decode cX8_isWay 113 = .ok (.istore 9, 2) := by decide +kernel
theorem dX8_isWay_115 : decode cX8_isWay 115 = .ok (.iconst 0, 1) := by decide +kernel
theorem dX8_isWay_116 : decode cX8_isWay 116 = .ok (.istore 10, 2) := by decide +kernel
theorem dX8_isWay_118 : decode cX8_isWay 118 = .ok (.iload 10, 2) := by decide +kernel
theorem dX8_isWay_120 : decode cX8_isWay 120 = .ok (.aload_n 0, 1) := by decide +kernel
theorem dX8_isWay_121 : decode cX8_isWay 121 = .ok (.getfield 258, 3) := by decide +kernel
theorem dX8_isWay_124 : decode cX8_isWay 124 = .ok (.if_icmp .ge 130, 3) := by decide +kernel
theorem dX8_isWay_127 : decode cX8_isWay 127 = .ok (.aload_n 0, 1) := by decide +kernel
theorem dX8_isWay_128 : decode cX8_isWay 128 = .ok (.aload_n 0, 1) := by decide +kernel
theorem dX8_isWay_129 : decode cX8_isWay 129 = .ok (.getfield 133, 3) := by decide +kernel
theorem dX8_isWay_132 : decode cX8_isWay 132 = .ok (.iload 10, 2) := by decide +kernel
theorem dX8_isWay_134 : decode cX8_isWay 134 = .ok (.iaload, 1) := by decide +kernel
theorem dX8_isWay_135 : decode cX8_isWay 135 = .ok (.iload 8, 2) := by decide +kernel
theorem dX8_isWay_137 : decode cX8_isWay 137 = .ok (.bipush 10, 2) := by decide +kernel
theorem dX8_isWay_139 : decode cX8_isWay 139 = .ok (.irem, 1) := by decide +kernel
theorem dX8_isWay_140 : decode cX8_isWay 140 = .ok (.invokevirtual 169, 3) := by decide +kernel
theorem dX8_isWay_143 : decode cX8_isWay 143 = .ok (.ifCond .eq 67, 3) := by decide +kernel
theorem dX8_isWay_146 : decode cX8_isWay 146 = .ok (.aload_n 0, 1) := by decide +kernel
theorem dX8_isWay_147 : decode cX8_isWay 147 = .ok (.aload_n 0, 1) := by decide +kernel
theorem dX8_isWay_148 : decode cX8_isWay 148 = .ok (.getfield 133, 3) := by decide +kernel
theorem dX8_isWay_151 : decode cX8_isWay 151 = .ok (.iload 10, 2) := by decide +kernel
theorem dX8_isWay_153 : decode cX8_isWay 153 = .ok (.iaload, 1) := by decide +kernel
theorem dX8_isWay_154 : decode cX8_isWay 154 = .ok (.iload 9, 2) := by decide +kernel
theorem dX8_isWay_156 : decode cX8_isWay 156 = .ok (.bipush 10, 2) := by decide +kernel
theorem dX8_isWay_158 : decode cX8_isWay 158 = .ok (.irem, 1) := by decide +kernel
theorem dX8_isWay_159 : decode cX8_isWay 159 = .ok (.invokevirtual 169, 3) := by decide +kernel
theorem dX8_isWay_162 : decode cX8_isWay 162 = .ok (.ifCond .eq 48, 3) := by decide +kernel
theorem dX8_isWay_165 : decode cX8_isWay 165 = .ok (.aload_n 0, 1) := by decide +kernel
theorem dX8_isWay_166 : decode cX8_isWay 166 = .ok (.getfield 32, 3) := by decide +kernel
theorem dX8_isWay_169 : decode cX8_isWay 169 = .ok (.bipush 8, 2) := by decide +kernel
theorem dX8_isWay_171 : decode cX8_isWay 171 = .ok (.aload_n 0, 1) := by decide +kernel
theorem dX8_isWay_172 : decode cX8_isWay 172 = .ok (.getfield 133, 3) := by decide +kernel
theorem dX8_isWay_175 : decode cX8_isWay 175 = .ok (.iload 10, 2) := by decide +kernel
theorem dX8_isWay_177 : decode cX8_isWay 177 = .ok (.iaload, 1) := by decide +kernel
theorem dX8_isWay_178 : decode cX8_isWay 178 = .ok (.iadd, 1) := by decide +kernel
theorem dX8_isWay_179 : decode cX8_isWay 179 = .ok (.baload, 1) := by decide +kernel
theorem dX8_isWay_180 : decode cX8_isWay 180 = .ok (.ifCond .eq 30, 3) := by decide +kernel
theorem dX8_isWay_183 : decode cX8_isWay 183 = .ok (.aload_n 0, 1) := by decide +kernel
theorem dX8_isWay_184 : decode cX8_isWay 184 = .ok (.getfield 35, 3) := by decide +kernel
theorem dX8_isWay_187 : decode cX8_isWay 187 = .ok (.bipush 8, 2) := by decide +kernel
theorem dX8_isWay_189 : decode cX8_isWay 189 = .ok (.aload_n 0, 1) := by decide +kernel
theorem dX8_isWay_190 : decode cX8_isWay 190 = .ok (.getfield 133, 3) := by decide +kernel
theorem dX8_isWay_193 : decode cX8_isWay 193 = .ok (.iload 10, 2) := by decide +kernel
theorem dX8_isWay_195 : decode cX8_isWay 195 = .ok (.iaload, 1) := by decide +kernel
theorem dX8_isWay_196 : decode cX8_isWay 196 = .ok (.iadd, 1) := by decide +kernel
theorem dX8_isWay_197 : decode cX8_isWay 197 = .ok (.iaload, 1) := by decide +kernel
theorem dX8_isWay_198 : decode cX8_isWay 198 = .ok (.aload_n 0, 1) := by decide +kernel
