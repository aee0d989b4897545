theorem dX7_lays_46 : decode cX7_lays 46 = .ok (.invokevirtual 118, 3) := by decide +kernel
theorem dX7_lays_49 : decode cX7_lays 49 = .ok (.goto 29, 3) := by decide +kernel
theorem dX7_lays_52 : decode cX7_lays 52 = .ok (.aload_n 0, 1) := by decide +kernel
theorem dX7_lays_53 : decode cX7_lays 53 = .ok (.aload_n 0, 1) := by decide +kernel
theorem dX7_lays_54 : decode cX7_lays 54 = .ok (.aload_n 0, 1) := by decide +kernel
theorem dX7_lays_55 : decode cX7_lays 55 = .ok (.getfield 22, 3) := by decide +kernel
theorem dX7_lays_58 : decode cX7_lays 58 = .ok (.iload_n 2, 1) := by decide +kernel
theorem dX7_lays_59 : decode cX7_lays 59 = .ok (.iaload, 1) := by decide +kernel
theorem dX7_lays_60 : decode cX7_lays 60 = .ok (.iconst 1, 1) := by decide +kernel
theorem dX7_lays_61 : decode cX7_lays 61 = .ok (.invokevirtual 105, 3) := by decide +kernel
theorem dX7_lays_64 : decode cX7_lays 64 = .ok (.aload_n 0, 1) := by decide +kernel
theorem dX7_lays_65 : decode cX7_lays 65 = .ok (.aload_n 0, 1) := by decide +kernel
theorem dX7_lays_66 : decode cX7_lays 66 = .ok (.getfield 22, 3) := by decide +kernel
theorem dX7_lays_69 : decode cX7_lays 69 = .ok (.iload_n 2, 1) := by decide +kernel
theorem dX7_lays_70 : decode cX7_lays 70 = .ok (.iaload, 1) := by decide +kernel
theorem dX7_lays_71 : decode cX7_lays 71 = .ok (.iconst 2, 1) := by decide +kernel
theorem dX7_lays_72 : decode cX7_lays 72 = .ok (.invokevirtual 105, 3) := by decide +kernel
theorem dX7_lays_75 : decode cX7_lays 75 = .ok (.invokevirtual 121, 3) := by decide +kernel
theorem dX7_lays_78 : decode cX7_lays 78 = .ok (.iinc 2 1, 3) := by decide +kernel
theorem dX7_lays_81 : decode cX7_lays 81 = .ok (.goto (-70), 3) := by decide +kernel
theorem dX7_lays_84 : decode cX7_lays 84 = .ok (.return_, 1) := by decide +kernel
theorem dX7_laysValues_0 : decode cX7_laysValues 0 = .ok (.aload_n 0, 1) := by decide +kernel
theorem dX7_laysValues_1 : decode cX7_laysValues 1 = .ok (.iload_n 1, 1) := by decide +kernel
theorem dX7_laysValues_2 : decode cX7_laysValues 2 = .ok (.invokevirtual 112, 3) := by decide +kernel
theorem dX7_laysValues_5 : decode cX7_laysValues 5 = .ok (.iconst 0, 1) := by decide +kernel
theorem dX7_laysValues_6 : decode cX7_laysValues 6 = .ok (.istore_n 3, 1) := by decide +kernel
theorem dX7_laysValues_7 : decode cX7_laysValues 7 = .ok (.iconst 0, 1) := by decide +kernel
theorem dX7_laysValues_8 : decode cX7_laysValues 8 = .ok (.istore 4, 2) := by decide +kernel
theorem dX7_laysValues_10 : decode cX7_laysValues 10 = .ok (.iconst 0, 1) := by decide +kernel
theorem dX7_laysValues_11 : decode cX7_laysValues 11 = .ok (.istore 5, 2) := by decide +kernel
theorem dX7_laysValues_13 : decode cX7_laysValues 13 = .ok (.iload 5, 2) := by decide +kernel
theorem dX7_laysValues_15 : decode cX7_laysValues 15 = .ok (.aload_n 0, 1) := by decide +kernel
theorem dX7_laysValues_16 : decode cX7_laysValues 16 = .ok (.getfield 109, 3) := by decide +kernel
theorem dX7_laysValues_19 : decode cX7_laysValues 19 = .ok (.if_icmp .ge 50, 3) := by decide +kernel
theorem dX7_laysValues_22 : decode cX7_laysValues 22 = .ok (.aload_n 0, 1) := by decide +kernel
theorem dX7_laysValues_23 : decode cX7_laysValues 23 = .ok (.aload_n 0, 1) := by decide +kernel
theorem dX7_laysValues_24 : decode cX7_laysValues 24 = .ok (.getfield 22, 3) := by decide +kernel
theorem dX7_laysValues_27 : decode cX7_laysValues 27 = .ok (.iload 5, 2) := by decide +kernel
theorem dX7_laysValues_29 : decode cX7_laysValues 29 = .ok (.iaload, 1) := by decide +kernel
theorem dX7_laysValues_30 : decode cX7_laysValues 30 = .ok (.iconst 1, 1) := by decide +kernel
theorem dX7_laysValues_31 : decode cX7_laysValues 31 = .ok (.invokevirtual 105, 3) := by decide +kernel
theorem dX7_laysValues_34 : decode cX7_laysValues 34 = .ok (.iconst (-1), 1) := by decide +kernel
theorem dX7_laysValues_35 : decode cX7_laysValues 35 = .ok (.if_icmp .ne 9, 3) := by decide +kernel
theorem dX7_laysValues_38 : decode cX7_laysValues 38 = .ok (.iinc 3 1, 3) := by decide +kernel
theorem dX7_laysValues_41 : decode cX7_laysValues 41 = .ok (.goto 22, 3) := by decide +kernel
theorem dX7_laysValues_44 : decode cX7_laysValues 44 = .ok (.aload_n 2, 1) := by decide +kernel
theorem dX7_laysValues_45 : decode cX7_laysValues 45 = .ok (.iload 4, 2) := by decide +kernel
theorem dX7_laysValues_47 : decode cX7_laysValues 47 = .ok (.aload_n 0, 1) := by decide +kernel
theorem dX7_laysValues_48 : decode cX7_laysValues 48 = .ok (.aload_n 0, 1) := by decide +kernel
theorem dX7_laysValues_49 : decode cX7_laysValues 49 = .ok (.getfield 22, 3) := by decide +kernel
theorem dX7_laysValues_52 : decode cX7_laysValues 52 = .ok (.iload 5, 2) := by decide +kernel
theorem dX7_laysValues_54 : decode cX7_laysValues 54 = .ok (.iaload, 1) := by decide +kernel
theorem dX7_laysValues_55 : decode cX7_laysValues 55 = .ok (.iconst 1, 1) := by decide +kernel
theorem dX7_laysValues_56 : decode cX7_laysValues 56 = .ok (.invokevirtual 105, 3) := by decide +kernel
theorem dX7_laysValues_59 : decode cX7_laysValues 59 = .ok (.iastore, 1) := by decide +kernel
theorem dX7_laysValues_60 : decode cX7_laysValues 60 = .ok (.iinc 4 1, 3) := by decide +kernel
theorem dX7_laysValues_63 : decode cX7_laysValues 63 = .ok (.iinc 5 1, 3) := by decide +kernel
theorem dX7_laysValues_66 : decode cX7_laysValues 66 = .ok (.goto (-53), 3) := by decide +kernel
theorem dX7_laysValues_69 : decode cX7_laysValues 69 = .ok (.iload_n 3, 1) := by decide +kernel
theorem dX7_laysValues_70 : decode cX7_laysValues 70 = .ok (.istore 5, 2) := by decide +kernel
theorem dX7_laysValues_72 : decode cX7_laysValues 72 = .ok (.iload 5, 2) := by decide +kernel
theorem dX7_laysValues_74 : decode cX7_laysValues 74 = .ok (.iload 4, 2) := by decide +kernel
theorem dX7_laysValues_76 : decode cX7_laysValues 76 = .ok (.if_icmp .ge 19, 3) := by decide +kernel
theorem dX7_laysValues_79 : decode cX7_laysValues 79 = .ok (.aload_n 2, 1) := by decide +kernel
theorem dX7_laysValues_80 : decode cX7_laysValues 80 = .ok (.iload 5, 2) := by decide +kernel
theorem dX7_laysValues_82 : decode cX7_laysValues 82 = .ok (.iload_n 3, 1) := by decide +kernel
theorem dX7_laysValues_83 : decode cX7_laysValues 83 = .ok (.isub, 1) := by decide +kernel
theorem dX7_laysValues_84 : decode cX7_laysValues 84 = .ok (.aload_n 2, 1) := by decide +kernel
theorem dX7_laysValues_85 : decode cX7_laysValues 85 = .ok (.iload 5, 2) := by decide +kernel
theorem dX7_laysValues_87 : decode cX7_laysValues 87 = .ok (.iaload, 1) := by decide +kernel
theorem dX7_laysValues_88 : decode cX7_laysValues 88 = .ok (.iastore, 1) := by decide +kernel
theorem dX7_laysValues_89 : decode cX7_laysValues 89 = .ok (.iinc 5 1, 3) := by decide +kernel
theorem dX7_laysValues_92 : decode cX7_laysValues 92 = .ok (.goto (-20), 3) := by decide +kernel
theorem dX7_laysValues_95 : decode cX7_laysValues 95 = .ok (.iload 4, 2) := by decide +kernel
theorem dX7_laysValues_97 : decode cX7_laysValues 97 = .ok (.iload_n 3, 1) := by decide +kernel
theorem dX7_laysValues_98 : decode cX7_laysValues 98 = .ok (.isub, 1) := by decide +kernel
theorem dX7_laysValues_99 : decode cX7_laysValues 99 = .ok (.ireturn, 1) := by decide +kernel
theorem dX7_length_0 : decode cX7_length 0 = .ok (.aload_n 0, 1) := by decide +kernel
theorem dX7_length_1 : decode cX7_length 1 = .ok (.iload_n 1, 1) := by decide +kernel
theorem dX7_length_2 : decode cX7_length 2 = .ok (.aload_n 0, 1) := by decide +kernel
theorem dX7_length_3 : decode cX7_length 3 = .ok (.getfield 25, 3) := by decide +kernel
theorem dX7_length_6 : decode cX7_length 6 = .ok (.invokevirtual 124, 3) := by decide +kernel
theorem dX7_length_9 : decode cX7_length 9 = .ok (.ireturn, 1) := by decide +kernel
theorem dX7_laysListed_0 : decode cX7_laysListed 0 = .ok (.iconst 0, 1) := by decide +kernel
theorem dX7_laysListed_1 : decode cX7_laysListed 1 = .ok (.istore_n 1, 1) := by decide +kernel
theorem dX7_laysListed_2 : decode cX7_laysListed 2 = .ok (.aload_n 0, 1) := by decide +kernel
theorem dX7_laysListed_3 : decode cX7_laysListed 3 = .ok (.getfield 79, 3) := by decide +kernel
theorem dX7_laysListed_6 : decode cX7_laysListed 6 = .ok (.iconst 2, 1) := by decide +kernel
theorem dX7_laysListed_7 : decode cX7_laysListed 7 = .ok (.if_icmp .ne 10, 3) := by decide +kernel
theorem dX7_laysListed_10 : decode cX7_laysListed 10 = .ok (.aload_n 0, 1) := by decide +kernel
theorem dX7_laysListed_11 : decode cX7_laysListed 11 = .ok (.getfield 82, 3) := by decide +kernel
theorem dX7_laysListed_14 : decode cX7_laysListed 14 = .ok (.goto 9, 3) := by decide +kernel
theorem dX7_laysListed_17 : decode cX7_laysListed 17 = .ok (.aload_n 0, 1) := by decide +kernel
theorem dX7_laysListed_18 : decode cX7_laysListed 18 = .ok (.getfield 19, 3) := by decide +kernel
theorem dX7_laysListed_21 : decode cX7_laysListed 21 = .ok (.iconst 0, 1) := by decide +kernel
theorem dX7_laysListed_22 : decode cX7_laysListed 22 = .ok (.iaload, 1) := by decide +kernel
theorem dX7_laysListed_23 : decode cX7_laysListed 23 = .ok (.istore_n 2, 1) := by decide +kernel
theorem dX7_laysListed_24 : decode cX7_laysListed 24 = .ok (.iconst 0, 1) := by decide +kernel
theorem dX7_laysListed_25 : decode cX7_laysListed 25 = .ok (.istore_n 3, 1) := by decide +kernel
theorem dX7_laysListed_26 : decode cX7_laysListed 26 = .ok (.iload_n 3, 1) := by decide +kernel
theorem dX7_laysListed_27 : decode cX7_laysListed 27 = .ok (.iload_n 2, 1) := by decide +kernel
theorem dX7_laysListed_28 : decode cX7_laysListed 28 = .ok (.if_icmp .ge 35, 3) := by decide +kernel
theorem dX7_laysListed_31 : decode cX7_laysListed 31 = .ok (.aload_n 0, 1) := by decide +kernel
theorem dX7_laysListed_32 : decode cX7_laysListed 32 = .ok (.getfield 31, 3) := by decide +kernel
theorem dX7_laysListed_35 : decode cX7_laysListed 35 = .ok (.iload_n 1, 1) := by decide +kernel
theorem dX7_laysListed_36 : decode cX7_laysListed 36 = .ok (.aload_n 0, 1) := by decide +kernel
theorem dX7_laysListed_37 : decode cX7_laysListed 37 = .ok (.getfield 16, 3) := by decide +kernel
theorem dX7_laysListed_40 : decode cX7_laysListed 40 = .ok (.iconst 0, 1) := by decide +kernel
theorem dX7_laysListed_41 : decode cX7_laysListed 41 = .ok (.aload_n 0, 1) := by decide +kernel
theorem dX7_laysListed_42 : decode cX7_laysListed 42 = .ok (.getfield 19, 3) := by decide +kernel
theorem dX7_laysListed_45 : decode cX7_laysListed 45 = .ok (.iconst 0, 1) := by decide +kernel
theorem dX7_laysListed_46 : decode cX7_laysListed 46 = .ok (.iaload, 1) := by decide +kernel
theorem dX7_laysListed_47 : decode cX7_laysListed 47 = .ok (.iadd, 1) := by decide +kernel
theorem dX7_laysListed_48 : decode cX7_laysListed 48 = .ok (.iconst 1, 1) := by decide +kernel
theorem dX7_laysListed_49 : decode cX7_laysListed 49 = .ok (.isub, 1) := by decide +kernel
theorem dX7_laysListed_50 : decode cX7_laysListed 50 = .ok (.iload_n 3, 1) := by decide +kernel
theorem dX7_laysListed_51 : decode cX7_laysListed 51 = .ok (.isub, 1) := by decide +kernel
theorem dX7_laysListed_52 : decode cX7_laysListed 52 = .ok (.iaload, 1) := by decide +kernel
theorem dX7_laysListed_53 : decode cX7_laysListed 53 = .ok (.iastore, 1) := by decide +kernel
theorem dX7_laysListed_54 : decode cX7_laysListed 54 = .ok (.iinc 1 1, 3) := by decide +kernel
theorem dX7_laysListed_57 : decode cX7_laysListed 57 = .ok (.iinc 3 1, 3) := by decide +kernel
theorem dX7_laysListed_60 : decode cX7_laysListed 60 = .ok (.goto (-34), 3) := by decide +kernel
theorem dX7_laysListed_63 : decode cX7_laysListed 63 = .ok (.iconst 0, 1) := by decide +kernel
theorem dX7_laysListed_64 : decode cX7_laysListed 64 = .ok (.istore_n 3, 1) := by decide +kernel
theorem dX7_laysListed_65 : decode cX7_laysListed 65 = .ok (.aload_n 0, 1) := by decide +kernel
theorem dX7_laysListed_66 : decode cX7_laysListed 66 = .ok (.getfield 79, 3) := by decide +kernel
theorem dX7_laysListed_69 : decode cX7_laysListed 69 = .ok (.iconst 1, 1) := by decide +kernel
theorem dX7_laysListed_70 : decode cX7_laysListed 70 = .ok (.if_icmp .ne 38, 3) := by decide +kernel
theorem dX7_laysListed_73 : decode cX7_laysListed 73 = .ok (.iload_n 3, 1) := by decide +kernel
theorem dX7_laysListed_74 : decode cX7_laysListed 74 = .ok (.aload_n 0, 1) := by decide +kernel
theorem dX7_laysListed_75 : decode cX7_laysListed 75 = .ok (.getfield 19, 3) := by decide +kernel
theorem dX7_laysListed_78 : decode cX7_laysListed 78 = .ok (.iconst 4, 1) := by decide +kernel
theorem dX7_laysListed_79 : decode cX7_laysListed 79 = .ok (.iaload, 1) := by decide +kernel
theorem dX7_laysListed_80 : decode cX7_laysListed 80 = .ok (.if_icmp .ge 28, 3) := by decide +kernel
theorem dX7_laysListed_83 : decode cX7_laysListed 83 = .ok (.aload_n 0, 1) := by decide +kernel
theorem dX7_laysListed_84 : decode cX7_laysListed 84 = .ok (.getfield 31, 3) := by decide +kernel
theorem dX7_laysListed_87 : decode cX7_laysListed 87 = .ok (.iload_n 1, 1) := by decide +kernel
theorem dX7_laysListed_88 : decode cX7_laysListed 88 = .ok (.aload_n 0, 1) := by decide +kernel
theorem dX7_laysListed_89 : decode cX7_laysListed 89 = .ok (.getfield 16, 3) := by decide +kernel
theorem dX7_laysListed_92 : decode cX7_laysListed 92 = .ok (.sipush 256, 3) := by decide +kernel
theorem dX7_laysListed_95 : decode cX7_laysListed 95 = .ok (.iload_n 3, 1) := by decide +kernel
theorem dX7_laysListed_96 : decode cX7_laysListed 96 = .ok (.iadd, 1) := by decide +kernel
theorem dX7_laysListed_97 : decode cX7_laysListed 97 = .ok (.iaload, 1) := by decide +kernel
theorem dX7_laysListed_98 : decode cX7_laysListed 98 = .ok (.iastore, 1) := by decide +kernel
theorem dX7_laysListed_99 : decode cX7_laysListed 99 = .ok (.iinc 1 1, 3) := by decide +kernel
theorem dX7_laysListed_102 : decode cX7_laysListed 102 = .ok (.iinc 3 1, 3) := by decide +kernel
theorem dX7_laysListed_105 : decode cX7_laysListed 105 = .ok (.goto (-40), 3) := by decide +kernel
theorem dX7_laysListed_108 : decode cX7_laysListed 108 = .ok (.aload_n 0, 1) := by decide +kernel
theorem dX7_laysListed_109 : decode cX7_laysListed 109 = .ok (.getfield 19, 3) := by decide +kernel
theorem dX7_laysListed_112 : decode cX7_laysListed 112 = .ok (.iconst 5, 1) := by decide +kernel
theorem dX7_laysListed_113 : decode cX7_laysListed 113 = .ok (.iaload, 1) := by decide +kernel
theorem dX7_laysListed_114 : decode cX7_laysListed 114 = .ok (.iconst 1, 1) := by decide +kernel
theorem dX7_laysListed_115 : decode cX7_laysListed 115 = .ok (.isub, 1) := by decide +kernel
theorem dX7_laysListed_116 : decode cX7_laysListed 116 = .ok (.istore_n 3, 1) := by decide +kernel
theorem dX7_laysListed_117 : decode cX7_laysListed 117 = .ok (.aload_n 0, 1) := by decide +kernel
theorem dX7_laysListed_118 : decode cX7_laysListed 118 = .ok (.getfield 79, 3) := by decide +kernel
theorem dX7_laysListed_121 : decode cX7_laysListed 121 = .ok (.ifCond .eq 32, 3) := by decide +kernel
theorem dX7_laysListed_124 : decode cX7_laysListed 124 = .ok (.iload_n 3, 1) := by decide +kernel
theorem dX7_laysListed_125 : decode cX7_laysListed 125 = .ok (.ifCond .lt 28, 3) := by decide +kernel
theorem dX7_laysListed_128 : decode cX7_laysListed 128 = .ok (.aload_n 0, 1) := by decide +kernel
theorem dX7_laysListed_129 : decode cX7_laysListed 129 = .ok (.getfield 31, 3) := by decide +kernel
theorem dX7_laysListed_132 : decode cX7_laysListed 132 = .ok (.iload_n 1, 1) := by decide +kernel
theorem dX7_laysListed_133 : decode cX7_laysListed 133 = .ok (.aload_n 0, 1) := by decide +kernel
theorem dX7_laysListed_134 : decode cX7_laysListed 134 = .ok (.getfield 16, 3) := by decide +kernel
theorem dX7_laysListed_137 : decode cX7_laysListed 137 = .ok (.sipush 320, 3) := by decide +kernel
theorem dX7_laysListed_140 : decode cX7_laysListed 140 = .ok (.iload_n 3, 1) := by decide +kernel
theorem dX7_laysListed_141 : decode cX7_laysListed 141 = .ok (.iadd, 1) := by decide +kernel
theorem dX7_laysListed_142 : decode cX7_laysListed 142 = .ok (.iaload, 1) := by decide +kernel
theorem dX7_laysListed_143 : decode cX7_laysListed 143 = .ok (.iastore, 1) := by decide +kernel
theorem dX7_laysListed_144 : decode cX7_laysListed 144 = .ok (.iinc 1 1, 3) := by decide +kernel
theorem dX7_laysListed_147 : decode cX7_laysListed 147 = .ok (.iinc 3 (-1), 3) := by decide +kernel
theorem dX7_laysListed_150 : decode cX7_laysListed 150 = .ok (.goto (-33), 3) := by decide +kernel
theorem dX7_laysListed_153 : decode cX7_laysListed 153 = .ok (.iconst 0, 1) := by decide +kernel
theorem dX7_laysListed_154 : decode cX7_laysListed 154 = .ok (.istore_n 3, 1) := by decide +kernel
theorem dX7_laysListed_155 : decode cX7_laysListed 155 = .ok (.iload_n 3, 1) := by decide +kernel
theorem dX7_laysListed_156 : decode cX7_laysListed 156 = .ok (.aload_n 0, 1) := by decide +kernel
theorem dX7_laysListed_157 : decode cX7_laysListed 157 = .ok (.getfield 19, 3) := by decide +kernel
theorem dX7_laysListed_160 : decode cX7_laysListed 160 = .ok (.iconst 1, 1) := by decide +kernel
theorem dX7_laysListed_161 : decode cX7_laysListed 161 = .ok (.iaload, 1) := by decide +kernel
theorem dX7_laysListed_162 : decode cX7_laysListed 162 = .ok (.if_icmp .ge 27, 3) := by decide +kernel
theorem dX7_laysListed_165 : decode cX7_laysListed 165 = .ok (.aload_n 0, 1) := by decide +kernel
theorem dX7_laysListed_166 : decode cX7_laysListed 166 = .ok (.getfield 31, 3) := by decide +kernel
theorem dX7_laysListed_169 : decode cX7_laysListed 169 = .ok (.iload_n 1, 1) := by decide +kernel
theorem dX7_laysListed_170 : decode cX7_laysListed 170 = .ok (.aload_n 0, 1) := by decide +kernel
theorem dX7_laysListed_171 : decode cX7_laysListed 171 = .ok (.getfield 16, 3) := by decide +kernel
theorem dX7_laysListed_174 : decode cX7_laysListed 174 = .ok (.bipush 64, 2) := by decide +kernel
theorem dX7_laysListed_176 : decode cX7_laysListed 176 = .ok (.iload_n 3, 1) := by decide +kernel
theorem dX7_laysListed_177 : decode cX7_laysListed 177 = .ok (.iadd, 1) := by decide +kernel
theorem dX7_laysListed_178 : decode cX7_laysListed 178 = .ok (.iaload, 1) := by decide +kernel
theorem dX7_laysListed_179 : decode cX7_laysListed 179 = .ok (.iastore, 1) := by decide +kernel
theorem dX7_laysListed_180 : decode cX7_laysListed 180 = .ok (.iinc 1 1, 3) := by decide +kernel
theorem dX7_laysListed_183 : decode cX7_laysListed 183 = .ok (.iinc 3 1, 3) := by decide +kernel
theorem dX7_laysListed_186 : decode cX7_laysListed 186 = .ok (.goto (-31), 3) := by decide +kernel
theorem dX7_laysListed_189 : decode cX7_laysListed 189 = .ok (.iload_n 1, 1) := by decide +kernel
theorem dX7_laysListed_190 : decode cX7_laysListed 190 = .ok (.ireturn, 1) := by decide +kernel
theorem dX7_isGap_0 : decode cX7_isGap 0 = .ok (.aload_n 0, 1) := by decide +kernel
theorem dX7_isGap_1 : decode cX7_isGap 1 = .ok (.iload_n 1, 1) := by decide +kernel
theorem dX7_isGap_2 : decode cX7_isGap 2 = .ok (.invokevirtual 128, 3) := by decide +kernel
theorem dX7_isGap_5 : decode cX7_isGap 5 = .ok (.istore_n 2, 1) := by decide +kernel
theorem dX7_isGap_6 : decode cX7_isGap 6 = .ok (.aload_n 0, 1) := by decide +kernel
theorem dX7_isGap_7 : decode cX7_isGap 7 = .ok (.iload_n 1, 1) := by decide +kernel
theorem dX7_isGap_8 : decode cX7_isGap 8 = .ok (.invokevirtual 131, 3) := by decide +kernel
theorem dX7_isGap_11 : decode cX7_isGap 11 = .ok (.aload_n 0, 1) := by decide +kernel
theorem dX7_isGap_12 : decode cX7_isGap 12 = .ok (.invokevirtual 134, 3) := by decide +kernel
theorem dX7_isGap_15 : decode cX7_isGap 15 = .ok (.iload_n 2, 1) := by decide +kernel
theorem dX7_isGap_16 : decode cX7_isGap 16 = .ok (.if_icmp .ne 7, 3) := by decide +kernel
theorem dX7_isGap_19 : decode cX7_isGap 19 = .ok (.iconst 1, 1) := by decide +kernel
theorem dX7_isGap_20 : decode cX7_isGap 20 = .ok (.goto 4, 3) := by decide +kernel
theorem dX7_isGap_23 : decode cX7_isGap 23 = .ok (.iconst 0, 1) := by decide +kernel
theorem dX7_isGap_24 : decode cX7_isGap 24 = .ok (.istore_n 3, 1) := by decide +kernel
theorem dX7_isGap_25 : decode cX7_isGap 25 = .ok (.iconst 0, 1) := by decide +kernel
theorem dX7_isGap_26 : decode cX7_isGap 26 = .ok (.istore 4, 2) := by decide +kernel
theorem dX7_isGap_28 : decode cX7_isGap 28 = .ok (.iload 4, 2) := by decide +kernel
theorem dX7_isGap_30 : decode cX7_isGap 30 = .ok (.iload_n 2, 1) := by decide +kernel
theorem dX7_isGap_31 : decode cX7_isGap 31 = .ok (.if_icmp .ge 36, 3) := by decide +kernel
theorem dX7_isGap_34 : decode cX7_isGap 34 = .ok (.iload_n 3, 1) := by decide +kernel
theorem dX7_isGap_35 : decode cX7_isGap 35 = .ok (.ifCond .eq 32, 3) := by decide +kernel
theorem dX7_isGap_38 : decode cX7_isGap 38 = .ok (.aload_n 0, 1) := by decide +kernel
theorem dX7_isGap_39 : decode cX7_isGap 39 = .ok (.getfield 31, 3) := by decide +kernel
theorem dX7_isGap_42 : decode cX7_isGap 42 = .ok (.iload 4, 2) := by decide +kernel
theorem dX7_isGap_44 : decode cX7_isGap 44 = .ok (.iaload, 1) := by decide +kernel
theorem dX7_isGap_45 : decode cX7_isGap 45 = .ok (.aload_n 0, 1) := by decide +kernel
theorem dX7_isGap_46 : decode cX7_isGap 46 = .ok (.getfield 25, 3) := by decide +kernel
theorem dX7_isGap_49 : decode cX7_isGap 49 = .ok (.iload 4, 2) := by decide +kernel
theorem dX7_isGap_51 : decode cX7_isGap 51 = .ok (.iaload, 1) := by decide +kernel
theorem dX7_isGap_52 : decode cX7_isGap 52 = .ok (.if_icmp .ne 7, 3) := by decide +kernel
theorem dX7_isGap_55 : decode cX7_isGap 55 = .ok (.iconst 1, 1) := by decide +kernel
theorem dX7_isGap_56 : decode cX7_isGap 56 = .ok (.goto 4, 3) := by decide +kernel
theorem dX7_isGap_59 : decode cX7_isGap 59 = .ok (.iconst 0, 1) := by decide +kernel
theorem dX7_isGap_60 : decode cX7_isGap 60 = .ok (.istore_n 3, 1) := by decide +kernel
theorem dX7_isGap_61 : decode cX7_isGap 61 = .ok (.iinc 4 1, 3) := by decide +kernel
theorem dX7_isGap_64 : decode cX7_isGap 64 = .ok (.goto (-36), 3) := by decide +kernel
theorem dX7_isGap_67 : decode cX7_isGap 67 = .ok (.iload_n 3, 1) := by decide +kernel
theorem dX7_isGap_68 : decode cX7_isGap 68 = .ok (.ifCond .ne 7, 3) := by decide +kernel
theorem dX7_isGap_71 : decode cX7_isGap 71 = .ok (.iconst 1, 1) := by decide +kernel
theorem dX7_isGap_72 : decode cX7_isGap 72 = .ok (.goto 4, 3) := by decide +kernel
theorem dX7_isGap_75 : decode cX7_isGap 75 = .ok (.iconst 0, 1) := by decide +kernel
theorem dX7_isGap_76 : decode cX7_isGap 76 = .ok (.ireturn, 1) := by decide +kernel
theorem dX7_makes_0 : decode cX7_makes 0 = .ok (.aload_n 0, 1) := by decide +kernel
theorem dX7_makes_1 : decode cX7_makes 1 = .ok (.invokevirtual 65, 3) := by decide +kernel
theorem dX7_makes_4 : decode cX7_makes 4 = .ok (.istore_n 3, 1) := by decide +kernel
theorem dX7_makes_5 : decode cX7_makes 5 = .ok (.aload_n 0, 1) := by decide +kernel
theorem dX7_makes_6 : decode cX7_makes 6 = .ok (.iload_n 3, 1) := by decide +kernel
theorem dX7_makes_7 : decode cX7_makes 7 = .ok (.iconst 0, 1) := by decide +kernel
theorem dX7_makes_8 : decode cX7_makes 8 = .ok (.iload_n 1, 1) := by decide +kernel
theorem dX7_makes_9 : decode cX7_makes 9 = .ok (.invokevirtual 61, 3) := by decide +kernel
theorem dX7_makes_12 : decode cX7_makes 12 = .ok (.aload_n 0, 1) := by decide +kernel
theorem dX7_makes_13 : decode cX7_makes 13 = .ok (.iload_n 3, 1) := by decide +kernel
theorem dX7_makes_14 : decode cX7_makes 14 = .ok (.iconst 1, 1) := by decide +kernel
theorem dX7_makes_15 : decode cX7_makes 15 = .ok (.iload_n 2, 1) := by decide +kernel
theorem dX7_makes_16 : decode cX7_makes 16 = .ok (.invokevirtual 61, 3) := by decide +kernel
theorem dX7_makes_19 : decode cX7_makes 19 = .ok (.aload_n 0, 1) := by decide +kernel
theorem dX7_makes_20 : decode cX7_makes 20 = .ok (.iload_n 3, 1) := by decide +kernel
theorem dX7_makes_21 : decode cX7_makes 21 = .ok (.iconst 2, 1) := by decide +kernel
theorem dX7_makes_22 : decode cX7_makes 22 = .ok (.aload_n 0, 1) := by decide +kernel
theorem dX7_makes_23 : decode cX7_makes 23 = .ok (.iconst 1, 1) := by decide +kernel
theorem dX7_makes_24 : decode cX7_makes 24 = .ok (.invokevirtual 50, 3) := by decide +kernel
theorem dX7_makes_27 : decode cX7_makes 27 = .ok (.invokevirtual 61, 3) := by decide +kernel
theorem dX7_makes_30 : decode cX7_makes 30 = .ok (.aload_n 0, 1) := by decide +kernel
theorem dX7_makes_31 : decode cX7_makes 31 = .ok (.iload_n 3, 1) := by decide +kernel
theorem dX7_makes_32 : decode cX7_makes 32 = .ok (.iconst 3, 1) := by decide +kernel
theorem dX7_makes_33 : decode cX7_makes 33 = .ok (.aload_n 0, 1) := by decide +kernel
theorem dX7_makes_34 : decode cX7_makes 34 = .ok (.iload_n 1, 1) := by decide +kernel
theorem dX7_makes_35 : decode cX7_makes 35 = .ok (.iconst 3, 1) := by decide +kernel
theorem dX7_makes_36 : decode cX7_makes 36 = .ok (.invokevirtual 105, 3) := by decide +kernel
theorem dX7_makes_39 : decode cX7_makes 39 = .ok (.iconst 1, 1) := by decide +kernel
theorem dX7_makes_40 : decode cX7_makes 40 = .ok (.iadd, 1) := by decide +kernel
theorem dX7_makes_41 : decode cX7_makes 41 = .ok (.invokevirtual 61, 3) := by decide +kernel
theorem dX7_makes_44 : decode cX7_makes 44 = .ok (.aload_n 0, 1) := by decide +kernel
theorem dX7_makes_45 : decode cX7_makes 45 = .ok (.iconst 0, 1) := by decide +kernel
theorem dX7_makes_46 : decode cX7_makes 46 = .ok (.iload_n 3, 1) := by decide +kernel
theorem dX7_makes_47 : decode cX7_makes 47 = .ok (.iconst 1, 1) := by decide +kernel
theorem dX7_makes_48 : decode cX7_makes 48 = .ok (.iadd, 1) := by decide +kernel
theorem dX7_makes_49 : decode cX7_makes 49 = .ok (.invokevirtual 54, 3) := by decide +kernel
theorem dX7_makes_52 : decode cX7_makes 52 = .ok (.aload_n 0, 1) := by decide +kernel
theorem dX7_makes_53 : decode cX7_makes 53 = .ok (.iload_n 3, 1) := by decide +kernel
theorem dX7_makes_54 : decode cX7_makes 54 = .ok (.invokevirtual 131, 3) := by decide +kernel
theorem dX7_makes_57 : decode cX7_makes 57 = .ok (.aload_n 0, 1) := by decide +kernel
theorem dX7_makes_58 : decode cX7_makes 58 = .ok (.iload_n 3, 1) := by decide +kernel
theorem dX7_makes_59 : decode cX7_makes 59 = .ok (.iconst 4, 1) := by decide +kernel
theorem dX7_makes_60 : decode cX7_makes 60 = .ok (.aload_n 0, 1) := by decide +kernel
theorem dX7_makes_61 : decode cX7_makes 61 = .ok (.getfield 85, 3) := by decide +kernel
theorem dX7_makes_64 : decode cX7_makes 64 = .ok (.invokevirtual 61, 3) := by decide +kernel
theorem dX7_makes_67 : decode cX7_makes 67 = .ok (.iload_n 3, 1) := by decide +kernel
theorem dX7_makes_68 : decode cX7_makes 68 = .ok (.ireturn, 1) := by decide +kernel
theorem dX7_children_0 : decode cX7_children 0 = .ok (.iconst 0, 1) := by decide +kernel
theorem dX7_children_1 : decode cX7_children 1 = .ok (.istore_n 2, 1) := by decide +kernel
theorem dX7_children_2 : decode cX7_children 2 = .ok (.iconst 0, 1) := by decide +kernel
theorem dX7_children_3 : decode cX7_children 3 = .ok (.istore_n 3, 1) := by decide +kernel
theorem dX7_children_4 : decode cX7_children 4 = .ok (.iload_n 3, 1) := by decide +kernel
theorem dX7_children_5 : decode cX7_children 5 = .ok (.aload_n 0, 1) := by decide +kernel
theorem dX7_children_6 : decode cX7_children 6 = .ok (.invokevirtual 65, 3) := by decide +kernel
theorem dX7_children_9 : decode cX7_children 9 = .ok (.if_icmp .ge 27, 3) := by decide +kernel
theorem dX7_children_12 : decode cX7_children 12 = .ok (.iload_n 2, 1) := by decide +kernel
theorem dX7_children_13 : decode cX7_children 13 = .ok (.aload_n 0, 1) := by decide +kernel
theorem dX7_children_14 : decode cX7_children 14 = .ok (.iload_n 3, 1) := by decide +kernel
theorem dX7_children_15 : decode cX7_children 15 = .ok (.iconst 0, 1) := by decide +kernel
theorem dX7_children_16 : decode cX7_children 16 = .ok (.invokevirtual 105, 3) := by decide +kernel
theorem dX7_children_19 : decode cX7_children 19 = .ok (.iload_n 1, 1) := by decide +kernel
theorem dX7_children_20 : decode cX7_children 20 = .ok (.if_icmp .ne 7, 3) := by decide +kernel
theorem dX7_children_23 : decode cX7_children 23 = .ok (.iconst 1, 1) := by decide +kernel
theorem dX7_children_24 : decode cX7_children 24 = .ok (.goto 4, 3) := by decide +kernel
theorem dX7_children_27 : decode cX7_children 27 = .ok (.iconst 0, 1) := by decide +kernel
theorem dX7_children_28 : decode cX7_children 28 = .ok (.iadd, 1) := by decide +kernel
theorem dX7_children_29 : decode cX7_children 29 = .ok (.istore_n 2, 1) := by decide +kernel
theorem dX7_children_30 : decode cX7_children 30 = .ok (.iinc 3 1, 3) := by decide +kernel
theorem dX7_children_33 : decode cX7_children 33 = .ok (.goto (-29), 3) := by decide +kernel
theorem dX7_children_36 : decode cX7_children 36 = .ok (.iload_n 2, 1) := by decide +kernel
theorem dX7_children_37 : decode cX7_children 37 = .ok (.ireturn, 1) := by decide +kernel
theorem dX7_append_0 : decode cX7_append 0 = .ok (.aload_n 0, 1) := by decide +kernel
theorem dX7_append_1 : decode cX7_append 1 = .ok (.iconst 0, 1) := by decide +kernel
theorem dX7_append_2 : decode cX7_append 2 = .ok (.putfield 44, 3) := by decide +kernel
theorem dX7_append_5 : decode cX7_append 5 = .ok (.aload_n 0, 1) := by decide +kernel
theorem dX7_append_6 : decode cX7_append 6 = .ok (.getfield 137, 3) := by decide +kernel
theorem dX7_append_9 : decode cX7_append 9 = .ok (.bipush 20, 2) := by decide +kernel
theorem dX7_append_11 : decode cX7_append 11 = .ok (.iadd, 1) := by decide +kernel
theorem dX7_append_12 : decode cX7_append 12 = .ok (.sipush 500, 3) := by decide +kernel
theorem dX7_append_15 : decode cX7_append 15 = .ok (.if_icmp .le 5, 3) := by decide +kernel
theorem dX7_append_18 : decode cX7_append 18 = .ok (.iconst (-1), 1) := by decide +kernel
theorem dX7_append_19 : decode cX7_append 19 = .ok (.ireturn, 1) := by decide +kernel
theorem dX7_append_20 : decode cX7_append 20 = .ok (.aload_n 0, 1) := by decide +kernel
theorem dX7_append_21 : decode cX7_append 21 = .ok (.iload_n 1, 1) := by decide +kernel
theorem dX7_append_22 : decode cX7_append 22 = .ok (.invokevirtual 140, 3) := by decide +kernel
theorem dX7_append_25 : decode cX7_append 25 = .ok (.aload_n 0, 1) := by decide +kernel
theorem dX7_append_26 : decode cX7_append 26 = .ok (.iload_n 2, 1) := by decide +kernel
theorem dX7_append_27 : decode cX7_append 27 = .ok (.invokevirtual 140, 3) := by decide +kernel
theorem dX7_append_30 : decode cX7_append 30 = .ok (.aload_n 0, 1) := by decide +kernel
theorem dX7_append_31 : decode cX7_append 31 = .ok (.iload_n 3, 1) := by decide +kernel
theorem dX7_append_32 : decode cX7_append 32 = .ok (.invokevirtual 140, 3) := by decide +kernel
theorem dX7_append_35 : decode cX7_append 35 = .ok (.aload_n 0, 1) := by decide +kernel
theorem dX7_append_36 : decode cX7_append 36 = .ok (.iload 4, 2) := by decide +kernel
theorem dX7_append_38 : decode cX7_append 38 = .ok (.invokevirtual 140, 3) := by decide +kernel
theorem dX7_append_41 : decode cX7_append 41 = .ok (.aload_n 0, 1) := by decide +kernel
theorem dX7_append_42 : decode cX7_append 42 = .ok (.iload 5, 2) := by decide +kernel
theorem dX7_append_44 : decode cX7_append 44 = .ok (.invokevirtual 140, 3) := by decide +kernel
theorem dX7_append_47 : decode cX7_append 47 = .ok (.aload_n 0, 1) := by decide +kernel
theorem dX7_append_48 : decode cX7_append 48 = .ok (.getfield 137, 3) := by decide +kernel
theorem dX7_append_51 : decode cX7_append 51 = .ok (.ireturn, 1) := by decide +kernel
theorem dX7_four_0 : decode cX7_four 0 = .ok (.bipush 24, 2) := by decide +kernel
theorem dX7_four_2 : decode cX7_four 2 = .ok (.istore_n 2, 1) := by decide +kernel
theorem dX7_four_3 : decode cX7_four 3 = .ok (.iload_n 2, 1) := by decide +kernel
theorem dX7_four_4 : decode cX7_four 4 = .ok (.ifCond .lt 35, 3) := by decide +kernel
theorem dX7_four_7 : decode cX7_four 7 = .ok (.aload_n 0, 1) := by decide +kernel
theorem dX7_four_8 : decode cX7_four 8 = .ok (.getfield 34, 3) := by decide +kernel
theorem dX7_four_11 : decode cX7_four 11 = .ok (.aload_n 0, 1) := by decide +kernel
theorem dX7_four_12 : decode cX7_four 12 = .ok (.getfield 137, 3) := by decide +kernel
theorem dX7_four_15 : decode cX7_four 15 = .ok (.iload_n 1, 1) := by decide +kernel
theorem dX7_four_16 : decode cX7_four 16 = .ok (.iload_n 2, 1) := by decide +kernel
theorem dX7_four_17 : decode cX7_four 17 = .ok (.ishr, 1) := by decide +kernel
theorem dX7_four_18 : decode cX7_four 18 = .ok (.sipush 255, 3) := by decide +kernel
theorem dX7_four_21 : decode cX7_four 21 = .ok (.iand, 1) := by decide +kernel
theorem dX7_four_22 : decode cX7_four 22 = .ok (.iastore, 1) := by decide +kernel
theorem dX7_four_23 : decode cX7_four 23 = .ok (.aload_n 0, 1) := by decide +kernel
theorem dX7_four_24 : decode cX7_four 24 = .ok (.dup, 1) := by decide +kernel
theorem dX7_four_25 : decode cX7_four 25 = .ok (.getfield 137, 3) := by decide +kernel
theorem dX7_four_28 : decode cX7_four 28 = .ok (.iconst 1, 1) := by decide +kernel
theorem dX7_four_29 : decode cX7_four 29 = .ok (.iadd, 1) := by decide +kernel
theorem dX7_four_30 : decode cX7_four 30 = .ok (.putfield 137, 3) := by decide +kernel
theorem dX7_four_33 : decode cX7_four 33 = .ok (.iinc 2 (-8), 3) := by decide +kernel
theorem dX7_four_36 : decode cX7_four 36 = .ok (.goto (-33), 3) := by decide +kernel
theorem dX7_four_39 : decode cX7_four 39 = .ok (.return_, 1) := by decide +kernel
theorem dX7_errorOffset_0 : decode cX7_errorOffset 0 = .ok (.aload_n 0, 1) := by decide +kernel
theorem dX7_errorOffset_1 : decode cX7_errorOffset 1 = .ok (.iconst 0, 1) := by decide +kernel
theorem dX7_errorOffset_2 : decode cX7_errorOffset 2 = .ok (.putfield 44, 3) := by decide +kernel
theorem dX7_errorOffset_5 : decode cX7_errorOffset 5 = .ok (.aload_n 0, 1) := by decide +kernel
theorem dX7_errorOffset_6 : decode cX7_errorOffset 6 = .ok (.getfield 37, 3) := by decide +kernel
theorem dX7_errorOffset_9 : decode cX7_errorOffset 9 = .ok (.ireturn, 1) := by decide +kernel
theorem dX7_fails_0 : decode cX7_fails 0 = .ok (.aload_n 0, 1) := by decide +kernel
theorem dX7_fails_1 : decode cX7_fails 1 = .ok (.getfield 143, 3) := by decide +kernel
theorem dX7_fails_4 : decode cX7_fails 4 = .ok (.ifCond .eq 5, 3) := by decide +kernel
theorem dX7_fails_7 : decode cX7_fails 7 = .ok (.iconst 0, 1) := by decide +kernel
theorem dX7_fails_8 : decode cX7_fails 8 = .ok (.ireturn, 1) := by decide +kernel
theorem dX7_fails_9 : decode cX7_fails 9 = .ok (.aload_n 0, 1) := by decide +kernel
theorem dX7_fails_10 : decode cX7_fails 10 = .ok (.iload_n 1, 1) := by decide +kernel
theorem dX7_fails_11 : decode cX7_fails 11 = .ok (.putfield 143, 3) := by decide +kernel
theorem dX7_fails_14 : decode cX7_fails 14 = .ok (.aload_n 0, 1) := by decide +kernel
theorem dX7_fails_15 : decode cX7_fails 15 = .ok (.iload_n 2, 1) := by decide +kernel
theorem dX7_fails_16 : decode cX7_fails 16 = .ok (.putfield 37, 3) := by decide +kernel
theorem dX7_fails_19 : decode cX7_fails 19 = .ok (.iconst 0, 1) := by decide +kernel
theorem dX7_fails_20 : decode cX7_fails 20 = .ok (.ireturn, 1) := by decide +kernel
theorem dX7_here_0 : decode cX7_here 0 = .ok (.aload_n 0, 1) := by decide +kernel
theorem dX7_here_1 : decode cX7_here 1 = .ok (.getfield 146, 3) := by decide +kernel
theorem dX7_here_4 : decode cX7_here 4 = .ok (.aload_n 0, 1) := by decide +kernel
theorem dX7_here_5 : decode cX7_here 5 = .ok (.getfield 149, 3) := by decide +kernel
theorem dX7_here_8 : decode cX7_here 8 = .ok (.if_icmp .ge 30, 3) := by decide +kernel
theorem dX7_here_11 : decode cX7_here 11 = .ok (.aload_n 0, 1) := by decide +kernel
theorem dX7_here_12 : decode cX7_here 12 = .ok (.getfield 34, 3) := by decide +kernel
theorem dX7_here_15 : decode cX7_here 15 = .ok (.aload_n 0, 1) := by decide +kernel
theorem dX7_here_16 : decode cX7_here 16 = .ok (.getfield 146, 3) := by decide +kernel
theorem dX7_here_19 : decode cX7_here 19 = .ok (.iaload, 1) := by decide +kernel
theorem dX7_here_20 : decode cX7_here 20 = .ok (.bipush 32, 2) := by decide +kernel
theorem dX7_here_22 : decode cX7_here 22 = .ok (.if_icmp .ne 16, 3) := by decide +kernel
theorem dX7_here_25 : decode cX7_here 25 = .ok (.aload_n 0, 1) := by decide +kernel
theorem dX7_here_26 : decode cX7_here 26 = .ok (.dup, 1) := by decide +kernel
theorem dX7_here_27 : decode cX7_here 27 = .ok (.getfield 146, 3) := by decide +kernel
theorem dX7_here_30 : decode cX7_here 30 = .ok (.iconst 1, 1) := by decide +kernel
theorem dX7_here_31 : decode cX7_here 31 = .ok (.iadd, 1) := by decide +kernel
theorem dX7_here_32 : decode cX7_here 32 = .ok (.putfield 146, 3) := by decide +kernel
theorem dX7_here_35 : decode cX7_here 35 = .ok (.goto (-35), 3) := by decide +kernel
theorem dX7_here_38 : decode cX7_here 38 = .ok (.aload_n 0, 1) := by decide +kernel
theorem dX7_here_39 : decode cX7_here 39 = .ok (.getfield 146, 3) := by decide +kernel
theorem dX7_here_42 : decode cX7_here 42 = .ok (.aload_n 0, 1) := by decide +kernel
theorem dX7_here_43 : decode cX7_here 43 = .ok (.getfield 149, 3) := by decide +kernel
theorem dX7_here_46 : decode cX7_here 46 = .ok (.if_icmp .ge 15, 3) := by decide +kernel
theorem dX7_here_49 : decode cX7_here 49 = .ok (.aload_n 0, 1) := by decide +kernel
theorem dX7_here_50 : decode cX7_here 50 = .ok (.getfield 34, 3) := by decide +kernel
theorem dX7_here_53 : decode cX7_here 53 = .ok (.aload_n 0, 1) := by decide +kernel
theorem dX7_here_54 : decode cX7_here 54 = .ok (.getfield 146, 3) := by decide +kernel
theorem dX7_here_57 : decode cX7_here 57 = .ok (.iaload, 1) := by decide +kernel
theorem dX7_here_58 : decode cX7_here 58 = .ok (.goto 4, 3) := by decide +kernel
theorem dX7_here_61 : decode cX7_here 61 = .ok (.iconst (-1), 1) := by decide +kernel
theorem dX7_here_62 : decode cX7_here 62 = .ok (.ireturn, 1) := by decide +kernel
theorem dX7_isSmall_0 : decode cX7_isSmall 0 = .ok (.iload_n 0, 1) := by decide +kernel
theorem dX7_isSmall_1 : decode cX7_isSmall 1 = .ok (.bipush 97, 2) := by decide +kernel
theorem dX7_isSmall_3 : decode cX7_isSmall 3 = .ok (.if_icmp .lt 13, 3) := by decide +kernel
theorem dX7_isSmall_6 : decode cX7_isSmall 6 = .ok (.iload_n 0, 1) := by decide +kernel
theorem dX7_isSmall_7 : decode cX7_isSmall 7 = .ok (.bipush 122, 2) := by decide +kernel
theorem dX7_isSmall_9 : decode cX7_isSmall 9 = .ok (.if_icmp .gt 7, 3) := by decide +kernel
theorem dX7_isSmall_12 : decode cX7_isSmall 12 = .ok (.iconst 1, 1) := by decide +kernel
theorem dX7_isSmall_13 : decode cX7_isSmall 13 = .ok (.goto 4, 3) := by decide +kernel
theorem dX7_isSmall_16 : decode cX7_isSmall 16 = .ok (.iconst 0, 1) := by decide +kernel
theorem dX7_isSmall_17 : decode cX7_isSmall 17 = .ok (.ireturn, 1) := by decide +kernel
theorem dX7_isDigit_0 : decode cX7_isDigit 0 = .ok (.iload_n 0, 1) := by decide +kernel
theorem dX7_isDigit_1 : decode cX7_isDigit 1 = .ok (.bipush 48, 2) := by decide +kernel
theorem dX7_isDigit_3 : decode cX7_isDigit 3 = .ok (.if_icmp .lt 13, 3) := by decide +kernel
theorem dX7_isDigit_6 : decode cX7_isDigit 6 = .ok (.iload_n 0, 1) := by decide +kernel
theorem dX7_isDigit_7 : decode cX7_isDigit 7 = .ok (.bipush 57, 2) := by decide +kernel
theorem dX7_isDigit_9 : decode cX7_isDigit 9 = .ok (.if_icmp .gt 7, 3) := by decide +kernel
theorem dX7_isDigit_12 : decode cX7_isDigit 12 = .ok (.iconst 1, 1) := by decide +kernel
theorem dX7_isDigit_13 : decode cX7_isDigit 13 = .ok (.goto 4, 3) := by decide +kernel
theorem dX7_isDigit_16 : decode cX7_isDigit 16 = .ok (.iconst 0, 1) := by decide +kernel
theorem dX7_isDigit_17 : decode cX7_isDigit 17 = .ok (.ireturn, 1) := by decide +kernel
theorem dX7_passes_0 : decode cX7_passes 0 = .ok (.aload_n 0, 1) := by decide +kernel
theorem dX7_passes_1 : decode cX7_passes 1 = .ok (.invokevirtual 151, 3) := by decide +kernel
theorem dX7_passes_4 : decode cX7_passes 4 = .ok (.pop, 1) := by decide +kernel
theorem dX7_passes_5 : decode cX7_passes 5 = .ok (.iconst 0, 1) := by decide +kernel
theorem dX7_passes_6 : decode cX7_passes 6 = .ok (.istore_n 2, 1) := by decide +kernel
theorem dX7_passes_7 : decode cX7_passes 7 = .ok (.aload_n 0, 1) := by decide +kernel
theorem dX7_passes_8 : decode cX7_passes 8 = .ok (.getfield 146, 3) := by decide +kernel
theorem dX7_passes_11 : decode cX7_passes 11 = .ok (.iload_n 2, 1) := by decide +kernel
theorem dX7_passes_12 : decode cX7_passes 12 = .ok (.iadd, 1) := by decide +kernel
theorem dX7_passes_13 : decode cX7_passes 13 = .ok (.aload_n 0, 1) := by decide +kernel
theorem dX7_passes_14 : decode cX7_passes 14 = .ok (.getfield 149, 3) := by decide +kernel
theorem dX7_passes_17 : decode cX7_passes 17 = .ok (.if_icmp .ge 26, 3) := by decide +kernel
theorem dX7_passes_20 : decode cX7_passes 20 = .ok (.aload_n 0, 1) := by decide +kernel
theorem dX7_passes_21 : decode cX7_passes 21 = .ok (.getfield 34, 3) := by decide +kernel
theorem dX7_passes_24 : decode cX7_passes 24 = .ok (.aload_n 0, 1) := by decide +kernel
theorem dX7_passes_25 : decode cX7_passes 25 = .ok (.getfield 146, 3) := by decide +kernel
theorem dX7_passes_28 : decode cX7_passes 28 = .ok (.iload_n 2, 1) := by decide +kernel
theorem dX7_passes_29 : decode cX7_passes 29 = .ok (.iadd, 1) := by decide +kernel
theorem dX7_passes_30 : decode cX7_passes 30 = .ok (.iaload, 1) := by decide +kernel
theorem dX7_passes_31 : decode cX7_passes 31 = .ok (.invokestatic 154, 3) := by decide +kernel
theorem dX7_passes_34 : decode cX7_passes 34 = .ok (.ifCond .eq 9, 3) := by decide +kernel
theorem dX7_passes_37 : decode cX7_passes 37 = .ok (.iinc 2 1, 3) := by decide +kernel
theorem dX7_passes_40 : decode cX7_passes 40 = .ok (.goto (-33), 3) := by decide +kernel
theorem dX7_passes_43 : decode cX7_passes 43 = .ok (.iload_n 2, 1) := by decide +kernel
theorem dX7_passes_44 : decode cX7_passes 44 = .ok (.aload_n 1, 1) := by decide +kernel
theorem dX7_passes_45 : decode cX7_passes 45 = .ok (.invokevirtual 158, 3) := by decide +kernel
theorem dX7_passes_48 : decode cX7_passes 48 = .ok (.if_icmp .eq 5, 3) := by decide +kernel
theorem dX7_passes_51 : decode cX7_passes 51 = .ok (.iconst 0, 1) := by decide +kernel
theorem dX7_passes_52 : decode cX7_passes 52 = .ok (.ireturn, 1) := by decide +kernel
theorem dX7_passes_53 : decode cX7_passes 53 = .ok (.iconst 0, 1) := by decide +kernel
theorem dX7_passes_54 : decode cX7_passes 54 = .ok (.istore_n 3, 1) := by decide +kernel
theorem dX7_passes_55 : decode cX7_passes 55 = .ok (.iload_n 3, 1) := by decide +kernel
theorem dX7_passes_56 : decode cX7_passes 56 = .ok (.iload_n 2, 1) := by decide +kernel
theorem dX7_passes_57 : decode cX7_passes 57 = .ok (.if_icmp .ge 30, 3) := by decide +kernel
theorem dX7_passes_60 : decode cX7_passes 60 = .ok (.aload_n 0, 1) := by decide +kernel
theorem dX7_passes_61 : decode cX7_passes 61 = .ok (.getfield 34, 3) := by decide +kernel
theorem dX7_passes_64 : decode cX7_passes 64 = .ok (.aload_n 0, 1) := by decide +kernel
theorem dX7_passes_65 : decode cX7_passes 65 = .ok (.getfield 146, 3) := by decide +kernel
theorem dX7_passes_68 : decode cX7_passes 68 = .ok (.iload_n 3, 1) := by decide +kernel
theorem dX7_passes_69 : decode cX7_passes 69 = .ok (.iadd, 1) := by decide +kernel
theorem dX7_passes_70 : decode cX7_passes 70 = .ok (.iaload, 1) := by decide +kernel
theorem dX7_passes_71 : decode cX7_passes 71 = .ok (.aload_n 1, 1) := by decide +kernel
theorem dX7_passes_72 : decode cX7_passes 72 = .ok (.iload_n 3, 1) := by decide +kernel
theorem dX7_passes_73 : decode cX7_passes 73 = .ok (.invokevirtual 162, 3) := by decide +kernel
theorem dX7_passes_76 : decode cX7_passes 76 = .ok (.if_icmp .eq 5, 3) := by decide +kernel
theorem dX7_passes_79 : decode cX7_passes 79 = .ok (.iconst 0, 1) := by decide +kernel
theorem dX7_passes_80 : decode cX7_passes 80 = .ok (.ireturn, 1) := by decide +kernel
theorem dX7_passes_81 : decode cX7_passes 81 = .ok (.iinc 3 1, 3) := by decide +kernel
theorem dX7_passes_84 : decode cX7_passes 84 = .ok (.goto (-29), 3) := by decide +kernel
theorem dX7_passes_87 : decode cX7_passes 87 = .ok (.aload_n 0, 1) := by decide +kernel
theorem dX7_passes_88 : decode cX7_passes 88 = .ok (.dup, 1) := by decide +kernel
theorem dX7_passes_89 : decode cX7_passes 89 = .ok (.getfield 146, 3) := by decide +kernel
theorem dX7_passes_92 : decode cX7_passes 92 = .ok (.iload_n 2, 1) := by decide +kernel
theorem dX7_passes_93 : decode cX7_passes 93 = .ok (.iadd, 1) := by decide +kernel
theorem dX7_passes_94 : decode cX7_passes 94 = .ok (.putfield 146, 3) := by decide +kernel
theorem dX7_passes_97 : decode cX7_passes 97 = .ok (.iconst 1, 1) := by decide +kernel
theorem dX7_passes_98 : decode cX7_passes 98 = .ok (.ireturn, 1) := by decide +kernel
theorem dX7_sign_0 : decode cX7_sign 0 = .ok (.aload_n 0, 1) := by decide +kernel
theorem dX7_sign_1 : decode cX7_sign 1 = .ok (.invokevirtual 151, 3) := by decide +kernel
theorem dX7_sign_4 : decode cX7_sign 4 = .ok (.iload_n 1, 1) := by decide +kernel
theorem dX7_sign_5 : decode cX7_sign 5 = .ok (.if_icmp .eq 14, 3) := by decide +kernel
theorem dX7_sign_8 : decode cX7_sign 8 = .ok (.aload_n 0, 1) := by decide +kernel
theorem dX7_sign_9 : decode cX7_sign 9 = .ok (.bipush (-2), 2) := by decide +kernel
theorem dX7_sign_11 : decode cX7_sign 11 = .ok (.aload_n 0, 1) := by decide +kernel
theorem dX7_sign_12 : decode cX7_sign 12 = .ok (.getfield 146, 3) := by decide +kernel
theorem dX7_sign_15 : decode cX7_sign 15 = .ok (.invokevirtual 166, 3) := by decide +kernel
theorem dX7_sign_18 : decode cX7_sign 18 = .ok (.ireturn, 1) := by decide +kernel
theorem dX7_sign_19 : decode cX7_sign 19 = .ok (.aload_n 0, 1) := by decide +kernel
theorem dX7_sign_20 : decode cX7_sign 20 = .ok (.dup, 1) := by decide +kernel
theorem dX7_sign_21 : decode cX7_sign 21 = .ok (.getfield 146, 3) := by decide +kernel
theorem dX7_sign_24 : decode cX7_sign 24 = .ok (.iconst 1, 1) := by decide +kernel
theorem dX7_sign_25 : decode cX7_sign 25 = .ok (.iadd, 1) := by decide +kernel
theorem dX7_sign_26 : decode cX7_sign 26 = .ok (.putfield 146, 3) := by decide +kernel
theorem dX7_sign_29 : decode cX7_sign 29 = .ok (.iconst 1, 1) := by decide +kernel
theorem dX7_sign_30 : decode cX7_sign 30 = .ok (.ireturn, 1) := by decide +kernel
theorem dX7_reads_0 : decode cX7_reads 0 = .ok (.aload_n 0, 1) := by decide +kernel
theorem dX7_reads_1 : decode cX7_reads 1 = .ok (.invokevirtual 151, 3) := by decide +kernel
theorem dX7_reads_4 : decode cX7_reads 4 = .ok (.invokestatic 170, 3) := by decide +kernel
theorem dX7_reads_7 : decode cX7_reads 7 = .ok (.ifCond .ne 14, 3) := by decide +kernel
theorem dX7_reads_10 : decode cX7_reads 10 = .ok (.aload_n 0, 1) := by decide +kernel
theorem dX7_reads_11 : decode cX7_reads 11 = .ok (.bipush (-2), 2) := by decide +kernel
theorem dX7_reads_13 : decode cX7_reads 13 = .ok (.aload_n 0, 1) := by decide +kernel
theorem dX7_reads_14 : decode cX7_reads 14 = .ok (.getfield 146, 3) := by decide +kernel
theorem dX7_reads_17 : decode cX7_reads 17 = .ok (.invokevirtual 166, 3) := by decide +kernel
theorem dX7_reads_20 : decode cX7_reads 20 = .ok (.ireturn, 1) := by decide +kernel
theorem dX7_reads_21 : decode cX7_reads 21 = .ok (.aload_n 0, 1) := by decide +kernel
theorem dX7_reads_22 : decode cX7_reads 22 = .ok (.aload_n 0, 1) := by decide +kernel
theorem dX7_reads_23 : decode cX7_reads 23 = .ok (.getfield 146, 3) := by decide +kernel
theorem dX7_reads_26 : decode cX7_reads 26 = .ok (.putfield 173, 3) := by decide +kernel
theorem dX7_reads_29 : decode cX7_reads 29 = .ok (.aload_n 0, 1) := by decide +kernel
theorem dX7_reads_30 : decode cX7_reads 30 = .ok (.iconst 0, 1) := by decide +kernel
theorem dX7_reads_31 : decode cX7_reads 31 = .ok (.putfield 176, 3) := by decide +kernel
theorem dX7_reads_34 : decode cX7_reads 34 = .ok (.aload_n 0, 1) := by decide +kernel
theorem dX7_reads_35 : decode cX7_reads 35 = .ok (.getfield 146, 3) := by decide +kernel
theorem dX7_reads_38 : decode cX7_reads 38 = .ok (.aload_n 0, 1) := by decide +kernel
theorem dX7_reads_39 : decode cX7_reads 39 = .ok (.getfield 149, 3) := by decide +kernel
theorem dX7_reads_42 : decode cX7_reads 42 = .ok (.if_icmp .ge 71, 3) := by decide +kernel
theorem dX7_reads_45 : decode cX7_reads 45 = .ok (.aload_n 0, 1) := by decide +kernel
theorem dX7_reads_46 : decode cX7_reads 46 = .ok (.getfield 34, 3) := by decide +kernel
theorem dX7_reads_49 : decode cX7_reads 49 = .ok (.aload_n 0, 1) := by decide +kernel
theorem dX7_reads_50 : decode cX7_reads 50 = .ok (.getfield 146, 3) := by decide +kernel
theorem dX7_reads_53 : decode cX7_reads 53 = .ok (.iaload, 1) := by decide +kernel
theorem dX7_reads_54 : decode cX7_reads 54 = .ok (.invokestatic 170, 3) := by decide +kernel
theorem dX7_reads_57 : decode cX7_reads 57 = .ok (.ifCond .eq 56, 3) := by decide +kernel
theorem dX7_reads_60 : decode cX7_reads 60 = .ok (.aload_n 0, 1) := by decide +kernel
theorem dX7_reads_61 : decode cX7_reads 61 = .ok (.aload_n 0, 1) := by decide +kernel
theorem dX7_reads_62 : decode cX7_reads 62 = .ok (.getfield 176, 3) := by decide +kernel
theorem dX7_reads_65 : decode cX7_reads 65 = .ok (.ldc 179, 2) := by decide +kernel
theorem dX7_reads_67 : decode cX7_reads 67 = .ok (.if_icmp .le 10, 3) := by decide +kernel
theorem dX7_reads_70 : decode cX7_reads 70 = .ok (.aload_n 0, 1) := by decide +kernel
theorem dX7_reads_71 : decode cX7_reads 71 = .ok (.getfield 176, 3) := by decide +kernel
theorem dX7_reads_74 : decode cX7_reads 74 = .ok (.goto 23, 3) := by decide +kernel
theorem dX7_reads_77 : decode cX7_reads 77 = .ok (.bipush 10, 2) := by decide +kernel
theorem dX7_reads_79 : decode cX7_reads 79 = .ok (.aload_n 0, 1) := by decide +kernel
theorem dX7_reads_80 : decode cX7_reads 80 = .ok (.getfield 176, 3) := by decide +kernel
theorem dX7_reads_83 : decode cX7_reads 83 = .ok (.imul, 1) := by decide +kernel
theorem dX7_reads_84 : decode cX7_reads 84 = .ok (.aload_n 0, 1) := by decide +kernel
theorem dX7_reads_85 : decode cX7_reads 85 = .ok (.getfield 34, 3) := by decide +kernel
theorem dX7_reads_88 : decode cX7_reads 88 = .ok (.aload_n 0, 1) := by decide +kernel
theorem dX7_reads_89 : decode cX7_reads 89 = .ok (.getfield 146, 3) := by decide +kernel
theorem dX7_reads_92 : decode cX7_reads 92 = .ok (.iaload, 1) := by decide +kernel
theorem dX7_reads_93 : decode cX7_reads 93 = .ok (.iadd, 1) := by decide +kernel
theorem dX7_reads_94 : decode cX7_reads 94 = .ok (.bipush 48, 2) := by decide +kernel
theorem dX7_reads_96 : decode cX7_reads 96 = .ok (.isub, 1) := by decide +kernel
theorem dX7_reads_97 : decode cX7_reads 97 = .ok (.putfield 176, 3) := by decide +kernel
theorem dX7_reads_100 : decode cX7_reads 100 = .ok (.aload_n 0, 1) := by decide +kernel
theorem dX7_reads_101 : decode cX7_reads 101 = .ok (.dup, 1) := by decide +kernel
theorem dX7_reads_102 : decode cX7_reads 102 = .ok (.getfield 146, 3) := by decide +kernel
theorem dX7_reads_105 : decode cX7_reads 105 = .ok (.iconst 1, 1) := by decide +kernel
theorem dX7_reads_106 : decode cX7_reads 106 = .ok (.iadd, 1) := by decide +kernel
theorem dX7_reads_107 : decode cX7_reads 107 = .ok (.putfield 146, 3) := by decide +kernel
theorem dX7_reads_110 : decode cX7_reads 110 = .ok (.goto (-76), 3) := by decide +kernel
theorem dX7_reads_113 : decode cX7_reads 113 = .ok (.aload_n 0, 1) := by decide +kernel
theorem dX7_reads_114 : decode cX7_reads 114 = .ok (.getfield 176, 3) := by decide +kernel
theorem dX7_reads_117 : decode cX7_reads 117 = .ok (.iload_n 1, 1) := by decide +kernel
theorem dX7_reads_118 : decode cX7_reads 118 = .ok (.iload_n 2, 1) := by decide +kernel
theorem dX7_reads_119 : decode cX7_reads 119 = .ok (.invokestatic 69, 3) := by decide +kernel
theorem dX7_reads_122 : decode cX7_reads 122 = .ok (.ifCond .ne 16, 3) := by decide +kernel
theorem dX7_reads_125 : decode cX7_reads 125 = .ok (.aload_n 0, 1) := by decide +kernel
theorem dX7_reads_126 : decode cX7_reads 126 = .ok (.bipush (-3), 2) := by decide +kernel
theorem dX7_reads_128 : decode cX7_reads 128 = .ok (.aload_n 0, 1) := by decide +kernel
theorem dX7_reads_129 : decode cX7_reads 129 = .ok (.getfield 173, 3) := by decide +kernel
theorem dX7_reads_132 : decode cX7_reads 132 = .ok (.invokevirtual 166, 3) := by decide +kernel
theorem dX7_reads_135 : decode cX7_reads 135 = .ok (.ifCond .eq 7, 3) := by decide +kernel
theorem dX7_reads_138 : decode cX7_reads 138 = .ok (.iconst 1, 1) := by decide +kernel
theorem dX7_reads_139 : decode cX7_reads 139 = .ok (.goto 4, 3) := by decide +kernel
theorem dX7_reads_142 : decode cX7_reads 142 = .ok (.iconst 0, 1) := by decide +kernel
theorem dX7_reads_143 : decode cX7_reads 143 = .ok (.ireturn, 1) := by decide +kernel
theorem dX7_readsPush_0 : decode cX7_readsPush 0 = .ok (.aload_n 0, 1) := by decide +kernel
theorem dX7_readsPush_1 : decode cX7_readsPush 1 = .ok (.iconst 0, 1) := by decide +kernel
theorem dX7_readsPush_2 : decode cX7_readsPush 2 = .ok (.putfield 180, 3) := by decide +kernel
theorem dX7_readsPush_5 : decode cX7_readsPush 5 = .ok (.aload_n 0, 1) := by decide +kernel
theorem dX7_readsPush_6 : decode cX7_readsPush 6 = .ok (.iconst 0, 1) := by decide +kernel
theorem dX7_readsPush_7 : decode cX7_readsPush 7 = .ok (.aload_n 0, 1) := by decide +kernel
theorem dX7_readsPush_8 : decode cX7_readsPush 8 = .ok (.invokevirtual 65, 3) := by decide +kernel
theorem dX7_readsPush_11 : decode cX7_readsPush 11 = .ok (.iconst 1, 1) := by decide +kernel
theorem dX7_readsPush_12 : decode cX7_readsPush 12 = .ok (.isub, 1) := by decide +kernel
theorem dX7_readsPush_13 : decode cX7_readsPush 13 = .ok (.invokevirtual 184, 3) := by decide +kernel
theorem dX7_readsPush_16 : decode cX7_readsPush 16 = .ok (.ifCond .ne 5, 3) := by decide +kernel
theorem dX7_readsPush_19 : decode cX7_readsPush 19 = .ok (.iconst 0, 1) := by decide +kernel
theorem dX7_readsPush_20 : decode cX7_readsPush 20 = .ok (.ireturn, 1) := by decide +kernel
theorem dX7_readsPush_21 : decode cX7_readsPush 21 = .ok (.aload_n 0, 1) := by decide +kernel
theorem dX7_readsPush_22 : decode cX7_readsPush 22 = .ok (.getfield 176, 3) := by decide +kernel
theorem dX7_readsPush_25 : decode cX7_readsPush 25 = .ok (.istore_n 1, 1) := by decide +kernel
theorem dX7_readsPush_26 : decode cX7_readsPush 26 = .ok (.aload_n 0, 1) := by decide +kernel
theorem dX7_readsPush_27 : decode cX7_readsPush 27 = .ok (.iconst 0, 1) := by decide +kernel
theorem dX7_readsPush_28 : decode cX7_readsPush 28 = .ok (.bipush 99, 2) := by decide +kernel
theorem dX7_readsPush_30 : decode cX7_readsPush 30 = .ok (.invokevirtual 184, 3) := by decide +kernel
