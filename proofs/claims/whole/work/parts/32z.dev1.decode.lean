theorem dX3_init_0 : decode cX3_init 0 = .ok (.aload_n 0, 1) := by decide +kernel
theorem dX3_init_1 : decode cX3_init 1 = .ok (.invokespecial 3, 3) := by decide +kernel
theorem dX3_init_4 : decode cX3_init 4 = .ok (.aload_n 0, 1) := by decide +kernel
theorem dX3_init_5 : decode cX3_init 5 = .ok (.iconst (-1), 1) := by decide +kernel
theorem dX3_init_6 : decode cX3_init 6 = .ok (.putfield 9, 3) := by decide +kernel
theorem dX3_init_9 : decode cX3_init 9 = .ok (.aload_n 0, 1) := by decide +kernel
theorem dX3_init_10 : decode cX3_init 10 = .ok (.aconst_null, 1) := by decide +kernel
theorem dX3_init_11 : decode cX3_init 11 = .ok (.putfield 15, 3) := by decide +kernel
theorem dX3_init_14 : decode cX3_init 14 = .ok (.aload_n 0, 1) := by decide +kernel
theorem dX3_init_15 : decode cX3_init 15 = .ok (.iconst 0, 1) := by decide +kernel
theorem dX3_init_16 : decode cX3_init 16 = .ok (.putfield 19, 3) := by decide +kernel
theorem dX3_init_19 : decode cX3_init 19 = .ok (.aload_n 0, 1) := by decide +kernel
theorem dX3_init_20 : decode cX3_init 20 = .ok (.aconst_null, 1) := by decide +kernel
theorem dX3_init_21 : decode cX3_init 21 = .ok (.putfield 22, 3) := by decide +kernel
theorem dX3_init_24 : decode cX3_init 24 = .ok (.aload_n 0, 1) := by decide +kernel
theorem dX3_init_25 : decode cX3_init 25 = .ok (.iconst 0, 1) := by decide +kernel
theorem dX3_init_26 : decode cX3_init 26 = .ok (.putfield 26, 3) := by decide +kernel
theorem dX3_init_29 : decode cX3_init 29 = .ok (.aload_n 0, 1) := by decide +kernel
theorem dX3_init_30 : decode cX3_init 30 = .ok (.iconst 0, 1) := by decide +kernel
theorem dX3_init_31 : decode cX3_init 31 = .ok (.putfield 29, 3) := by decide +kernel
theorem dX3_init_34 : decode cX3_init 34 = .ok (.aload_n 0, 1) := by decide +kernel
theorem dX3_init_35 : decode cX3_init 35 = .ok (.iconst 0, 1) := by decide +kernel
theorem dX3_init_36 : decode cX3_init 36 = .ok (.putfield 32, 3) := by decide +kernel
theorem dX3_init_39 : decode cX3_init 39 = .ok (.aload_n 0, 1) := by decide +kernel
theorem dX3_init_40 : decode cX3_init 40 = .ok (.iconst 0, 1) := by decide +kernel
theorem dX3_init_41 : decode cX3_init 41 = .ok (.putfield 35, 3) := by decide +kernel
theorem dX3_init_44 : decode cX3_init 44 = .ok (.aload_n 0, 1) := by decide +kernel
theorem dX3_init_45 : decode cX3_init 45 = .ok (.iconst 0, 1) := by decide +kernel
theorem dX3_init_46 : decode cX3_init 46 = .ok (.putfield 38, 3) := by decide +kernel
theorem dX3_init_49 : decode cX3_init 49 = .ok (.aload_n 0, 1) := by decide +kernel
theorem dX3_init_50 : decode cX3_init 50 = .ok (.iconst 1, 1) := by decide +kernel
theorem dX3_init_51 : decode cX3_init 51 = .ok (.putfield 41, 3) := by decide +kernel
theorem dX3_init_54 : decode cX3_init 54 = .ok (.return_, 1) := by decide +kernel
theorem dX3_read_0 : decode cX3_read 0 = .ok (.aload_n 0, 1) := by decide +kernel
theorem dX3_read_1 : decode cX3_read 1 = .ok (.aload_n 1, 1) := by decide +kernel
theorem dX3_read_2 : decode cX3_read 2 = .ok (.putfield 15, 3) := by decide +kernel
theorem dX3_read_5 : decode cX3_read 5 = .ok (.aload_n 0, 1) := by decide +kernel
theorem dX3_read_6 : decode cX3_read 6 = .ok (.iload_n 2, 1) := by decide +kernel
theorem dX3_read_7 : decode cX3_read 7 = .ok (.aload_n 1, 1) := by decide +kernel
theorem dX3_read_8 : decode cX3_read 8 = .ok (.arraylength, 1) := by decide +kernel
theorem dX3_read_9 : decode cX3_read 9 = .ok (.invokestatic 45, 3) := by decide +kernel
theorem dX3_read_12 : decode cX3_read 12 = .ok (.putfield 19, 3) := by decide +kernel
theorem dX3_read_15 : decode cX3_read 15 = .ok (.aload_n 0, 1) := by decide +kernel
theorem dX3_read_16 : decode cX3_read 16 = .ok (.aload_n 3, 1) := by decide +kernel
theorem dX3_read_17 : decode cX3_read 17 = .ok (.putfield 22, 3) := by decide +kernel
theorem dX3_read_20 : decode cX3_read 20 = .ok (.aload_n 0, 1) := by decide +kernel
theorem dX3_read_21 : decode cX3_read 21 = .ok (.iconst 0, 1) := by decide +kernel
theorem dX3_read_22 : decode cX3_read 22 = .ok (.putfield 26, 3) := by decide +kernel
theorem dX3_read_25 : decode cX3_read 25 = .ok (.aload_n 0, 1) := by decide +kernel
theorem dX3_read_26 : decode cX3_read 26 = .ok (.iconst (-1), 1) := by decide +kernel
theorem dX3_read_27 : decode cX3_read 27 = .ok (.putfield 9, 3) := by decide +kernel
theorem dX3_read_30 : decode cX3_read 30 = .ok (.aload_n 0, 1) := by decide +kernel
theorem dX3_read_31 : decode cX3_read 31 = .ok (.iconst 0, 1) := by decide +kernel
theorem dX3_read_32 : decode cX3_read 32 = .ok (.putfield 29, 3) := by decide +kernel
theorem dX3_read_35 : decode cX3_read 35 = .ok (.aload_n 0, 1) := by decide +kernel
theorem dX3_read_36 : decode cX3_read 36 = .ok (.iconst 1, 1) := by decide +kernel
theorem dX3_read_37 : decode cX3_read 37 = .ok (.putfield 41, 3) := by decide +kernel
theorem dX3_read_40 : decode cX3_read 40 = .ok (.aload_n 0, 1) := by decide +kernel
theorem dX3_read_41 : decode cX3_read 41 = .ok (.invokevirtual 51, 3) := by decide +kernel
theorem dX3_read_44 : decode cX3_read 44 = .ok (.aload_n 0, 1) := by decide +kernel
theorem dX3_read_45 : decode cX3_read 45 = .ok (.iconst 4, 1) := by decide +kernel
theorem dX3_read_46 : decode cX3_read 46 = .ok (.invokevirtual 54, 3) := by decide +kernel
theorem dX3_read_49 : decode cX3_read 49 = .ok (.ifCond .eq 15, 3) := by decide +kernel
theorem dX3_read_52 : decode cX3_read 52 = .ok (.aload_n 0, 1) := by decide +kernel
theorem dX3_read_53 : decode cX3_read 53 = .ok (.iconst 3, 1) := by decide +kernel
theorem dX3_read_54 : decode cX3_read 54 = .ok (.invokevirtual 54, 3) := by decide +kernel
theorem dX3_read_57 : decode cX3_read 57 = .ok (.ifCond .eq 7, 3) := by decide +kernel
theorem dX3_read_60 : decode cX3_read 60 = .ok (.iconst 1, 1) := by decide +kernel
theorem dX3_read_61 : decode cX3_read 61 = .ok (.goto 4, 3) := by decide +kernel
theorem dX3_read_64 : decode cX3_read 64 = .ok (.iconst 0, 1) := by decide +kernel
theorem dX3_read_65 : decode cX3_read 65 = .ok (.istore 4, 2) := by decide +kernel
theorem dX3_read_67 : decode cX3_read 67 = .ok (.iconst 0, 1) := by decide +kernel
theorem dX3_read_68 : decode cX3_read 68 = .ok (.istore 5, 2) := by decide +kernel
theorem dX3_read_70 : decode cX3_read 70 = .ok (.iload 5, 2) := by decide +kernel
theorem dX3_read_72 : decode cX3_read 72 = .ok (.aload_n 0, 1) := by decide +kernel
theorem dX3_read_73 : decode cX3_read 73 = .ok (.getfield 19, 3) := by decide +kernel
theorem dX3_read_76 : decode cX3_read 76 = .ok (.if_icmp .ge 109, 3) := by decide +kernel
theorem dX3_read_79 : decode cX3_read 79 = .ok (.iload 4, 2) := by decide +kernel
theorem dX3_read_81 : decode cX3_read 81 = .ok (.ifCond .eq 104, 3) := by decide +kernel
theorem dX3_read_84 : decode cX3_read 84 = .ok (.aload_n 0, 1) := by decide +kernel
theorem dX3_read_85 : decode cX3_read 85 = .ok (.getfield 35, 3) := by decide +kernel
theorem dX3_read_88 : decode cX3_read 88 = .ok (.ifCond .eq 97, 3) := by decide +kernel
theorem dX3_read_91 : decode cX3_read 91 = .ok (.aload_n 0, 1) := by decide +kernel
theorem dX3_read_92 : decode cX3_read 92 = .ok (.getfield 35, 3) := by decide +kernel
theorem dX3_read_95 : decode cX3_read 95 = .ok (.iconst 5, 1) := by decide +kernel
theorem dX3_read_96 : decode cX3_read 96 = .ok (.if_icmp .ne 12, 3) := by decide +kernel
theorem dX3_read_99 : decode cX3_read 99 = .ok (.aload_n 0, 1) := by decide +kernel
theorem dX3_read_100 : decode cX3_read 100 = .ok (.invokevirtual 58, 3) := by decide +kernel
theorem dX3_read_103 : decode cX3_read 103 = .ok (.istore 4, 2) := by decide +kernel
theorem dX3_read_105 : decode cX3_read 105 = .ok (.goto 54, 3) := by decide +kernel
theorem dX3_read_108 : decode cX3_read 108 = .ok (.aload_n 0, 1) := by decide +kernel
theorem dX3_read_109 : decode cX3_read 109 = .ok (.getfield 35, 3) := by decide +kernel
theorem dX3_read_112 : decode cX3_read 112 = .ok (.bipush 6, 2) := by decide +kernel
theorem dX3_read_114 : decode cX3_read 114 = .ok (.if_icmp .ne 12, 3) := by decide +kernel
theorem dX3_read_117 : decode cX3_read 117 = .ok (.aload_n 0, 1) := by decide +kernel
theorem dX3_read_118 : decode cX3_read 118 = .ok (.invokevirtual 62, 3) := by decide +kernel
theorem dX3_read_121 : decode cX3_read 121 = .ok (.istore 4, 2) := by decide +kernel
theorem dX3_read_123 : decode cX3_read 123 = .ok (.goto 36, 3) := by decide +kernel
theorem dX3_read_126 : decode cX3_read 126 = .ok (.aload_n 0, 1) := by decide +kernel
theorem dX3_read_127 : decode cX3_read 127 = .ok (.getfield 35, 3) := by decide +kernel
theorem dX3_read_130 : decode cX3_read 130 = .ok (.bipush 7, 2) := by decide +kernel
theorem dX3_read_132 : decode cX3_read 132 = .ok (.if_icmp .ne 19, 3) := by decide +kernel
theorem dX3_read_135 : decode cX3_read 135 = .ok (.aload_n 0, 1) := by decide +kernel
theorem dX3_read_136 : decode cX3_read 136 = .ok (.getfield 41, 3) := by decide +kernel
theorem dX3_read_139 : decode cX3_read 139 = .ok (.ifCond .eq 12, 3) := by decide +kernel
theorem dX3_read_142 : decode cX3_read 142 = .ok (.aload_n 0, 1) := by decide +kernel
theorem dX3_read_143 : decode cX3_read 143 = .ok (.invokevirtual 65, 3) := by decide +kernel
theorem dX3_read_146 : decode cX3_read 146 = .ok (.istore 4, 2) := by decide +kernel
theorem dX3_read_148 : decode cX3_read 148 = .ok (.goto 11, 3) := by decide +kernel
theorem dX3_read_151 : decode cX3_read 151 = .ok (.aload_n 0, 1) := by decide +kernel
theorem dX3_read_152 : decode cX3_read 152 = .ok (.bipush (-2), 2) := by decide +kernel
theorem dX3_read_154 : decode cX3_read 154 = .ok (.invokevirtual 68, 3) := by decide +kernel
theorem dX3_read_157 : decode cX3_read 157 = .ok (.istore 4, 2) := by decide +kernel
theorem dX3_read_159 : decode cX3_read 159 = .ok (.iload 4, 2) := by decide +kernel
theorem dX3_read_161 : decode cX3_read 161 = .ok (.ifCond .eq 15, 3) := by decide +kernel
theorem dX3_read_164 : decode cX3_read 164 = .ok (.aload_n 0, 1) := by decide +kernel
theorem dX3_read_165 : decode cX3_read 165 = .ok (.iconst 3, 1) := by decide +kernel
theorem dX3_read_166 : decode cX3_read 166 = .ok (.invokevirtual 54, 3) := by decide +kernel
theorem dX3_read_169 : decode cX3_read 169 = .ok (.ifCond .eq 7, 3) := by decide +kernel
theorem dX3_read_172 : decode cX3_read 172 = .ok (.iconst 1, 1) := by decide +kernel
theorem dX3_read_173 : decode cX3_read 173 = .ok (.goto 4, 3) := by decide +kernel
theorem dX3_read_176 : decode cX3_read 176 = .ok (.iconst 0, 1) := by decide +kernel
theorem dX3_read_177 : decode cX3_read 177 = .ok (.istore 4, 2) := by decide +kernel
theorem dX3_read_179 : decode cX3_read 179 = .ok (.iinc 5 1, 3) := by decide +kernel
theorem dX3_read_182 : decode cX3_read 182 = .ok (.goto (-112), 3) := by decide +kernel
theorem dX3_read_185 : decode cX3_read 185 = .ok (.aload_n 0, 1) := by decide +kernel
theorem dX3_read_186 : decode cX3_read 186 = .ok (.getfield 26, 3) := by decide +kernel
theorem dX3_read_189 : decode cX3_read 189 = .ok (.ireturn, 1) := by decide +kernel
theorem dX3_readPush_0 : decode cX3_readPush 0 = .ok (.aload_n 0, 1) := by decide +kernel
theorem dX3_readPush_1 : decode cX3_readPush 1 = .ok (.iconst 0, 1) := by decide +kernel
theorem dX3_readPush_2 : decode cX3_readPush 2 = .ok (.putfield 41, 3) := by decide +kernel
theorem dX3_readPush_5 : decode cX3_readPush 5 = .ok (.aload_n 0, 1) := by decide +kernel
theorem dX3_readPush_6 : decode cX3_readPush 6 = .ok (.invokevirtual 51, 3) := by decide +kernel
theorem dX3_readPush_9 : decode cX3_readPush 9 = .ok (.aload_n 0, 1) := by decide +kernel
theorem dX3_readPush_10 : decode cX3_readPush 10 = .ok (.iconst 0, 1) := by decide +kernel
theorem dX3_readPush_11 : decode cX3_readPush 11 = .ok (.aload_n 0, 1) := by decide +kernel
theorem dX3_readPush_12 : decode cX3_readPush 12 = .ok (.getfield 22, 3) := by decide +kernel
theorem dX3_readPush_15 : decode cX3_readPush 15 = .ok (.getfield 71, 3) := by decide +kernel
theorem dX3_readPush_18 : decode cX3_readPush 18 = .ok (.iconst 1, 1) := by decide +kernel
theorem dX3_readPush_19 : decode cX3_readPush 19 = .ok (.isub, 1) := by decide +kernel
theorem dX3_readPush_20 : decode cX3_readPush 20 = .ok (.invokevirtual 76, 3) := by decide +kernel
theorem dX3_readPush_23 : decode cX3_readPush 23 = .ok (.ifCond .ne 5, 3) := by decide +kernel
theorem dX3_readPush_26 : decode cX3_readPush 26 = .ok (.iconst 0, 1) := by decide +kernel
theorem dX3_readPush_27 : decode cX3_readPush 27 = .ok (.ireturn, 1) := by decide +kernel
theorem dX3_readPush_28 : decode cX3_readPush 28 = .ok (.aload_n 0, 1) := by decide +kernel
theorem dX3_readPush_29 : decode cX3_readPush 29 = .ok (.getfield 38, 3) := by decide +kernel
theorem dX3_readPush_32 : decode cX3_readPush 32 = .ok (.istore_n 1, 1) := by decide +kernel
theorem dX3_readPush_33 : decode cX3_readPush 33 = .ok (.aload_n 0, 1) := by decide +kernel
theorem dX3_readPush_34 : decode cX3_readPush 34 = .ok (.invokevirtual 51, 3) := by decide +kernel
theorem dX3_readPush_37 : decode cX3_readPush 37 = .ok (.iconst 0, 1) := by decide +kernel
theorem dX3_readPush_38 : decode cX3_readPush 38 = .ok (.istore_n 2, 1) := by decide +kernel
theorem dX3_readPush_39 : decode cX3_readPush 39 = .ok (.iload_n 2, 1) := by decide +kernel
theorem dX3_readPush_40 : decode cX3_readPush 40 = .ok (.bipush 64, 2) := by decide +kernel
theorem dX3_readPush_42 : decode cX3_readPush 42 = .ok (.if_icmp .ge 69, 3) := by decide +kernel
theorem dX3_readPush_45 : decode cX3_readPush 45 = .ok (.iload_n 2, 1) := by decide +kernel
theorem dX3_readPush_46 : decode cX3_readPush 46 = .ok (.ifCond .eq 11, 3) := by decide +kernel
theorem dX3_readPush_49 : decode cX3_readPush 49 = .ok (.aload_n 0, 1) := by decide +kernel
theorem dX3_readPush_50 : decode cX3_readPush 50 = .ok (.getfield 35, 3) := by decide +kernel
theorem dX3_readPush_53 : decode cX3_readPush 53 = .ok (.iconst 2, 1) := by decide +kernel
theorem dX3_readPush_54 : decode cX3_readPush 54 = .ok (.if_icmp .ne 57, 3) := by decide +kernel
theorem dX3_readPush_57 : decode cX3_readPush 57 = .ok (.aload_n 0, 1) := by decide +kernel
theorem dX3_readPush_58 : decode cX3_readPush 58 = .ok (.iconst 0, 1) := by decide +kernel
theorem dX3_readPush_59 : decode cX3_readPush 59 = .ok (.bipush 99, 2) := by decide +kernel
theorem dX3_readPush_61 : decode cX3_readPush 61 = .ok (.invokevirtual 76, 3) := by decide +kernel
theorem dX3_readPush_64 : decode cX3_readPush 64 = .ok (.ifCond .ne 5, 3) := by decide +kernel
theorem dX3_readPush_67 : decode cX3_readPush 67 = .ok (.iconst 0, 1) := by decide +kernel
theorem dX3_readPush_68 : decode cX3_readPush 68 = .ok (.ireturn, 1) := by decide +kernel
theorem dX3_readPush_69 : decode cX3_readPush 69 = .ok (.aload_n 0, 1) := by decide +kernel
theorem dX3_readPush_70 : decode cX3_readPush 70 = .ok (.getfield 22, 3) := by decide +kernel
theorem dX3_readPush_73 : decode cX3_readPush 73 = .ok (.getfield 71, 3) := by decide +kernel
theorem dX3_readPush_76 : decode cX3_readPush 76 = .ok (.bipush 64, 2) := by decide +kernel
theorem dX3_readPush_78 : decode cX3_readPush 78 = .ok (.if_icmp .lt 10, 3) := by decide +kernel
theorem dX3_readPush_81 : decode cX3_readPush 81 = .ok (.aload_n 0, 1) := by decide +kernel
theorem dX3_readPush_82 : decode cX3_readPush 82 = .ok (.bipush (-4), 2) := by decide +kernel
theorem dX3_readPush_84 : decode cX3_readPush 84 = .ok (.invokevirtual 68, 3) := by decide +kernel
theorem dX3_readPush_87 : decode cX3_readPush 87 = .ok (.ireturn, 1) := by decide +kernel
theorem dX3_readPush_88 : decode cX3_readPush 88 = .ok (.aload_n 0, 1) := by decide +kernel
theorem dX3_readPush_89 : decode cX3_readPush 89 = .ok (.getfield 22, 3) := by decide +kernel
theorem dX3_readPush_92 : decode cX3_readPush 92 = .ok (.iload_n 1, 1) := by decide +kernel
theorem dX3_readPush_93 : decode cX3_readPush 93 = .ok (.aload_n 0, 1) := by decide +kernel
theorem dX3_readPush_94 : decode cX3_readPush 94 = .ok (.getfield 38, 3) := by decide +kernel
theorem dX3_readPush_97 : decode cX3_readPush 97 = .ok (.invokevirtual 80, 3) := by decide +kernel
theorem dX3_readPush_100 : decode cX3_readPush 100 = .ok (.istore_n 1, 1) := by decide +kernel
theorem dX3_readPush_101 : decode cX3_readPush 101 = .ok (.aload_n 0, 1) := by decide +kernel
theorem dX3_readPush_102 : decode cX3_readPush 102 = .ok (.invokevirtual 51, 3) := by decide +kernel
theorem dX3_readPush_105 : decode cX3_readPush 105 = .ok (.iinc 2 1, 3) := by decide +kernel
theorem dX3_readPush_108 : decode cX3_readPush 108 = .ok (.goto (-69), 3) := by decide +kernel
theorem dX3_readPush_111 : decode cX3_readPush 111 = .ok (.iconst 1, 1) := by decide +kernel
theorem dX3_readPush_112 : decode cX3_readPush 112 = .ok (.ireturn, 1) := by decide +kernel
theorem dX3_readPop_0 : decode cX3_readPop 0 = .ok (.aload_n 0, 1) := by decide +kernel
theorem dX3_readPop_1 : decode cX3_readPop 1 = .ok (.iconst 0, 1) := by decide +kernel
theorem dX3_readPop_2 : decode cX3_readPop 2 = .ok (.putfield 41, 3) := by decide +kernel
theorem dX3_readPop_5 : decode cX3_readPop 5 = .ok (.aload_n 0, 1) := by decide +kernel
theorem dX3_readPop_6 : decode cX3_readPop 6 = .ok (.invokevirtual 51, 3) := by decide +kernel
theorem dX3_readPop_9 : decode cX3_readPop 9 = .ok (.aload_n 0, 1) := by decide +kernel
theorem dX3_readPop_10 : decode cX3_readPop 10 = .ok (.iconst 0, 1) := by decide +kernel
theorem dX3_readPop_11 : decode cX3_readPop 11 = .ok (.aload_n 0, 1) := by decide +kernel
theorem dX3_readPop_12 : decode cX3_readPop 12 = .ok (.getfield 22, 3) := by decide +kernel
theorem dX3_readPop_15 : decode cX3_readPop 15 = .ok (.getfield 71, 3) := by decide +kernel
theorem dX3_readPop_18 : decode cX3_readPop 18 = .ok (.iconst 1, 1) := by decide +kernel
theorem dX3_readPop_19 : decode cX3_readPop 19 = .ok (.isub, 1) := by decide +kernel
theorem dX3_readPop_20 : decode cX3_readPop 20 = .ok (.invokevirtual 76, 3) := by decide +kernel
theorem dX3_readPop_23 : decode cX3_readPop 23 = .ok (.ifCond .ne 5, 3) := by decide +kernel
theorem dX3_readPop_26 : decode cX3_readPop 26 = .ok (.iconst 0, 1) := by decide +kernel
theorem dX3_readPop_27 : decode cX3_readPop 27 = .ok (.ireturn, 1) := by decide +kernel
theorem dX3_readPop_28 : decode cX3_readPop 28 = .ok (.aload_n 0, 1) := by decide +kernel
theorem dX3_readPop_29 : decode cX3_readPop 29 = .ok (.getfield 38, 3) := by decide +kernel
theorem dX3_readPop_32 : decode cX3_readPop 32 = .ok (.istore_n 1, 1) := by decide +kernel
theorem dX3_readPop_33 : decode cX3_readPop 33 = .ok (.aload_n 0, 1) := by decide +kernel
theorem dX3_readPop_34 : decode cX3_readPop 34 = .ok (.invokevirtual 51, 3) := by decide +kernel
theorem dX3_readPop_37 : decode cX3_readPop 37 = .ok (.aload_n 0, 1) := by decide +kernel
theorem dX3_readPop_38 : decode cX3_readPop 38 = .ok (.iconst 1, 1) := by decide +kernel
theorem dX3_readPop_39 : decode cX3_readPop 39 = .ok (.bipush 64, 2) := by decide +kernel
theorem dX3_readPop_41 : decode cX3_readPop 41 = .ok (.invokevirtual 76, 3) := by decide +kernel
theorem dX3_readPop_44 : decode cX3_readPop 44 = .ok (.ifCond .ne 5, 3) := by decide +kernel
theorem dX3_readPop_47 : decode cX3_readPop 47 = .ok (.iconst 0, 1) := by decide +kernel
theorem dX3_readPop_48 : decode cX3_readPop 48 = .ok (.ireturn, 1) := by decide +kernel
theorem dX3_readPop_49 : decode cX3_readPop 49 = .ok (.aload_n 0, 1) := by decide +kernel
theorem dX3_readPop_50 : decode cX3_readPop 50 = .ok (.getfield 38, 3) := by decide +kernel
theorem dX3_readPop_53 : decode cX3_readPop 53 = .ok (.istore_n 2, 1) := by decide +kernel
theorem dX3_readPop_54 : decode cX3_readPop 54 = .ok (.aload_n 0, 1) := by decide +kernel
theorem dX3_readPop_55 : decode cX3_readPop 55 = .ok (.getfield 22, 3) := by decide +kernel
theorem dX3_readPop_58 : decode cX3_readPop 58 = .ok (.getfield 71, 3) := by decide +kernel
theorem dX3_readPop_61 : decode cX3_readPop 61 = .ok (.iload_n 2, 1) := by decide +kernel
theorem dX3_readPop_62 : decode cX3_readPop 62 = .ok (.iadd, 1) := by decide +kernel
theorem dX3_readPop_63 : decode cX3_readPop 63 = .ok (.bipush 64, 2) := by decide +kernel
theorem dX3_readPop_65 : decode cX3_readPop 65 = .ok (.if_icmp .le 10, 3) := by decide +kernel
theorem dX3_readPop_68 : decode cX3_readPop 68 = .ok (.aload_n 0, 1) := by decide +kernel
theorem dX3_readPop_69 : decode cX3_readPop 69 = .ok (.bipush (-4), 2) := by decide +kernel
theorem dX3_readPop_71 : decode cX3_readPop 71 = .ok (.invokevirtual 68, 3) := by decide +kernel
theorem dX3_readPop_74 : decode cX3_readPop 74 = .ok (.ireturn, 1) := by decide +kernel
theorem dX3_readPop_75 : decode cX3_readPop 75 = .ok (.iload_n 2, 1) := by decide +kernel
theorem dX3_readPop_76 : decode cX3_readPop 76 = .ok (.aload_n 0, 1) := by decide +kernel
theorem dX3_readPop_77 : decode cX3_readPop 77 = .ok (.getfield 22, 3) := by decide +kernel
theorem dX3_readPop_80 : decode cX3_readPop 80 = .ok (.getfield 83, 3) := by decide +kernel
theorem dX3_readPop_83 : decode cX3_readPop 83 = .ok (.iload_n 1, 1) := by decide +kernel
theorem dX3_readPop_84 : decode cX3_readPop 84 = .ok (.aaload, 1) := by decide +kernel
theorem dX3_readPop_85 : decode cX3_readPop 85 = .ok (.invokevirtual 87, 3) := by decide +kernel
theorem dX3_readPop_88 : decode cX3_readPop 88 = .ok (.if_icmp .le 10, 3) := by decide +kernel
theorem dX3_readPop_91 : decode cX3_readPop 91 = .ok (.aload_n 0, 1) := by decide +kernel
theorem dX3_readPop_92 : decode cX3_readPop 92 = .ok (.bipush (-5), 2) := by decide +kernel
theorem dX3_readPop_94 : decode cX3_readPop 94 = .ok (.invokevirtual 68, 3) := by decide +kernel
theorem dX3_readPop_97 : decode cX3_readPop 97 = .ok (.ireturn, 1) := by decide +kernel
theorem dX3_readPop_98 : decode cX3_readPop 98 = .ok (.iconst 0, 1) := by decide +kernel
theorem dX3_readPop_99 : decode cX3_readPop 99 = .ok (.istore_n 3, 1) := by decide +kernel
theorem dX3_readPop_100 : decode cX3_readPop 100 = .ok (.iload_n 3, 1) := by decide +kernel
theorem dX3_readPop_101 : decode cX3_readPop 101 = .ok (.iload_n 2, 1) := by decide +kernel
theorem dX3_readPop_102 : decode cX3_readPop 102 = .ok (.if_icmp .ge 18, 3) := by decide +kernel
theorem dX3_readPop_105 : decode cX3_readPop 105 = .ok (.aload_n 0, 1) := by decide +kernel
theorem dX3_readPop_106 : decode cX3_readPop 106 = .ok (.getfield 22, 3) := by decide +kernel
theorem dX3_readPop_109 : decode cX3_readPop 109 = .ok (.iload_n 1, 1) := by decide +kernel
theorem dX3_readPop_110 : decode cX3_readPop 110 = .ok (.invokevirtual 92, 3) := by decide +kernel
theorem dX3_readPop_113 : decode cX3_readPop 113 = .ok (.istore_n 1, 1) := by decide +kernel
theorem dX3_readPop_114 : decode cX3_readPop 114 = .ok (.iinc 3 1, 3) := by decide +kernel
theorem dX3_readPop_117 : decode cX3_readPop 117 = .ok (.goto (-17), 3) := by decide +kernel
theorem dX3_readPop_120 : decode cX3_readPop 120 = .ok (.aload_n 0, 1) := by decide +kernel
theorem dX3_readPop_121 : decode cX3_readPop 121 = .ok (.invokevirtual 51, 3) := by decide +kernel
theorem dX3_readPop_124 : decode cX3_readPop 124 = .ok (.iconst 1, 1) := by decide +kernel
theorem dX3_readPop_125 : decode cX3_readPop 125 = .ok (.ireturn, 1) := by decide +kernel
theorem dX3_readPace_0 : decode cX3_readPace 0 = .ok (.aload_n 0, 1) := by decide +kernel
theorem dX3_readPace_1 : decode cX3_readPace 1 = .ok (.iconst 0, 1) := by decide +kernel
theorem dX3_readPace_2 : decode cX3_readPace 2 = .ok (.putfield 41, 3) := by decide +kernel
theorem dX3_readPace_5 : decode cX3_readPace 5 = .ok (.aload_n 0, 1) := by decide +kernel
theorem dX3_readPace_6 : decode cX3_readPace 6 = .ok (.invokevirtual 51, 3) := by decide +kernel
theorem dX3_readPace_9 : decode cX3_readPace 9 = .ok (.aload_n 0, 1) := by decide +kernel
theorem dX3_readPace_10 : decode cX3_readPace 10 = .ok (.iconst 2, 1) := by decide +kernel
theorem dX3_readPace_11 : decode cX3_readPace 11 = .ok (.iconst 4, 1) := by decide +kernel
theorem dX3_readPace_12 : decode cX3_readPace 12 = .ok (.invokevirtual 76, 3) := by decide +kernel
theorem dX3_readPace_15 : decode cX3_readPace 15 = .ok (.ifCond .ne 5, 3) := by decide +kernel
theorem dX3_readPace_18 : decode cX3_readPace 18 = .ok (.iconst 0, 1) := by decide +kernel
theorem dX3_readPace_19 : decode cX3_readPace 19 = .ok (.ireturn, 1) := by decide +kernel
theorem dX3_readPace_20 : decode cX3_readPace 20 = .ok (.aload_n 0, 1) := by decide +kernel
theorem dX3_readPace_21 : decode cX3_readPace 21 = .ok (.getfield 22, 3) := by decide +kernel
theorem dX3_readPace_24 : decode cX3_readPace 24 = .ok (.aload_n 0, 1) := by decide +kernel
theorem dX3_readPace_25 : decode cX3_readPace 25 = .ok (.getfield 38, 3) := by decide +kernel
theorem dX3_readPace_28 : decode cX3_readPace 28 = .ok (.putfield 96, 3) := by decide +kernel
theorem dX3_readPace_31 : decode cX3_readPace 31 = .ok (.aload_n 0, 1) := by decide +kernel
theorem dX3_readPace_32 : decode cX3_readPace 32 = .ok (.invokevirtual 51, 3) := by decide +kernel
theorem dX3_readPace_35 : decode cX3_readPace 35 = .ok (.iconst 1, 1) := by decide +kernel
theorem dX3_readPace_36 : decode cX3_readPace 36 = .ok (.ireturn, 1) := by decide +kernel
theorem dX3_pass_0 : decode cX3_pass 0 = .ok (.aload_n 0, 1) := by decide +kernel
theorem dX3_pass_1 : decode cX3_pass 1 = .ok (.getfield 35, 3) := by decide +kernel
theorem dX3_pass_4 : decode cX3_pass 4 = .ok (.iload_n 1, 1) := by decide +kernel
theorem dX3_pass_5 : decode cX3_pass 5 = .ok (.if_icmp .eq 10, 3) := by decide +kernel
theorem dX3_pass_8 : decode cX3_pass 8 = .ok (.aload_n 0, 1) := by decide +kernel
theorem dX3_pass_9 : decode cX3_pass 9 = .ok (.bipush (-2), 2) := by decide +kernel
theorem dX3_pass_11 : decode cX3_pass 11 = .ok (.invokevirtual 68, 3) := by decide +kernel
theorem dX3_pass_14 : decode cX3_pass 14 = .ok (.ireturn, 1) := by decide +kernel
theorem dX3_pass_15 : decode cX3_pass 15 = .ok (.aload_n 0, 1) := by decide +kernel
theorem dX3_pass_16 : decode cX3_pass 16 = .ok (.invokevirtual 51, 3) := by decide +kernel
theorem dX3_pass_19 : decode cX3_pass 19 = .ok (.iconst 1, 1) := by decide +kernel
theorem dX3_pass_20 : decode cX3_pass 20 = .ok (.ireturn, 1) := by decide +kernel
theorem dX3_seeNumber_0 : decode cX3_seeNumber 0 = .ok (.aload_n 0, 1) := by decide +kernel
theorem dX3_seeNumber_1 : decode cX3_seeNumber 1 = .ok (.getfield 35, 3) := by decide +kernel
theorem dX3_seeNumber_4 : decode cX3_seeNumber 4 = .ok (.iconst 2, 1) := by decide +kernel
theorem dX3_seeNumber_5 : decode cX3_seeNumber 5 = .ok (.if_icmp .eq 10, 3) := by decide +kernel
theorem dX3_seeNumber_8 : decode cX3_seeNumber 8 = .ok (.aload_n 0, 1) := by decide +kernel
theorem dX3_seeNumber_9 : decode cX3_seeNumber 9 = .ok (.bipush (-2), 2) := by decide +kernel
theorem dX3_seeNumber_11 : decode cX3_seeNumber 11 = .ok (.invokevirtual 68, 3) := by decide +kernel
theorem dX3_seeNumber_14 : decode cX3_seeNumber 14 = .ok (.ireturn, 1) := by decide +kernel
theorem dX3_seeNumber_15 : decode cX3_seeNumber 15 = .ok (.aload_n 0, 1) := by decide +kernel
theorem dX3_seeNumber_16 : decode cX3_seeNumber 16 = .ok (.getfield 38, 3) := by decide +kernel
theorem dX3_seeNumber_19 : decode cX3_seeNumber 19 = .ok (.iload_n 1, 1) := by decide +kernel
theorem dX3_seeNumber_20 : decode cX3_seeNumber 20 = .ok (.if_icmp .lt 11, 3) := by decide +kernel
theorem dX3_seeNumber_23 : decode cX3_seeNumber 23 = .ok (.aload_n 0, 1) := by decide +kernel
theorem dX3_seeNumber_24 : decode cX3_seeNumber 24 = .ok (.getfield 38, 3) := by decide +kernel
theorem dX3_seeNumber_27 : decode cX3_seeNumber 27 = .ok (.iload_n 2, 1) := by decide +kernel
theorem dX3_seeNumber_28 : decode cX3_seeNumber 28 = .ok (.if_icmp .le 12, 3) := by decide +kernel
theorem dX3_seeNumber_31 : decode cX3_seeNumber 31 = .ok (.aload_n 0, 1) := by decide +kernel
theorem dX3_seeNumber_32 : decode cX3_seeNumber 32 = .ok (.bipush (-3), 2) := by decide +kernel
theorem dX3_seeNumber_34 : decode cX3_seeNumber 34 = .ok (.invokevirtual 68, 3) := by decide +kernel
theorem dX3_seeNumber_37 : decode cX3_seeNumber 37 = .ok (.ifCond .eq 7, 3) := by decide +kernel
theorem dX3_seeNumber_40 : decode cX3_seeNumber 40 = .ok (.iconst 1, 1) := by decide +kernel
theorem dX3_seeNumber_41 : decode cX3_seeNumber 41 = .ok (.goto 4, 3) := by decide +kernel
theorem dX3_seeNumber_44 : decode cX3_seeNumber 44 = .ok (.iconst 0, 1) := by decide +kernel
theorem dX3_seeNumber_45 : decode cX3_seeNumber 45 = .ok (.ireturn, 1) := by decide +kernel
theorem dX3_fail_0 : decode cX3_fail 0 = .ok (.aload_n 0, 1) := by decide +kernel
theorem dX3_fail_1 : decode cX3_fail 1 = .ok (.iload_n 1, 1) := by decide +kernel
theorem dX3_fail_2 : decode cX3_fail 2 = .ok (.putfield 26, 3) := by decide +kernel
theorem dX3_fail_5 : decode cX3_fail 5 = .ok (.aload_n 0, 1) := by decide +kernel
theorem dX3_fail_6 : decode cX3_fail 6 = .ok (.aload_n 0, 1) := by decide +kernel
theorem dX3_fail_7 : decode cX3_fail 7 = .ok (.getfield 32, 3) := by decide +kernel
theorem dX3_fail_10 : decode cX3_fail 10 = .ok (.putfield 9, 3) := by decide +kernel
theorem dX3_fail_13 : decode cX3_fail 13 = .ok (.iconst 0, 1) := by decide +kernel
theorem dX3_fail_14 : decode cX3_fail 14 = .ok (.ireturn, 1) := by decide +kernel
theorem dX3_readToken_0 : decode cX3_readToken 0 = .ok (.aload_n 0, 1) := by decide +kernel
theorem dX3_readToken_1 : decode cX3_readToken 1 = .ok (.getfield 29, 3) := by decide +kernel
theorem dX3_readToken_4 : decode cX3_readToken 4 = .ok (.aload_n 0, 1) := by decide +kernel
theorem dX3_readToken_5 : decode cX3_readToken 5 = .ok (.getfield 19, 3) := by decide +kernel
theorem dX3_readToken_8 : decode cX3_readToken 8 = .ok (.if_icmp .ge 30, 3) := by decide +kernel
theorem dX3_readToken_11 : decode cX3_readToken 11 = .ok (.aload_n 0, 1) := by decide +kernel
theorem dX3_readToken_12 : decode cX3_readToken 12 = .ok (.getfield 15, 3) := by decide +kernel
theorem dX3_readToken_15 : decode cX3_readToken 15 = .ok (.aload_n 0, 1) := by decide +kernel
theorem dX3_readToken_16 : decode cX3_readToken 16 = .ok (.getfield 29, 3) := by decide +kernel
theorem dX3_readToken_19 : decode cX3_readToken 19 = .ok (.baload, 1) := by decide +kernel
theorem dX3_readToken_20 : decode cX3_readToken 20 = .ok (.bipush 32, 2) := by decide +kernel
theorem dX3_readToken_22 : decode cX3_readToken 22 = .ok (.if_icmp .ne 16, 3) := by decide +kernel
theorem dX3_readToken_25 : decode cX3_readToken 25 = .ok (.aload_n 0, 1) := by decide +kernel
theorem dX3_readToken_26 : decode cX3_readToken 26 = .ok (.dup, 1) := by decide +kernel
theorem dX3_readToken_27 : decode cX3_readToken 27 = .ok (.getfield 29, 3) := by decide +kernel
theorem dX3_readToken_30 : decode cX3_readToken 30 = .ok (.iconst 1, 1) := by decide +kernel
theorem dX3_readToken_31 : decode cX3_readToken 31 = .ok (.iadd, 1) := by decide +kernel
theorem dX3_readToken_32 : decode cX3_readToken 32 = .ok (.putfield 29, 3) := by decide +kernel
theorem dX3_readToken_35 : decode cX3_readToken 35 = .ok (.goto (-35), 3) := by decide +kernel
theorem dX3_readToken_38 : decode cX3_readToken 38 = .ok (.aload_n 0, 1) := by decide +kernel
theorem dX3_readToken_39 : decode cX3_readToken 39 = .ok (.aload_n 0, 1) := by decide +kernel
theorem dX3_readToken_40 : decode cX3_readToken 40 = .ok (.getfield 29, 3) := by decide +kernel
theorem dX3_readToken_43 : decode cX3_readToken 43 = .ok (.putfield 32, 3) := by decide +kernel
theorem dX3_readToken_46 : decode cX3_readToken 46 = .ok (.aload_n 0, 1) := by decide +kernel
theorem dX3_readToken_47 : decode cX3_readToken 47 = .ok (.getfield 29, 3) := by decide +kernel
theorem dX3_readToken_50 : decode cX3_readToken 50 = .ok (.aload_n 0, 1) := by decide +kernel
theorem dX3_readToken_51 : decode cX3_readToken 51 = .ok (.getfield 19, 3) := by decide +kernel
theorem dX3_readToken_54 : decode cX3_readToken 54 = .ok (.if_icmp .lt 11, 3) := by decide +kernel
theorem dX3_readToken_57 : decode cX3_readToken 57 = .ok (.aload_n 0, 1) := by decide +kernel
theorem dX3_readToken_58 : decode cX3_readToken 58 = .ok (.iconst 0, 1) := by decide +kernel
theorem dX3_readToken_59 : decode cX3_readToken 59 = .ok (.putfield 35, 3) := by decide +kernel
theorem dX3_readToken_62 : decode cX3_readToken 62 = .ok (.goto 80, 3) := by decide +kernel
theorem dX3_readToken_65 : decode cX3_readToken 65 = .ok (.aload_n 0, 1) := by decide +kernel
theorem dX3_readToken_66 : decode cX3_readToken 66 = .ok (.getfield 15, 3) := by decide +kernel
theorem dX3_readToken_69 : decode cX3_readToken 69 = .ok (.aload_n 0, 1) := by decide +kernel
theorem dX3_readToken_70 : decode cX3_readToken 70 = .ok (.getfield 29, 3) := by decide +kernel
theorem dX3_readToken_73 : decode cX3_readToken 73 = .ok (.baload, 1) := by decide +kernel
theorem dX3_readToken_74 : decode cX3_readToken 74 = .ok (.invokestatic 99, 3) := by decide +kernel
theorem dX3_readToken_77 : decode cX3_readToken 77 = .ok (.ifCond .eq 10, 3) := by decide +kernel
theorem dX3_readToken_80 : decode cX3_readToken 80 = .ok (.aload_n 0, 1) := by decide +kernel
theorem dX3_readToken_81 : decode cX3_readToken 81 = .ok (.invokevirtual 103, 3) := by decide +kernel
theorem dX3_readToken_84 : decode cX3_readToken 84 = .ok (.goto 58, 3) := by decide +kernel
theorem dX3_readToken_87 : decode cX3_readToken 87 = .ok (.aload_n 0, 1) := by decide +kernel
theorem dX3_readToken_88 : decode cX3_readToken 88 = .ok (.getfield 15, 3) := by decide +kernel
theorem dX3_readToken_91 : decode cX3_readToken 91 = .ok (.aload_n 0, 1) := by decide +kernel
theorem dX3_readToken_92 : decode cX3_readToken 92 = .ok (.getfield 29, 3) := by decide +kernel
theorem dX3_readToken_95 : decode cX3_readToken 95 = .ok (.baload, 1) := by decide +kernel
theorem dX3_readToken_96 : decode cX3_readToken 96 = .ok (.invokestatic 106, 3) := by decide +kernel
theorem dX3_readToken_99 : decode cX3_readToken 99 = .ok (.ifCond .eq 10, 3) := by decide +kernel
theorem dX3_readToken_102 : decode cX3_readToken 102 = .ok (.aload_n 0, 1) := by decide +kernel
theorem dX3_readToken_103 : decode cX3_readToken 103 = .ok (.invokevirtual 109, 3) := by decide +kernel
theorem dX3_readToken_106 : decode cX3_readToken 106 = .ok (.goto 36, 3) := by decide +kernel
theorem dX3_readToken_109 : decode cX3_readToken 109 = .ok (.aload_n 0, 1) := by decide +kernel
theorem dX3_readToken_110 : decode cX3_readToken 110 = .ok (.aload_n 0, 1) := by decide +kernel
theorem dX3_readToken_111 : decode cX3_readToken 111 = .ok (.getfield 15, 3) := by decide +kernel
theorem dX3_readToken_114 : decode cX3_readToken 114 = .ok (.aload_n 0, 1) := by decide +kernel
theorem dX3_readToken_115 : decode cX3_readToken 115 = .ok (.getfield 29, 3) := by decide +kernel
theorem dX3_readToken_118 : decode cX3_readToken 118 = .ok (.baload, 1) := by decide +kernel
theorem dX3_readToken_119 : decode cX3_readToken 119 = .ok (.bipush 59, 2) := by decide +kernel
theorem dX3_readToken_121 : decode cX3_readToken 121 = .ok (.if_icmp .ne 7, 3) := by decide +kernel
theorem dX3_readToken_124 : decode cX3_readToken 124 = .ok (.iconst 3, 1) := by decide +kernel
theorem dX3_readToken_125 : decode cX3_readToken 125 = .ok (.goto 4, 3) := by decide +kernel
theorem dX3_readToken_128 : decode cX3_readToken 128 = .ok (.iconst 1, 1) := by decide +kernel
theorem dX3_readToken_129 : decode cX3_readToken 129 = .ok (.putfield 35, 3) := by decide +kernel
theorem dX3_readToken_132 : decode cX3_readToken 132 = .ok (.aload_n 0, 1) := by decide +kernel
theorem dX3_readToken_133 : decode cX3_readToken 133 = .ok (.dup, 1) := by decide +kernel
theorem dX3_readToken_134 : decode cX3_readToken 134 = .ok (.getfield 29, 3) := by decide +kernel
theorem dX3_readToken_137 : decode cX3_readToken 137 = .ok (.iconst 1, 1) := by decide +kernel
theorem dX3_readToken_138 : decode cX3_readToken 138 = .ok (.iadd, 1) := by decide +kernel
theorem dX3_readToken_139 : decode cX3_readToken 139 = .ok (.putfield 29, 3) := by decide +kernel
theorem dX3_readToken_142 : decode cX3_readToken 142 = .ok (.return_, 1) := by decide +kernel
theorem dX3_readNumber_0 : decode cX3_readNumber 0 = .ok (.aload_n 0, 1) := by decide +kernel
theorem dX3_readNumber_1 : decode cX3_readNumber 1 = .ok (.iconst 2, 1) := by decide +kernel
theorem dX3_readNumber_2 : decode cX3_readNumber 2 = .ok (.putfield 35, 3) := by decide +kernel
theorem dX3_readNumber_5 : decode cX3_readNumber 5 = .ok (.aload_n 0, 1) := by decide +kernel
theorem dX3_readNumber_6 : decode cX3_readNumber 6 = .ok (.iconst 0, 1) := by decide +kernel
theorem dX3_readNumber_7 : decode cX3_readNumber 7 = .ok (.putfield 38, 3) := by decide +kernel
theorem dX3_readNumber_10 : decode cX3_readNumber 10 = .ok (.aload_n 0, 1) := by decide +kernel
theorem dX3_readNumber_11 : decode cX3_readNumber 11 = .ok (.getfield 29, 3) := by decide +kernel
theorem dX3_readNumber_14 : decode cX3_readNumber 14 = .ok (.aload_n 0, 1) := by decide +kernel
theorem dX3_readNumber_15 : decode cX3_readNumber 15 = .ok (.getfield 19, 3) := by decide +kernel
theorem dX3_readNumber_18 : decode cX3_readNumber 18 = .ok (.if_icmp .ge 61, 3) := by decide +kernel
theorem dX3_readNumber_21 : decode cX3_readNumber 21 = .ok (.aload_n 0, 1) := by decide +kernel
theorem dX3_readNumber_22 : decode cX3_readNumber 22 = .ok (.getfield 15, 3) := by decide +kernel
theorem dX3_readNumber_25 : decode cX3_readNumber 25 = .ok (.aload_n 0, 1) := by decide +kernel
theorem dX3_readNumber_26 : decode cX3_readNumber 26 = .ok (.getfield 29, 3) := by decide +kernel
theorem dX3_readNumber_29 : decode cX3_readNumber 29 = .ok (.baload, 1) := by decide +kernel
theorem dX3_readNumber_30 : decode cX3_readNumber 30 = .ok (.invokestatic 99, 3) := by decide +kernel
theorem dX3_readNumber_33 : decode cX3_readNumber 33 = .ok (.ifCond .eq 46, 3) := by decide +kernel
theorem dX3_readNumber_36 : decode cX3_readNumber 36 = .ok (.aload_n 0, 1) := by decide +kernel
theorem dX3_readNumber_37 : decode cX3_readNumber 37 = .ok (.sipush 1000, 3) := by decide +kernel
theorem dX3_readNumber_40 : decode cX3_readNumber 40 = .ok (.bipush 10, 2) := by decide +kernel
theorem dX3_readNumber_42 : decode cX3_readNumber 42 = .ok (.aload_n 0, 1) := by decide +kernel
theorem dX3_readNumber_43 : decode cX3_readNumber 43 = .ok (.getfield 38, 3) := by decide +kernel
theorem dX3_readNumber_46 : decode cX3_readNumber 46 = .ok (.imul, 1) := by decide +kernel
theorem dX3_readNumber_47 : decode cX3_readNumber 47 = .ok (.aload_n 0, 1) := by decide +kernel
theorem dX3_readNumber_48 : decode cX3_readNumber 48 = .ok (.getfield 15, 3) := by decide +kernel
theorem dX3_readNumber_51 : decode cX3_readNumber 51 = .ok (.aload_n 0, 1) := by decide +kernel
theorem dX3_readNumber_52 : decode cX3_readNumber 52 = .ok (.getfield 29, 3) := by decide +kernel
theorem dX3_readNumber_55 : decode cX3_readNumber 55 = .ok (.baload, 1) := by decide +kernel
theorem dX3_readNumber_56 : decode cX3_readNumber 56 = .ok (.iadd, 1) := by decide +kernel
theorem dX3_readNumber_57 : decode cX3_readNumber 57 = .ok (.bipush 48, 2) := by decide +kernel
theorem dX3_readNumber_59 : decode cX3_readNumber 59 = .ok (.isub, 1) := by decide +kernel
theorem dX3_readNumber_60 : decode cX3_readNumber 60 = .ok (.invokestatic 45, 3) := by decide +kernel
theorem dX3_readNumber_63 : decode cX3_readNumber 63 = .ok (.putfield 38, 3) := by decide +kernel
theorem dX3_readNumber_66 : decode cX3_readNumber 66 = .ok (.aload_n 0, 1) := by decide +kernel
theorem dX3_readNumber_67 : decode cX3_readNumber 67 = .ok (.dup, 1) := by decide +kernel
theorem dX3_readNumber_68 : decode cX3_readNumber 68 = .ok (.getfield 29, 3) := by decide +kernel
theorem dX3_readNumber_71 : decode cX3_readNumber 71 = .ok (.iconst 1, 1) := by decide +kernel
theorem dX3_readNumber_72 : decode cX3_readNumber 72 = .ok (.iadd, 1) := by decide +kernel
theorem dX3_readNumber_73 : decode cX3_readNumber 73 = .ok (.putfield 29, 3) := by decide +kernel
theorem dX3_readNumber_76 : decode cX3_readNumber 76 = .ok (.goto (-66), 3) := by decide +kernel
theorem dX3_readNumber_79 : decode cX3_readNumber 79 = .ok (.return_, 1) := by decide +kernel
theorem dX3_readWord_0 : decode cX3_readWord 0 = .ok (.aload_n 0, 1) := by decide +kernel
theorem dX3_readWord_1 : decode cX3_readWord 1 = .ok (.getfield 29, 3) := by decide +kernel
theorem dX3_readWord_4 : decode cX3_readWord 4 = .ok (.aload_n 0, 1) := by decide +kernel
theorem dX3_readWord_5 : decode cX3_readWord 5 = .ok (.getfield 19, 3) := by decide +kernel
theorem dX3_readWord_8 : decode cX3_readWord 8 = .ok (.if_icmp .ge 31, 3) := by decide +kernel
theorem dX3_readWord_11 : decode cX3_readWord 11 = .ok (.aload_n 0, 1) := by decide +kernel
theorem dX3_readWord_12 : decode cX3_readWord 12 = .ok (.getfield 15, 3) := by decide +kernel
theorem dX3_readWord_15 : decode cX3_readWord 15 = .ok (.aload_n 0, 1) := by decide +kernel
theorem dX3_readWord_16 : decode cX3_readWord 16 = .ok (.getfield 29, 3) := by decide +kernel
theorem dX3_readWord_19 : decode cX3_readWord 19 = .ok (.baload, 1) := by decide +kernel
theorem dX3_readWord_20 : decode cX3_readWord 20 = .ok (.invokestatic 106, 3) := by decide +kernel
theorem dX3_readWord_23 : decode cX3_readWord 23 = .ok (.ifCond .eq 16, 3) := by decide +kernel
theorem dX3_readWord_26 : decode cX3_readWord 26 = .ok (.aload_n 0, 1) := by decide +kernel
theorem dX3_readWord_27 : decode cX3_readWord 27 = .ok (.dup, 1) := by decide +kernel
theorem dX3_readWord_28 : decode cX3_readWord 28 = .ok (.getfield 29, 3) := by decide +kernel
theorem dX3_readWord_31 : decode cX3_readWord 31 = .ok (.iconst 1, 1) := by decide +kernel
theorem dX3_readWord_32 : decode cX3_readWord 32 = .ok (.iadd, 1) := by decide +kernel
theorem dX3_readWord_33 : decode cX3_readWord 33 = .ok (.putfield 29, 3) := by decide +kernel
theorem dX3_readWord_36 : decode cX3_readWord 36 = .ok (.goto (-36), 3) := by decide +kernel
theorem dX3_readWord_39 : decode cX3_readWord 39 = .ok (.aload_n 0, 1) := by decide +kernel
theorem dX3_readWord_40 : decode cX3_readWord 40 = .ok (.ldc 112, 2) := by decide +kernel
theorem dX3_readWord_42 : decode cX3_readWord 42 = .ok (.invokevirtual 114, 3) := by decide +kernel
theorem dX3_readWord_45 : decode cX3_readWord 45 = .ok (.ifCond .eq 11, 3) := by decide +kernel
theorem dX3_readWord_48 : decode cX3_readWord 48 = .ok (.aload_n 0, 1) := by decide +kernel
theorem dX3_readWord_49 : decode cX3_readWord 49 = .ok (.iconst 4, 1) := by decide +kernel
theorem dX3_readWord_50 : decode cX3_readWord 50 = .ok (.putfield 35, 3) := by decide +kernel
theorem dX3_readWord_53 : decode cX3_readWord 53 = .ok (.goto 57, 3) := by decide +kernel
theorem dX3_readWord_56 : decode cX3_readWord 56 = .ok (.aload_n 0, 1) := by decide +kernel
theorem dX3_readWord_57 : decode cX3_readWord 57 = .ok (.ldc 118, 2) := by decide +kernel
theorem dX3_readWord_59 : decode cX3_readWord 59 = .ok (.invokevirtual 114, 3) := by decide +kernel
theorem dX3_readWord_62 : decode cX3_readWord 62 = .ok (.ifCond .eq 11, 3) := by decide +kernel
theorem dX3_readWord_65 : decode cX3_readWord 65 = .ok (.aload_n 0, 1) := by decide +kernel
theorem dX3_readWord_66 : decode cX3_readWord 66 = .ok (.iconst 5, 1) := by decide +kernel
theorem dX3_readWord_67 : decode cX3_readWord 67 = .ok (.putfield 35, 3) := by decide +kernel
theorem dX3_readWord_70 : decode cX3_readWord 70 = .ok (.goto 40, 3) := by decide +kernel
theorem dX3_readWord_73 : decode cX3_readWord 73 = .ok (.aload_n 0, 1) := by decide +kernel
theorem dX3_readWord_74 : decode cX3_readWord 74 = .ok (.ldc 120, 2) := by decide +kernel
theorem dX3_readWord_76 : decode cX3_readWord 76 = .ok (.invokevirtual 114, 3) := by decide +kernel
theorem dX3_readWord_79 : decode cX3_readWord 79 = .ok (.ifCond .eq 12, 3) := by decide +kernel
theorem dX3_readWord_82 : decode cX3_readWord 82 = .ok (.aload_n 0, 1) := by decide +kernel
theorem dX3_readWord_83 : decode cX3_readWord 83 = .ok (.bipush 6, 2) := by decide +kernel
theorem dX3_readWord_85 : decode cX3_readWord 85 = .ok (.putfield 35, 3) := by decide +kernel
theorem dX3_readWord_88 : decode cX3_readWord 88 = .ok (.goto 22, 3) := by decide +kernel
theorem dX3_readWord_91 : decode cX3_readWord 91 = .ok (.aload_n 0, 1) := by decide +kernel
theorem dX3_readWord_92 : decode cX3_readWord 92 = .ok (.aload_n 0, 1) := by decide +kernel
theorem dX3_readWord_93 : decode cX3_readWord 93 = .ok (.ldc 122, 2) := by decide +kernel
theorem dX3_readWord_95 : decode cX3_readWord 95 = .ok (.invokevirtual 114, 3) := by decide +kernel
theorem dX3_readWord_98 : decode cX3_readWord 98 = .ok (.ifCond .eq 8, 3) := by decide +kernel
theorem dX3_readWord_101 : decode cX3_readWord 101 = .ok (.bipush 7, 2) := by decide +kernel
theorem dX3_readWord_103 : decode cX3_readWord 103 = .ok (.goto 4, 3) := by decide +kernel
theorem dX3_readWord_106 : decode cX3_readWord 106 = .ok (.iconst 1, 1) := by decide +kernel
theorem dX3_readWord_107 : decode cX3_readWord 107 = .ok (.putfield 35, 3) := by decide +kernel
theorem dX3_readWord_110 : decode cX3_readWord 110 = .ok (.return_, 1) := by decide +kernel
theorem dX3_isWord_0 : decode cX3_isWord 0 = .ok (.aload_n 0, 1) := by decide +kernel
theorem dX3_isWord_1 : decode cX3_isWord 1 = .ok (.getfield 29, 3) := by decide +kernel
theorem dX3_isWord_4 : decode cX3_isWord 4 = .ok (.aload_n 0, 1) := by decide +kernel
theorem dX3_isWord_5 : decode cX3_isWord 5 = .ok (.getfield 32, 3) := by decide +kernel
theorem dX3_isWord_8 : decode cX3_isWord 8 = .ok (.isub, 1) := by decide +kernel
theorem dX3_isWord_9 : decode cX3_isWord 9 = .ok (.aload_n 1, 1) := by decide +kernel
theorem dX3_isWord_10 : decode cX3_isWord 10 = .ok (.invokevirtual 123, 3) := by decide +kernel
theorem dX3_isWord_13 : decode cX3_isWord 13 = .ok (.if_icmp .eq 5, 3) := by decide +kernel
theorem dX3_isWord_16 : decode cX3_isWord 16 = .ok (.iconst 0, 1) := by decide +kernel
theorem dX3_isWord_17 : decode cX3_isWord 17 = .ok (.ireturn, 1) := by decide +kernel
theorem dX3_isWord_18 : decode cX3_isWord 18 = .ok (.iconst 0, 1) := by decide +kernel
theorem dX3_isWord_19 : decode cX3_isWord 19 = .ok (.istore_n 2, 1) := by decide +kernel
theorem dX3_isWord_20 : decode cX3_isWord 20 = .ok (.iload_n 2, 1) := by decide +kernel
theorem dX3_isWord_21 : decode cX3_isWord 21 = .ok (.aload_n 1, 1) := by decide +kernel
theorem dX3_isWord_22 : decode cX3_isWord 22 = .ok (.invokevirtual 123, 3) := by decide +kernel
theorem dX3_isWord_25 : decode cX3_isWord 25 = .ok (.if_icmp .ge 30, 3) := by decide +kernel
theorem dX3_isWord_28 : decode cX3_isWord 28 = .ok (.aload_n 0, 1) := by decide +kernel
theorem dX3_isWord_29 : decode cX3_isWord 29 = .ok (.getfield 15, 3) := by decide +kernel
theorem dX3_isWord_32 : decode cX3_isWord 32 = .ok (.aload_n 0, 1) := by decide +kernel
theorem dX3_isWord_33 : decode cX3_isWord 33 = .ok (.getfield 32, 3) := by decide +kernel
theorem dX3_isWord_36 : decode cX3_isWord 36 = .ok (.iload_n 2, 1) := by decide +kernel
theorem dX3_isWord_37 : decode cX3_isWord 37 = .ok (.iadd, 1) := by decide +kernel
theorem dX3_isWord_38 : decode cX3_isWord 38 = .ok (.baload, 1) := by decide +kernel
theorem dX3_isWord_39 : decode cX3_isWord 39 = .ok (.aload_n 1, 1) := by decide +kernel
theorem dX3_isWord_40 : decode cX3_isWord 40 = .ok (.iload_n 2, 1) := by decide +kernel
theorem dX3_isWord_41 : decode cX3_isWord 41 = .ok (.invokevirtual 126, 3) := by decide +kernel
theorem dX3_isWord_44 : decode cX3_isWord 44 = .ok (.if_icmp .eq 5, 3) := by decide +kernel
theorem dX3_isWord_47 : decode cX3_isWord 47 = .ok (.iconst 0, 1) := by decide +kernel
theorem dX3_isWord_48 : decode cX3_isWord 48 = .ok (.ireturn, 1) := by decide +kernel
theorem dX3_isWord_49 : decode cX3_isWord 49 = .ok (.iinc 2 1, 3) := by decide +kernel
theorem dX3_isWord_52 : decode cX3_isWord 52 = .ok (.goto (-32), 3) := by decide +kernel
theorem dX3_isWord_55 : decode cX3_isWord 55 = .ok (.iconst 1, 1) := by decide +kernel
theorem dX3_isWord_56 : decode cX3_isWord 56 = .ok (.ireturn, 1) := by decide +kernel
theorem dX3_isDigit_0 : decode cX3_isDigit 0 = .ok (.iload_n 0, 1) := by decide +kernel
theorem dX3_isDigit_1 : decode cX3_isDigit 1 = .ok (.bipush 48, 2) := by decide +kernel
theorem dX3_isDigit_3 : decode cX3_isDigit 3 = .ok (.if_icmp .lt 13, 3) := by decide +kernel
theorem dX3_isDigit_6 : decode cX3_isDigit 6 = .ok (.iload_n 0, 1) := by decide +kernel
theorem dX3_isDigit_7 : decode cX3_isDigit 7 = .ok (.bipush 57, 2) := by decide +kernel
theorem dX3_isDigit_9 : decode cX3_isDigit 9 = .ok (.if_icmp .gt 7, 3) := by decide +kernel
theorem dX3_isDigit_12 : decode cX3_isDigit 12 = .ok (.iconst 1, 1) := by decide +kernel
theorem dX3_isDigit_13 : decode cX3_isDigit 13 = .ok (.goto 4, 3) := by decide +kernel
theorem dX3_isDigit_16 : decode cX3_isDigit 16 = .ok (.iconst 0, 1) := by decide +kernel
theorem dX3_isDigit_17 : decode cX3_isDigit 17 = .ok (.ireturn, 1) := by decide +kernel
theorem dX3_isLetter_0 : decode cX3_isLetter 0 = .ok (.iload_n 0, 1) := by decide +kernel
theorem dX3_isLetter_1 : decode cX3_isLetter 1 = .ok (.bipush 97, 2) := by decide +kernel
theorem dX3_isLetter_3 : decode cX3_isLetter 3 = .ok (.if_icmp .lt 13, 3) := by decide +kernel
theorem dX3_isLetter_6 : decode cX3_isLetter 6 = .ok (.iload_n 0, 1) := by decide +kernel
theorem dX3_isLetter_7 : decode cX3_isLetter 7 = .ok (.bipush 122, 2) := by decide +kernel
theorem dX3_isLetter_9 : decode cX3_isLetter 9 = .ok (.if_icmp .gt 7, 3) := by decide +kernel
theorem dX3_isLetter_12 : decode cX3_isLetter 12 = .ok (.iconst 1, 1) := by decide +kernel
theorem dX3_isLetter_13 : decode cX3_isLetter 13 = .ok (.goto 4, 3) := by decide +kernel
theorem dX3_isLetter_16 : decode cX3_isLetter 16 = .ok (.iconst 0, 1) := by decide +kernel
theorem dX3_isLetter_17 : decode cX3_isLetter 17 = .ok (.ireturn, 1) := by decide +kernel
theorem dJ0_length_8abf5_0 : decode cJ0_length_8abf5 0 = .ok (.aload_n 0, 1) := by decide +kernel
theorem dJ0_length_8abf5_1 : decode cJ0_length_8abf5 1 = .ok (.getfield 9, 3) := by decide +kernel
theorem dJ0_length_8abf5_4 : decode cJ0_length_8abf5 4 = .ok (.arraylength, 1) := by decide +kernel
theorem dJ0_length_8abf5_5 : decode cJ0_length_8abf5 5 = .ok (.aload_n 0, 1) := by decide +kernel
theorem dJ0_length_8abf5_6 : decode cJ0_length_8abf5 6 = .ok (.invokevirtual 335, 3) := by decide +kernel
theorem dJ0_length_8abf5_9 : decode cJ0_length_8abf5 9 = .ok (.ishr, 1) := by decide +kernel
theorem dJ0_length_8abf5_10 : decode cJ0_length_8abf5 10 = .ok (.ireturn, 1) := by decide +kernel
theorem dJ0_charAt_5068e_0 : decode cJ0_charAt_5068e 0 = .ok (.aload_n 0, 1) := by decide +kernel
theorem dJ0_charAt_5068e_1 : decode cJ0_charAt_5068e 1 = .ok (.invokevirtual 492, 3) := by decide +kernel
theorem dJ0_charAt_5068e_4 : decode cJ0_charAt_5068e 4 = .ok (.ifCond .eq 12, 3) := by decide +kernel
theorem dJ0_charAt_5068e_7 : decode cJ0_charAt_5068e 7 = .ok (.aload_n 0, 1) := by decide +kernel
theorem dJ0_charAt_5068e_8 : decode cJ0_charAt_5068e 8 = .ok (.getfield 9, 3) := by decide +kernel
theorem dJ0_charAt_5068e_11 : decode cJ0_charAt_5068e 11 = .ok (.iload_n 1, 1) := by decide +kernel
theorem dJ0_charAt_5068e_12 : decode cJ0_charAt_5068e 12 = .ok (.invokestatic 495, 3) := by decide +kernel
theorem dJ0_charAt_5068e_15 : decode cJ0_charAt_5068e 15 = .ok (.ireturn, 1) := by decide +kernel
theorem dJ0_charAt_5068e_16 : decode cJ0_charAt_5068e 16 = .ok (.aload_n 0, 1) := by decide +kernel
theorem dJ0_charAt_5068e_17 : decode cJ0_charAt_5068e 17 = .ok (.getfield 9, 3) := by decide +kernel
theorem dJ0_charAt_5068e_20 : decode cJ0_charAt_5068e 20 = .ok (.iload_n 1, 1) := by decide +kernel
theorem dJ0_charAt_5068e_21 : decode cJ0_charAt_5068e 21 = .ok (.invokestatic 498, 3) := by decide +kernel
theorem dJ0_charAt_5068e_24 : decode cJ0_charAt_5068e 24 = .ok (.ireturn, 1) := by decide +kernel
theorem dJ0_coder_7d493_0 : decode cJ0_coder_7d493 0 = .ok (.getstatic 38, 3) := by decide +kernel
theorem dJ0_coder_7d493_3 : decode cJ0_coder_7d493 3 = .ok (.ifCond .eq 10, 3) := by decide +kernel
theorem dJ0_coder_7d493_6 : decode cJ0_coder_7d493 6 = .ok (.aload_n 0, 1) := by decide +kernel
theorem dJ0_coder_7d493_7 : decode cJ0_coder_7d493 7 = .ok (.getfield 15, 3) := by decide +kernel
theorem dJ0_coder_7d493_10 : decode cJ0_coder_7d493 10 = .ok (.goto 4, 3) := by decide +kernel
theorem dJ0_coder_7d493_13 : decode cJ0_coder_7d493 13 = .ok (.iconst 1, 1) := by decide +kernel
theorem dJ0_coder_7d493_14 : decode cJ0_coder_7d493 14 = .ok (.ireturn, 1) := by decide +kernel
theorem dJ0_isLatin1_aae02_0 : decode cJ0_isLatin1_aae02 0 = .ok (.getstatic 38, 3) := by decide +kernel
theorem dJ0_isLatin1_aae02_3 : decode cJ0_isLatin1_aae02 3 = .ok (.ifCond .eq 14, 3) := by decide +kernel
theorem dJ0_isLatin1_aae02_6 : decode cJ0_isLatin1_aae02 6 = .ok (.aload_n 0, 1) := by decide +kernel
theorem dJ0_isLatin1_aae02_7 : decode cJ0_isLatin1_aae02 7 = .ok (.getfield 15, 3) := by decide +kernel
theorem dJ0_isLatin1_aae02_10 : decode cJ0_isLatin1_aae02 10 = .ok (.ifCond .ne 7, 3) := by decide +kernel
theorem dJ0_isLatin1_aae02_13 : decode cJ0_isLatin1_aae02 13 = .ok (.iconst 1, 1) := by decide +kernel
theorem dJ0_isLatin1_aae02_14 : decode cJ0_isLatin1_aae02 14 = .ok (.goto 4, 3) := by decide +kernel
theorem dJ0_isLatin1_aae02_17 : decode cJ0_isLatin1_aae02 17 = .ok (.iconst 0, 1) := by decide +kernel
theorem dJ0_isLatin1_aae02_18 : decode cJ0_isLatin1_aae02 18 = .ok (.ireturn, 1) := by decide +kernel
theorem dJ0_checkIndex_df160_0 : decode cJ0_checkIndex_df160 0 = .ok (.iload_n 0, 1) := by decide +kernel
theorem dJ0_checkIndex_df160_1 : decode cJ0_checkIndex_df160 1 = .ok (.iload_n 1, 1) := by decide +kernel
theorem dJ0_checkIndex_df160_2 : decode cJ0_checkIndex_df160 2 = .ok (.getstatic 1053, 3) := by decide +kernel
theorem dJ0_checkIndex_df160_5 : decode cJ0_checkIndex_df160 5 = .ok (.invokestatic 1059, 3) := by decide +kernel
theorem dJ0_checkIndex_df160_8 : decode cJ0_checkIndex_df160 8 = .ok (.pop, 1) := by decide +kernel
theorem dJ0_checkIndex_df160_9 : decode cJ0_checkIndex_df160 9 = .ok (.return_, 1) := by decide +kernel
theorem dJ1_charAt_3b067_0 : decode cJ1_charAt_3b067 0 = .ok (.iload_n 1, 1) := by decide +kernel
theorem dJ1_charAt_3b067_1 : decode cJ1_charAt_3b067 1 = .ok (.aload_n 0, 1) := by decide +kernel
theorem dJ1_charAt_3b067_2 : decode cJ1_charAt_3b067 2 = .ok (.arraylength, 1) := by decide +kernel
theorem dJ1_charAt_3b067_3 : decode cJ1_charAt_3b067 3 = .ok (.invokestatic 9, 3) := by decide +kernel
theorem dJ1_charAt_3b067_6 : decode cJ1_charAt_3b067 6 = .ok (.aload_n 0, 1) := by decide +kernel
theorem dJ1_charAt_3b067_7 : decode cJ1_charAt_3b067 7 = .ok (.iload_n 1, 1) := by decide +kernel
theorem dJ1_charAt_3b067_8 : decode cJ1_charAt_3b067 8 = .ok (.baload, 1) := by decide +kernel
theorem dJ1_charAt_3b067_9 : decode cJ1_charAt_3b067 9 = .ok (.sipush 255, 3) := by decide +kernel
theorem dJ1_charAt_3b067_12 : decode cJ1_charAt_3b067 12 = .ok (.iand, 1) := by decide +kernel
theorem dJ1_charAt_3b067_13 : decode cJ1_charAt_3b067 13 = .ok (.i2c, 1) := by decide +kernel
theorem dJ1_charAt_3b067_14 : decode cJ1_charAt_3b067 14 = .ok (.ireturn, 1) := by decide +kernel
theorem dJ3_checkIndex_8e157_0 : decode cJ3_checkIndex_8e157 0 = .ok (.iload_n 0, 1) := by decide +kernel
theorem dJ3_checkIndex_8e157_1 : decode cJ3_checkIndex_8e157 1 = .ok (.ifCond .lt 8, 3) := by decide +kernel
theorem dJ3_checkIndex_8e157_4 : decode cJ3_checkIndex_8e157 4 = .ok (.iload_n 0, 1) := by decide +kernel
