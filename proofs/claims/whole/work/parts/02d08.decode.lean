theorem dX7_here_16 : decode cX7_here 16 = .ok (.getfield 146, 3) := by decide +kernel
theorem dX7_here_19 : decode cX7_here 19 = .ok (.iaload, 1) := by decide +kernel
theorem dX7_here_20 : decode cX7_here 20 = .ok (.bipush 32, 2) := by decide +kernel
theorem dX7_here_22 : decode cX7_here 22 = .ok (.if_icmp .ne 16, 3) := by decide +kernel
theorem dX7_here_25 : decode cX7_here 25 = .ok (.aload_n 0, 1) := by decide +kernel
theorem dX7_here_26 : decode cX7_here 26 = .ok (.dup, 1) := by decide +kernel
theorem dX7_here_27 : decode cX7_here 27 = .ok (.getfield 146, 3) := by decide +kernel
theorem dX7_here_30 : decode cX7_here 30 = .ok (.iconst 1, 1) := by decide +kernel
theorem dX7_here_31 : decode cX7_here 31 = .ok (.iadd, 1) := by decide +kernel
theorem dX7_here_32 : decode cX7_here 32 = .ok (.putfield 146, 3) := by decide +kernel
theorem dX7_here_35 : decode cX7_here 35 = .ok (.goto (-35), 3) := by decide +kernel
theorem dX7_here_38 : decode cX7_here 38 = .ok (.aload_n 0, 1) := by decide +kernel
theorem dX7_here_39 : decode cX7_here 39 = .ok (.getfield 146, 3) := by decide +kernel
theorem dX7_here_42 : decode cX7_here 42 = .ok (.aload_n 0, 1) := by decide +kernel
theorem dX7_here_43 : decode cX7_here 43 = .ok (.getfield 149, 3) := by decide +kernel
theorem dX7_here_46 : decode cX7_here 46 = .ok (.if_icmp .ge 15, 3) := by decide +kernel
theorem dX7_here_49 : decode cX7_here 49 = .ok (.aload_n 0, 1) := by decide +kernel
theorem dX7_here_50 : decode cX7_here 50 = .ok (.getfield 34, 3) := by decide +kernel
theorem dX7_here_53 : decode cX7_here 53 = .ok (.aload_n 0, 1) := by decide +kernel
theorem dX7_here_54 : decode cX7_here 54 = .ok (.getfield 146, 3) := by decide +kernel
theorem dX7_here_57 : decode cX7_here 57 = .ok (.iaload, 1) := by decide +kernel
theorem dX7_here_58 : decode cX7_here 58 = .ok (.goto 4, 3) := by decide +kernel
theorem dX7_here_61 : decode cX7_here 61 = .ok (.iconst (-1), 1) := by decide +kernel
theorem dX7_here_62 : decode cX7_here 62 = .ok (.ireturn, 1) := by decide +kernel
theorem dX7_isSmall_0 : decode cX7_isSmall 0 = .ok (.iload_n 0, 1) := by decide +kernel
theorem dX7_isSmall_1 : decode cX7_isSmall 1 = .ok (.bipush 97, 2) := by decide +kernel
theorem dX7_isSmall_3 : decode cX7_isSmall 3 = .ok (.if_icmp .lt 13, 3) := by decide +kernel
theorem dX7_isSmall_6 : decode cX7_isSmall 6 = .ok (.iload_n 0, 1) := by decide +kernel
theorem dX7_isSmall_7 : decode cX7_isSmall 7 = .ok (.bipush 122, 2) := by decide +kernel
theorem dX7_isSmall_9 : decode cX7_isSmall 9 = .ok (.if_icmp .gt 7, 3) := by decide +kernel
theorem dX7_isSmall_12 : decode cX7_isSmall 12 = .ok (.iconst 1, 1) := by decide +kernel
theorem dX7_isSmall_13 : decode cX7_isSmall 13 = .ok (.goto 4, 3) := by decide +kernel
theorem dX7_isSmall_16 : decode cX7_isSmall 16 = .ok (.iconst 0, 1) := by decide +kernel
theorem dX7_isSmall_17 : decode cX7_isSmall 17 = .ok (.ireturn, 1) := by decide +kernel
theorem dX7_isDigit_0 : decode cX7_isDigit 0 = .ok (.iload_n 0, 1) := by decide +kernel
theorem dX7_isDigit_1 : decode cX7_isDigit 1 = .ok (.bipush 48, 2) := by decide +kernel
theorem dX7_isDigit_3 : decode cX7_isDigit 3 = .ok (.if_icmp .lt 13, 3) := by decide +kernel
theorem dX7_isDigit_6 : decode cX7_isDigit 6 = .ok (.iload_n 0, 1) := by decide +kernel
theorem dX7_isDigit_7 : decode cX7_isDigit 7 = .ok (.bipush 57, 2) := by decide +kernel
theorem dX7_isDigit_9 : decode cX7_isDigit 9 = .ok (.if_icmp .gt 7, 3) := by decide +kernel
theorem dX7_isDigit_12 : decode cX7_isDigit 12 = .ok (.iconst 1, 1) := by decide +kernel
theorem dX7_isDigit_13 : decode cX7_isDigit 13 = .ok (.goto 4, 3) := by decide +kernel
theorem dX7_isDigit_16 : decode cX7_isDigit 16 = .ok (.iconst 0, 1) := by decide +kernel
theorem dX7_isDigit_17 : decode cX7_isDigit 17 = .ok (.ireturn, 1) := by decide +kernel
theorem dX7_passes_0 : decode cX7_passes 0 = .ok (.aload_n 0, 1) := by decide +kernel
theorem dX7_passes_1 : decode cX7_passes 1 = .ok (.invokevirtual 151, 3) := by decide +kernel
theorem dX7_passes_4 : decode cX7_passes 4 = .ok (.pop, 1) := by decide +kernel
theorem dX7_passes_5 : decode cX7_passes 5 = .ok (.iconst 0, 1) := by decide +kernel
theorem dX7_passes_6 : decode cX7_passes 6 = .ok (.istore_n 2, 1) := by decide +kernel
theorem dX7_passes_7 : decode cX7_passes 7 = .ok (.aload_n 0, 1) := by decide +kernel
theorem dX7_passes_8 : decode cX7_passes 8 = .ok (.getfield 146, 3) := by decide +kernel
theorem dX7_passes_11 : decode cX7_passes 11 = .ok (.iload_n 2, 1) := by decide +kernel
theorem dX7_passes_12 : decode cX7_passes 12 = .ok (.iadd, 1) := by decide +kernel
theorem dX7_passes_13 : decode cX7_passes 13 = .ok (.aload_n 0, 1) := by decide +kernel
theorem dX7_passes_14 : decode cX7_passes 14 = .ok (.getfield 149, 3) := by decide +kernel
theorem dX7_passes_17 : decode cX7_passes 17 = .ok (.if_icmp .ge 26, 3) := by decide +kernel
theorem dX7_passes_20 : decode cX7_passes 20 = .ok (.aload_n 0, 1) := by decide +kernel
theorem dX7_passes_21 : decode cX7_passes 21 = .ok (.getfield 34, 3) := by decide +kernel
theorem dX7_passes_24 : decode cX7_passes 24 = .ok (.aload_n 0, 1) := by decide +kernel
theorem dX7_passes_25 : decode cX7_passes 25 = .ok (.getfield 146, 3) := by decide +kernel
theorem dX7_passes_28 : decode cX7_passes 28 = .ok (.iload_n 2, 1) := by decide +kernel
theorem dX7_passes_29 : decode cX7_passes 29 = .ok (.iadd, 1) := by decide +kernel
theorem dX7_passes_30 : decode cX7_passes 30 = .ok (.iaload, 1) := by decide +kernel
theorem dX7_passes_31 : decode cX7_passes 31 = .ok (.invokestatic 154, 3) := by decide +kernel
theorem dX7_passes_34 : decode cX7_passes 34 = .ok (.ifCond .eq 9, 3) := by decide +kernel
theorem dX7_passes_37 : decode cX7_passes 37 = .ok (.iinc 2 1, 3) := by decide +kernel
theorem dX7_passes_40 : decode cX7_passes 40 = .ok (.goto (-33), 3) := by decide +kernel
theorem dX7_passes_43 : decode cX7_passes 43 = .ok (.iload_n 2, 1) := by decide +kernel
theorem dX7_passes_44 : decode cX7_passes 44 = .ok (.aload_n 1, 1) := by decide +kernel
theorem dX7_passes_45 : decode cX7_passes 45 = .ok (.invokevirtual 158, 3) := by decide +kernel
theorem dX7_passes_48 : decode cX7_passes 48 = .ok (.if_icmp .eq 5, 3) := by decide +kernel
theorem dX7_passes_51 : decode cX7_passes 51 = .ok (.iconst 0, 1) := by decide +kernel
theorem dX7_passes_52 : decode cX7_passes 52 = .ok (.ireturn, 1) := by decide +kernel
theorem dX7_passes_53 : decode cX7_passes 53 = .ok (.iconst 0, 1) := by decide +kernel
theorem dX7_passes_54 : decode cX7_passes 54 = .ok (.istore_n 3, 1) := by decide +kernel
theorem dX7_passes_55 : decode cX7_passes 55 = .ok (.iload_n 3, 1) := by decide +kernel
theorem dX7_passes_56 : decode cX7_passes 56 = .ok (.iload_n 2, 1) := by decide +kernel
theorem dX7_passes_57 : decode cX7_passes 57 = .ok (.if_icmp .ge 30, 3) := by decide +kernel
theorem dX7_passes_60 : decode cX7_passes 60 = .ok (.aload_n 0, 1) := by decide +kernel
theorem dX7_passes_61 : decode cX7_passes 61 = .ok (.getfield 34, 3) := by decide +kernel
theorem dX7_passes_64 : decode cX7_passes 64 = .ok (.aload_n 0, 1) := by decide +kernel
theorem dX7_passes_65 : decode cX7_passes 65 = .ok (.getfield 146, 3) := by decide +kernel
theorem dX7_passes_68 : decode cX7_passes 68 = .ok (.iload_n 3, 1) := by decide +kernel
theorem dX7_passes_69 : decode cX7_passes 69 = .ok (.iadd, 1) := by decide +kernel
theorem dX7_passes_70 : decode cX7_passes 70 = .ok (.iaload, 1) := by decide +kernel
theorem dX7_passes_71 : decode cX7_passes 71 = .ok (.aload_n 1, 1) := by decide +kernel
theorem dX7_passes_72 : decode cX7_passes 72 = .ok (.iload_n 3, 1) := by decide +kernel
theorem dX7_passes_73 : decode cX7_passes 73 = .ok (.invokevirtual 162, 3) := by decide +kernel
theorem dX7_passes_76 : decode cX7_passes 76 = .ok (.if_icmp .eq 5, 3) := by decide +kernel
theorem dX7_passes_79 : decode cX7_passes 79 = .ok (.iconst 0, 1) := by decide +kernel
theorem dX7_passes_80 : decode cX7_passes 80 = .ok (.ireturn, 1) := by decide +kernel
theorem dX7_passes_81 : decode cX7_passes 81 = .ok (.iinc 3 1, 3) := by decide +kernel
theorem dX7_passes_84 : decode cX7_passes 84 = .ok (.goto (-29), 3) := by decide +kernel
theorem dX7_passes_87 : decode cX7_passes 87 = .ok (.aload_n 0, 1) := by decide +kernel
theorem dX7_passes_88 : decode cX7_passes 88 = .ok (.dup, 1) := by decide +kernel
theorem dX7_passes_89 : decode cX7_passes 89 = .ok (.getfield 146, 3) := by decide +kernel
theorem dX7_passes_92 : decode cX7_passes 92 = .ok (.iload_n 2, 1) := by decide +kernel
theorem dX7_passes_93 : decode cX7_passes 93 = .ok (.iadd, 1) := by decide +kernel
theorem dX7_passes_94 : decode cX7_passes 94 = .ok (.putfield 146, 3) := by decide +kernel
theorem dX7_passes_97 : decode cX7_passes 97 = .ok (.iconst 1, 1) := by decide +kernel
theorem dX7_passes_98 : decode cX7_passes 98 = .ok (.ireturn, 1) := by decide +kernel
theorem dX7_sign_0 : decode cX7_sign 0 = .ok (.aload_n 0, 1) := by decide +kernel
theorem dX7_sign_1 : decode cX7_sign 1 = .ok (.invokevirtual 151, 3) := by decide +kernel
theorem dX7_sign_4 : decode cX7_sign 4 = .ok (.iload_n 1, 1) := by decide +kernel
theorem dX7_sign_5 : decode cX7_sign 5 = .ok (.if_icmp .eq 14, 3) := by decide +kernel
theorem dX7_sign_8 : decode cX7_sign 8 = .ok (.aload_n 0, 1) := by decide +kernel
theorem dX7_sign_9 : decode cX7_sign 9 = .ok (.bipush (-2), 2) := by decide +kernel
theorem dX7_sign_11 : decode cX7_sign 11 = .ok (.aload_n 0, 1) := by decide +kernel
theorem dX7_sign_12 : decode cX7_sign 12 = .ok (.getfield 146, 3) := by decide +kernel
theorem dX7_sign_15 : decode cX7_sign 15 = .ok (.invokevirtual 166, 3) := by decide +kernel
theorem dX7_sign_18 : decode cX7_sign 18 = .ok (.ireturn, 1) := by decide +kernel
theorem dX7_sign_19 : decode cX7_sign 19 = .ok (.aload_n 0, 1) := by decide +kernel
theorem dX7_sign_20 : decode cX7_sign 20 = .ok (.dup, 1) := by decide +kernel
theorem dX7_sign_21 : decode cX7_sign 21 = .ok (.getfield 146, 3) := by decide +kernel
theorem dX7_sign_24 : decode cX7_sign 24 = .ok (.iconst 1, 1) := by decide +kernel
theorem dX7_sign_25 : decode cX7_sign 25 = .ok (.iadd, 1) := by decide +kernel
theorem dX7_sign_26 : decode cX7_sign 26 = .ok (.putfield 146, 3) := by decide +kernel
theorem dX7_sign_29 : decode cX7_sign 29 = .ok (.iconst 1, 1) := by decide +kernel
theorem dX7_sign_30 : decode cX7_sign 30 = .ok (.ireturn, 1) := by decide +kernel
theorem dX7_reads_0 : decode cX7_reads 0 = .ok (.aload_n 0, 1) := by decide +kernel
theorem dX7_reads_1 : decode cX7_reads 1 = .ok (.invokevirtual 151, 3) := by decide +kernel
theorem dX7_reads_4 : decode cX7_reads 4 = .ok (.invokestatic 170, 3) := by decide +kernel
theorem dX7_reads_7 : decode cX7_reads 7 = .ok (.ifCond .ne 14, 3) := by decide +kernel
theorem dX7_reads_10 : decode cX7_reads 10 = .ok (.aload_n 0, 1) := by decide +kernel
theorem dX7_reads_11 : decode cX7_reads 11 = .ok (.bipush (-2), 2) := by decide +kernel
theorem dX7_reads_13 : decode cX7_reads 13 = .ok (.aload_n 0, 1) := by decide +kernel
theorem dX7_reads_14 : decode cX7_reads 14 = .ok (.getfield 146, 3) := by decide +kernel
theorem dX7_reads_17 : decode cX7_reads 17 = .ok (.invokevirtual 166, 3) := by decide +kernel
theorem dX7_reads_20 : decode cX7_reads 20 = .ok (.ireturn, 1) := by decide +kernel
theorem dX7_reads_21 : decode cX7_reads 21 = .ok (.aload_n 0, 1) := by decide +kernel
theorem dX7_reads_22 : decode cX7_reads 22 = .ok (.aload_n 0, 1) := by decide +kernel
theorem dX7_reads_23 : decode cX7_reads 23 = .ok (.getfield 146, 3) := by decide +kernel
theorem dX7_reads_26 : decode cX7_reads 26 = .ok (.putfield 173, 3) := by decide +kernel
theorem dX7_reads_29 : decode cX7_reads 29 = .ok (.aload_n 0, 1) := by decide +kernel
theorem dX7_reads_30 : decode cX7_reads 30 = .ok (.iconst 0, 1) := by decide +kernel
theorem dX7_reads_31 : decode cX7_reads 31 = .ok (.putfield 176, 3) := by decide +kernel
theorem dX7_reads_34 : decode cX7_reads 34 = .ok (.aload_n 0, 1) := by decide +kernel
theorem dX7_reads_35 : decode cX7_reads 35 = .ok (.getfield 146, 3) := by decide +kernel
theorem dX7_reads_38 : decode cX7_reads 38 = .ok (.aload_n 0, 1) := by decide +kernel
theorem dX7_reads_39 : decode cX7_reads 39 = .ok (.getfield 149, 3) := by decide +kernel
theorem dX7_reads_42 : decode cX7_reads 42 = .ok (.if_icmp .ge 71, 3) := by decide +kernel
theorem dX7_reads_45 : decode cX7_reads 45 = .ok (.aload_n 0, 1) := by decide +kernel
theorem dX7_reads_46 : decode cX7_reads 46 = .ok (.getfield 34, 3) := by decide +kernel
theorem dX7_reads_49 : decode cX7_reads 49 = .ok (.aload_n 0, 1) := by decide +kernel
theorem dX7_reads_50 : decode cX7_reads 50 = .ok (.getfield 146, 3) := by decide +kernel
theorem dX7_reads_53 : decode cX7_reads 53 = .ok (.iaload, 1) := by decide +kernel
theorem dX7_reads_54 : decode cX7_reads 54 = .ok (.invokestatic 170, 3) := by decide +kernel
theorem dX7_reads_57 : decode cX7_reads 57 = .ok (.ifCond .eq 56, 3) := by decide +kernel
theorem dX7_reads_60 : decode cX7_reads 60 = .ok (.aload_n 0, 1) := by decide +kernel
theorem dX7_reads_61 : decode cX7_reads 61 = .ok (.aload_n 0, 1) := by decide +kernel
theorem dX7_reads_62 : decode cX7_reads 62 = .ok (.getfield 176, 3) := by decide +kernel
theorem dX7_reads_65 : decode cX7_reads 65 = .ok (.ldc 179, 2) := by decide +kernel
theorem dX7_reads_67 : decode cX7_reads 67 = .ok (.if_icmp .le 10, 3) := by decide +kernel
theorem dX7_reads_70 : decode cX7_reads 70 = .ok (.aload_n 0, 1) := by decide +kernel
theorem dX7_reads_71 : decode cX7_reads 71 = .ok (.getfield 176, 3) := by decide +kernel
theorem dX7_reads_74 : decode cX7_reads 74 = .ok (.goto 23, 3) := by decide +kernel
theorem dX7_reads_77 : decode cX7_reads 77 = .ok (.bipush 10, 2) := by decide +kernel
theorem dX7_reads_79 : decode cX7_reads 79 = .ok (.aload_n 0, 1) := by decide +kernel
theorem dX7_reads_80 : decode cX7_reads 80 = .ok (.getfield 176, 3) := by decide +kernel
theorem dX7_reads_83 : decode cX7_reads 83 = .ok (.imul, 1) := by decide +kernel
theorem dX7_reads_84 : decode cX7_reads 84 = .ok (.aload_n 0, 1) := by decide +kernel
theorem dX7_reads_85 : decode cX7_reads 85 = .ok (.getfield 34, 3) := by decide +kernel
theorem dX7_reads_88 : decode cX7_reads 88 = .ok (.aload_n 0, 1) := by decide +kernel
theorem dX7_reads_89 : decode cX7_reads 89 = .ok (.getfield 146, 3) := by decide +kernel
theorem dX7_reads_92 : decode cX7_reads 92 = .ok (.iaload, 1) := by decide +kernel
theorem dX7_reads_93 : decode cX7_reads 93 = .ok (.iadd, 1) := by decide +kernel
theorem dX7_reads_94 : decode cX7_reads 94 = .ok (.bipush 48, 2) := by decide +kernel
theorem dX7_reads_96 : decode cX7_reads 96 = .ok (.isub, 1) := by decide +kernel
theorem dX7_reads_97 : decode cX7_reads 97 = .ok (.putfield 176, 3) := by decide +kernel
theorem dX7_reads_100 : decode cX7_reads 100 = .ok (.aload_n 0, 1) := by decide +kernel
theorem dX7_reads_101 : decode cX7_reads 101 = .ok (.dup, 1) := by decide +kernel
theorem dX7_reads_102 : decode cX7_reads 102 = .ok (.getfield 146, 3) := by decide +kernel
theorem dX7_reads_105 : decode cX7_reads 105 = .ok (.iconst 1, 1) := by decide +kernel
theorem dX7_reads_106 : decode cX7_reads 106 = .ok (.iadd, 1) := by decide +kernel
theorem dX7_reads_107 : decode cX7_reads 107 = .ok (.putfield 146, 3) := by decide +kernel
theorem dX7_reads_110 : decode cX7_reads 110 = .ok (.goto (-76), 3) := by decide +kernel
theorem dX7_reads_113 : decode cX7_reads 113 = .ok (.aload_n 0, 1) := by decide +kernel
theorem dX7_reads_114 : decode cX7_reads 114 = .ok (.getfield 176, 3) := by decide +kernel
theorem dX7_reads_117 : decode cX7_reads 117 = .ok (.iload_n 1, 1) := by decide +kernel
theorem dX7_reads_118 : decode cX7_reads 118 = .ok (.iload_n 2, 1) := by decide +kernel
theorem dX7_reads_119 : decode cX7_reads 119 = .ok (.invokestatic 69, 3) := by decide +kernel
theorem dX7_reads_122 : decode cX7_reads 122 = .ok (.ifCond .ne 16, 3) := by decide +kernel
theorem dX7_reads_125 : decode cX7_reads 125 = .ok (.aload_n 0, 1) := by decide +kernel
theorem dX7_reads_126 : decode cX7_reads 126 = .ok (.bipush (-3), 2) := by decide +kernel
theorem dX7_reads_128 : decode cX7_reads 128 = .ok (.aload_n 0, 1) := by decide +kernel
theorem dX7_reads_129 : decode cX7_reads 129 = .ok (.getfield 173, 3) := by decide +kernel
theorem dX7_reads_132 : decode cX7_reads 132 = .ok (.invokevirtual 166, 3) := by decide +kernel
theorem dX7_reads_135 : decode cX7_reads 135 = .ok (.ifCond .eq 7, 3) := by decide +kernel
theorem dX7_reads_138 : decode cX7_reads 138 = .ok (.iconst 1, 1) := by decide +kernel
theorem dX7_reads_139 : decode cX7_reads 139 = .ok (.goto 4, 3) := by decide +kernel
theorem dX7_reads_142 : decode cX7_reads 142 = .ok (.iconst 0, 1) := by decide +kernel
theorem dX7_reads_143 : decode cX7_reads 143 = .ok (.ireturn, 1) := by decide +kernel
theorem dX7_readsPush_0 : decode cX7_readsPush 0 = .ok (.aload_n 0, 1) := by decide +kernel
theorem dX7_readsPush_1 : decode cX7_readsPush 1 = .ok (.iconst 0, 1) := by decide +kernel
theorem dX7_readsPush_2 : decode cX7_readsPush 2 = .ok (.putfield 180, 3) := by decide +kernel
theorem dX7_readsPush_5 : decode cX7_readsPush 5 = .ok (.aload_n 0, 1) := by decide +kernel
theorem dX7_readsPush_6 : decode cX7_readsPush 6 = .ok (.iconst 0, 1) := by decide +kernel
theorem dX7_readsPush_7 : decode cX7_readsPush 7 = .ok (.aload_n 0, 1) := by decide +kernel
theorem dX7_readsPush_8 : decode cX7_readsPush 8 = .ok (.invokevirtual 65, 3) := by decide +kernel
theorem dX7_readsPush_11 : decode cX7_readsPush 11 = .ok (.iconst 1, 1) := by decide +kernel
theorem dX7_readsPush_12 : decode cX7_readsPush 12 = .ok (.isub, 1) := by decide +kernel
theorem dX7_readsPush_13 : decode cX7_readsPush 13 = .ok (.invokevirtual 184, 3) := by decide +kernel
theorem dX7_readsPush_16 : decode cX7_readsPush 16 = .ok (.ifCond .ne 5, 3) := by decide +kernel
theorem dX7_readsPush_19 : decode cX7_readsPush 19 = .ok (.iconst 0, 1) := by decide +kernel
theorem dX7_readsPush_20 : decode cX7_readsPush 20 = .ok (.ireturn, 1) := by decide +kernel
theorem dX7_readsPush_21 : decode cX7_readsPush 21 = .ok (.aload_n 0, 1) := by decide +kernel
theorem dX7_readsPush_22 : decode cX7_readsPush 22 = .ok (.getfield 176, 3) := by decide +kernel
theorem dX7_readsPush_25 : decode cX7_readsPush 25 = .ok (.istore_n 1, 1) := by decide +kernel
theorem dX7_readsPush_26 : decode cX7_readsPush 26 = .ok (.aload_n 0, 1) := by decide +kernel
theorem dX7_readsPush_27 : decode cX7_readsPush 27 = .ok (.iconst 0, 1) := by decide +kernel
theorem dX7_readsPush_28 : decode cX7_readsPush 28 = .ok (.bipush 99, 2) := by decide +kernel
theorem dX7_readsPush_30 : decode cX7_readsPush 30 = .ok (.invokevirtual 184, 3) := by decide +kernel
theorem dX7_readsPush_33 : decode cX7_readsPush 33 = .ok (.ifCond .ne 5, 3) := by decide +kernel
theorem dX7_readsPush_36 : decode cX7_readsPush 36 = .ok (.iconst 0, 1) := by decide +kernel
theorem dX7_readsPush_37 : decode cX7_readsPush 37 = .ok (.ireturn, 1) := by decide +kernel
theorem dX7_readsPush_38 : decode cX7_readsPush 38 = .ok (.aload_n 0, 1) := by decide +kernel
theorem dX7_readsPush_39 : decode cX7_readsPush 39 = .ok (.invokevirtual 65, 3) := by decide +kernel
theorem dX7_readsPush_42 : decode cX7_readsPush 42 = .ok (.bipush 64, 2) := by decide +kernel
theorem dX7_readsPush_44 : decode cX7_readsPush 44 = .ok (.if_icmp .ne 14, 3) := by decide +kernel
theorem dX7_readsPush_47 : decode cX7_readsPush 47 = .ok (.aload_n 0, 1) := by decide +kernel
theorem dX7_readsPush_48 : decode cX7_readsPush 48 = .ok (.bipush (-4), 2) := by decide +kernel
theorem dX7_readsPush_50 : decode cX7_readsPush 50 = .ok (.aload_n 0, 1) := by decide +kernel
theorem dX7_readsPush_51 : decode cX7_readsPush 51 = .ok (.getfield 173, 3) := by decide +kernel
theorem dX7_readsPush_54 : decode cX7_readsPush 54 = .ok (.invokevirtual 166, 3) := by decide +kernel
theorem dX7_readsPush_57 : decode cX7_readsPush 57 = .ok (.ireturn, 1) := by decide +kernel
theorem dX7_readsPush_58 : decode cX7_readsPush 58 = .ok (.aload_n 0, 1) := by decide +kernel
theorem dX7_readsPush_59 : decode cX7_readsPush 59 = .ok (.iload_n 1, 1) := by decide +kernel
theorem dX7_readsPush_60 : decode cX7_readsPush 60 = .ok (.aload_n 0, 1) := by decide +kernel
theorem dX7_readsPush_61 : decode cX7_readsPush 61 = .ok (.getfield 176, 3) := by decide +kernel
theorem dX7_readsPush_64 : decode cX7_readsPush 64 = .ok (.invokevirtual 187, 3) := by decide +kernel
theorem dX7_readsPush_67 : decode cX7_readsPush 67 = .ok (.istore_n 1, 1) := by decide +kernel
theorem dX7_readsPush_68 : decode cX7_readsPush 68 = .ok (.aload_n 0, 1) := by decide +kernel
theorem dX7_readsPush_69 : decode cX7_readsPush 69 = .ok (.invokevirtual 151, 3) := by decide +kernel
theorem dX7_readsPush_72 : decode cX7_readsPush 72 = .ok (.invokestatic 170, 3) := by decide +kernel
theorem dX7_readsPush_75 : decode cX7_readsPush 75 = .ok (.ifCond .ne (-49), 3) := by decide +kernel
theorem dX7_readsPush_78 : decode cX7_readsPush 78 = .ok (.iconst 1, 1) := by decide +kernel
theorem dX7_readsPush_79 : decode cX7_readsPush 79 = .ok (.ireturn, 1) := by decide +kernel
theorem dX7_readsPop_0 : decode cX7_readsPop 0 = .ok (.aload_n 0, 1) := by decide +kernel
theorem dX7_readsPop_1 : decode cX7_readsPop 1 = .ok (.iconst 0, 1) := by decide +kernel
theorem dX7_readsPop_2 : decode cX7_readsPop 2 = .ok (.putfield 180, 3) := by decide +kernel
theorem dX7_readsPop_5 : decode cX7_readsPop 5 = .ok (.aload_n 0, 1) := by decide +kernel
theorem dX7_readsPop_6 : decode cX7_readsPop 6 = .ok (.iconst 0, 1) := by decide +kernel
theorem dX7_readsPop_7 : decode cX7_readsPop 7 = .ok (.aload_n 0, 1) := by decide +kernel
theorem dX7_readsPop_8 : decode cX7_readsPop 8 = .ok (.invokevirtual 65, 3) := by decide +kernel
theorem dX7_readsPop_11 : decode cX7_readsPop 11 = .ok (.iconst 1, 1) := by decide +kernel
theorem dX7_readsPop_12 : decode cX7_readsPop 12 = .ok (.isub, 1) := by decide +kernel
theorem dX7_readsPop_13 : decode cX7_readsPop 13 = .ok (.invokevirtual 184, 3) := by decide +kernel
theorem dX7_readsPop_16 : decode cX7_readsPop 16 = .ok (.ifCond .ne 5, 3) := by decide +kernel
theorem dX7_readsPop_19 : decode cX7_readsPop 19 = .ok (.iconst 0, 1) := by decide +kernel
theorem dX7_readsPop_20 : decode cX7_readsPop 20 = .ok (.ireturn, 1) := by decide +kernel
theorem dX7_readsPop_21 : decode cX7_readsPop 21 = .ok (.aload_n 0, 1) := by decide +kernel
theorem dX7_readsPop_22 : decode cX7_readsPop 22 = .ok (.getfield 176, 3) := by decide +kernel
theorem dX7_readsPop_25 : decode cX7_readsPop 25 = .ok (.istore_n 1, 1) := by decide +kernel
theorem dX7_readsPop_26 : decode cX7_readsPop 26 = .ok (.aload_n 0, 1) := by decide +kernel
theorem dX7_readsPop_27 : decode cX7_readsPop 27 = .ok (.iconst 1, 1) := by decide +kernel
theorem dX7_readsPop_28 : decode cX7_readsPop 28 = .ok (.bipush 64, 2) := by decide +kernel
theorem dX7_readsPop_30 : decode cX7_readsPop 30 = .ok (.invokevirtual 184, 3) := by decide +kernel
theorem dX7_readsPop_33 : decode cX7_readsPop 33 = .ok (.ifCond .ne 5, 3) := by decide +kernel
theorem dX7_readsPop_36 : decode cX7_readsPop 36 = .ok (.iconst 0, 1) := by decide +kernel
theorem dX7_readsPop_37 : decode cX7_readsPop 37 = .ok (.ireturn, 1) := by decide +kernel
theorem dX7_readsPop_38 : decode cX7_readsPop 38 = .ok (.aload_n 0, 1) := by decide +kernel
theorem dX7_readsPop_39 : decode cX7_readsPop 39 = .ok (.invokevirtual 65, 3) := by decide +kernel
theorem dX7_readsPop_42 : decode cX7_readsPop 42 = .ok (.aload_n 0, 1) := by decide +kernel
theorem dX7_readsPop_43 : decode cX7_readsPop 43 = .ok (.getfield 176, 3) := by decide +kernel
theorem dX7_readsPop_46 : decode cX7_readsPop 46 = .ok (.iadd, 1) := by decide +kernel
theorem dX7_readsPop_47 : decode cX7_readsPop 47 = .ok (.bipush 64, 2) := by decide +kernel
theorem dX7_readsPop_49 : decode cX7_readsPop 49 = .ok (.if_icmp .le 14, 3) := by decide +kernel
theorem dX7_readsPop_52 : decode cX7_readsPop 52 = .ok (.aload_n 0, 1) := by decide +kernel
theorem dX7_readsPop_53 : decode cX7_readsPop 53 = .ok (.bipush (-4), 2) := by decide +kernel
theorem dX7_readsPop_55 : decode cX7_readsPop 55 = .ok (.aload_n 0, 1) := by decide +kernel
theorem dX7_readsPop_56 : decode cX7_readsPop 56 = .ok (.getfield 173, 3) := by decide +kernel
theorem dX7_readsPop_59 : decode cX7_readsPop 59 = .ok (.invokevirtual 166, 3) := by decide +kernel
theorem dX7_readsPop_62 : decode cX7_readsPop 62 = .ok (.ireturn, 1) := by decide +kernel
theorem dX7_readsPop_63 : decode cX7_readsPop 63 = .ok (.aload_n 0, 1) := by decide +kernel
theorem dX7_readsPop_64 : decode cX7_readsPop 64 = .ok (.getfield 176, 3) := by decide +kernel
theorem dX7_readsPop_67 : decode cX7_readsPop 67 = .ok (.aload_n 0, 1) := by decide +kernel
theorem dX7_readsPop_68 : decode cX7_readsPop 68 = .ok (.iload_n 1, 1) := by decide +kernel
theorem dX7_readsPop_69 : decode cX7_readsPop 69 = .ok (.invokevirtual 128, 3) := by decide +kernel
theorem dX7_readsPop_72 : decode cX7_readsPop 72 = .ok (.if_icmp .le 14, 3) := by decide +kernel
theorem dX7_readsPop_75 : decode cX7_readsPop 75 = .ok (.aload_n 0, 1) := by decide +kernel
theorem dX7_readsPop_76 : decode cX7_readsPop 76 = .ok (.bipush (-5), 2) := by decide +kernel
theorem dX7_readsPop_78 : decode cX7_readsPop 78 = .ok (.aload_n 0, 1) := by decide +kernel
theorem dX7_readsPop_79 : decode cX7_readsPop 79 = .ok (.getfield 173, 3) := by decide +kernel
theorem dX7_readsPop_82 : decode cX7_readsPop 82 = .ok (.invokevirtual 166, 3) := by decide +kernel
theorem dX7_readsPop_85 : decode cX7_readsPop 85 = .ok (.ireturn, 1) := by decide +kernel
theorem dX7_readsPop_86 : decode cX7_readsPop 86 = .ok (.aload_n 0, 1) := by decide +kernel
theorem dX7_readsPop_87 : decode cX7_readsPop 87 = .ok (.getfield 176, 3) := by decide +kernel
theorem dX7_readsPop_90 : decode cX7_readsPop 90 = .ok (.istore_n 2, 1) := by decide +kernel
theorem dX7_readsPop_91 : decode cX7_readsPop 91 = .ok (.iload_n 2, 1) := by decide +kernel
theorem dX7_readsPop_92 : decode cX7_readsPop 92 = .ok (.ifCond .le 16, 3) := by decide +kernel
theorem dX7_readsPop_95 : decode cX7_readsPop 95 = .ok (.aload_n 0, 1) := by decide +kernel
theorem dX7_readsPop_96 : decode cX7_readsPop 96 = .ok (.iload_n 1, 1) := by decide +kernel
theorem dX7_readsPop_97 : decode cX7_readsPop 97 = .ok (.iconst (-1), 1) := by decide +kernel
theorem dX7_readsPop_98 : decode cX7_readsPop 98 = .ok (.invokevirtual 187, 3) := by decide +kernel
theorem dX7_readsPop_101 : decode cX7_readsPop 101 = .ok (.istore_n 1, 1) := by decide +kernel
theorem dX7_readsPop_102 : decode cX7_readsPop 102 = .ok (.iinc 2 (-1), 3) := by decide +kernel
theorem dX7_readsPop_105 : decode cX7_readsPop 105 = .ok (.goto (-14), 3) := by decide +kernel
theorem dX7_readsPop_108 : decode cX7_readsPop 108 = .ok (.iconst 1, 1) := by decide +kernel
theorem dX7_readsPop_109 : decode cX7_readsPop 109 = .ok (.ireturn, 1) := by decide +kernel
theorem dX7_readsPace_0 : decode cX7_readsPace 0 = .ok (.aload_n 0, 1) := by decide +kernel
theorem dX7_readsPace_1 : decode cX7_readsPace 1 = .ok (.getfield 180, 3) := by decide +kernel
theorem dX7_readsPace_4 : decode cX7_readsPace 4 = .ok (.ifCond .ne 11, 3) := by decide +kernel
theorem dX7_readsPace_7 : decode cX7_readsPace 7 = .ok (.aload_n 0, 1) := by decide +kernel
theorem dX7_readsPace_8 : decode cX7_readsPace 8 = .ok (.bipush (-2), 2) := by decide +kernel
theorem dX7_readsPace_10 : decode cX7_readsPace 10 = .ok (.iload_n 1, 1) := by decide +kernel
theorem dX7_readsPace_11 : decode cX7_readsPace 11 = .ok (.invokevirtual 166, 3) := by decide +kernel
theorem dX7_readsPace_14 : decode cX7_readsPace 14 = .ok (.ireturn, 1) := by decide +kernel
theorem dX7_readsPace_15 : decode cX7_readsPace 15 = .ok (.aload_n 0, 1) := by decide +kernel
theorem dX7_readsPace_16 : decode cX7_readsPace 16 = .ok (.iconst 0, 1) := by decide +kernel
theorem dX7_readsPace_17 : decode cX7_readsPace 17 = .ok (.putfield 180, 3) := by decide +kernel
theorem dX7_readsPace_20 : decode cX7_readsPace 20 = .ok (.aload_n 0, 1) := by decide +kernel
theorem dX7_readsPace_21 : decode cX7_readsPace 21 = .ok (.iconst 2, 1) := by decide +kernel
theorem dX7_readsPace_22 : decode cX7_readsPace 22 = .ok (.iconst 4, 1) := by decide +kernel
theorem dX7_readsPace_23 : decode cX7_readsPace 23 = .ok (.invokevirtual 184, 3) := by decide +kernel
theorem dX7_readsPace_26 : decode cX7_readsPace 26 = .ok (.ifCond .ne 5, 3) := by decide +kernel
theorem dX7_readsPace_29 : decode cX7_readsPace 29 = .ok (.iconst 0, 1) := by decide +kernel
theorem dX7_readsPace_30 : decode cX7_readsPace 30 = .ok (.ireturn, 1) := by decide +kernel
theorem dX7_readsPace_31 : decode cX7_readsPace 31 = .ok (.aload_n 0, 1) := by decide +kernel
theorem dX7_readsPace_32 : decode cX7_readsPace 32 = .ok (.iconst 1, 1) := by decide +kernel
theorem dX7_readsPace_33 : decode cX7_readsPace 33 = .ok (.aload_n 0, 1) := by decide +kernel
theorem dX7_readsPace_34 : decode cX7_readsPace 34 = .ok (.getfield 176, 3) := by decide +kernel
theorem dX7_readsPace_37 : decode cX7_readsPace 37 = .ok (.invokevirtual 54, 3) := by decide +kernel
theorem dX7_readsPace_40 : decode cX7_readsPace 40 = .ok (.iconst 1, 1) := by decide +kernel
theorem dX7_readsPace_41 : decode cX7_readsPace 41 = .ok (.ireturn, 1) := by decide +kernel
theorem dX7_readsText_0 : decode cX7_readsText 0 = .ok (.aload_n 0, 1) := by decide +kernel
theorem dX7_readsText_1 : decode cX7_readsText 1 = .ok (.ldc 190, 2) := by decide +kernel
theorem dX7_readsText_3 : decode cX7_readsText 3 = .ok (.invokevirtual 192, 3) := by decide +kernel
theorem dX7_readsText_6 : decode cX7_readsText 6 = .ok (.ifCond .ne 14, 3) := by decide +kernel
theorem dX7_readsText_9 : decode cX7_readsText 9 = .ok (.aload_n 0, 1) := by decide +kernel
theorem dX7_readsText_10 : decode cX7_readsText 10 = .ok (.bipush (-2), 2) := by decide +kernel
theorem dX7_readsText_12 : decode cX7_readsText 12 = .ok (.aload_n 0, 1) := by decide +kernel
theorem dX7_readsText_13 : decode cX7_readsText 13 = .ok (.getfield 146, 3) := by decide +kernel
theorem dX7_readsText_16 : decode cX7_readsText 16 = .ok (.invokevirtual 166, 3) := by decide +kernel
theorem dX7_readsText_19 : decode cX7_readsText 19 = .ok (.ireturn, 1) := by decide +kernel
theorem dX7_readsText_20 : decode cX7_readsText 20 = .ok (.aload_n 0, 1) := by decide +kernel
theorem dX7_readsText_21 : decode cX7_readsText 21 = .ok (.invokevirtual 41, 3) := by decide +kernel
theorem dX7_readsText_24 : decode cX7_readsText 24 = .ok (.aload_n 0, 1) := by decide +kernel
theorem dX7_readsText_25 : decode cX7_readsText 25 = .ok (.iconst 1, 1) := by decide +kernel
theorem dX7_readsText_26 : decode cX7_readsText 26 = .ok (.putfield 180, 3) := by decide +kernel
theorem dX7_readsText_29 : decode cX7_readsText 29 = .ok (.aload_n 0, 1) := by decide +kernel
theorem dX7_readsText_30 : decode cX7_readsText 30 = .ok (.bipush 59, 2) := by decide +kernel
theorem dX7_readsText_32 : decode cX7_readsText 32 = .ok (.invokevirtual 196, 3) := by decide +kernel
theorem dX7_readsText_35 : decode cX7_readsText 35 = .ok (.ifCond .ne 5, 3) := by decide +kernel
theorem dX7_readsText_38 : decode cX7_readsText 38 = .ok (.iconst 0, 1) := by decide +kernel
theorem dX7_readsText_39 : decode cX7_readsText 39 = .ok (.ireturn, 1) := by decide +kernel
theorem dX7_readsText_40 : decode cX7_readsText 40 = .ok (.aload_n 0, 1) := by decide +kernel
theorem dX7_readsText_41 : decode cX7_readsText 41 = .ok (.invokevirtual 151, 3) := by decide +kernel
theorem dX7_readsText_44 : decode cX7_readsText 44 = .ok (.iconst (-1), 1) := by decide +kernel
theorem dX7_readsText_45 : decode cX7_readsText 45 = .ok (.if_icmp .eq 83, 3) := by decide +kernel
theorem dX7_readsText_48 : decode cX7_readsText 48 = .ok (.aload_n 0, 1) := by decide +kernel
theorem dX7_readsText_49 : decode cX7_readsText 49 = .ok (.getfield 146, 3) := by decide +kernel
theorem dX7_readsText_52 : decode cX7_readsText 52 = .ok (.istore_n 1, 1) := by decide +kernel
theorem dX7_readsText_53 : decode cX7_readsText 53 = .ok (.aload_n 0, 1) := by decide +kernel
theorem dX7_readsText_54 : decode cX7_readsText 54 = .ok (.ldc 199, 2) := by decide +kernel
theorem dX7_readsText_56 : decode cX7_readsText 56 = .ok (.invokevirtual 192, 3) := by decide +kernel
theorem dX7_readsText_59 : decode cX7_readsText 59 = .ok (.ifCond .eq 10, 3) := by decide +kernel
theorem dX7_readsText_62 : decode cX7_readsText 62 = .ok (.aload_n 0, 1) := by decide +kernel
theorem dX7_readsText_63 : decode cX7_readsText 63 = .ok (.invokevirtual 201, 3) := by decide +kernel
theorem dX7_readsText_66 : decode cX7_readsText 66 = .ok (.goto 43, 3) := by decide +kernel
theorem dX7_readsText_69 : decode cX7_readsText 69 = .ok (.aload_n 0, 1) := by decide +kernel
theorem dX7_readsText_70 : decode cX7_readsText 70 = .ok (.ldc 204, 2) := by decide +kernel
theorem dX7_readsText_72 : decode cX7_readsText 72 = .ok (.invokevirtual 192, 3) := by decide +kernel
theorem dX7_readsText_75 : decode cX7_readsText 75 = .ok (.ifCond .eq 10, 3) := by decide +kernel
theorem dX7_readsText_78 : decode cX7_readsText 78 = .ok (.aload_n 0, 1) := by decide +kernel
theorem dX7_readsText_79 : decode cX7_readsText 79 = .ok (.invokevirtual 206, 3) := by decide +kernel
theorem dX7_readsText_82 : decode cX7_readsText 82 = .ok (.goto 27, 3) := by decide +kernel
theorem dX7_readsText_85 : decode cX7_readsText 85 = .ok (.aload_n 0, 1) := by decide +kernel
theorem dX7_readsText_86 : decode cX7_readsText 86 = .ok (.ldc 209, 2) := by decide +kernel
theorem dX7_readsText_88 : decode cX7_readsText 88 = .ok (.invokevirtual 192, 3) := by decide +kernel
theorem dX7_readsText_91 : decode cX7_readsText 91 = .ok (.ifCond .eq 11, 3) := by decide +kernel
theorem dX7_readsText_94 : decode cX7_readsText 94 = .ok (.aload_n 0, 1) := by decide +kernel
theorem dX7_readsText_95 : decode cX7_readsText 95 = .ok (.iload_n 1, 1) := by decide +kernel
theorem dX7_readsText_96 : decode cX7_readsText 96 = .ok (.invokevirtual 211, 3) := by decide +kernel
theorem dX7_readsText_99 : decode cX7_readsText 99 = .ok (.goto 10, 3) := by decide +kernel
theorem dX7_readsText_102 : decode cX7_readsText 102 = .ok (.aload_n 0, 1) := by decide +kernel
theorem dX7_readsText_103 : decode cX7_readsText 103 = .ok (.bipush (-2), 2) := by decide +kernel
theorem dX7_readsText_105 : decode cX7_readsText 105 = .ok (.iload_n 1, 1) := by decide +kernel
theorem dX7_readsText_106 : decode cX7_readsText 106 = .ok (.invokevirtual 166, 3) := by decide +kernel
theorem dX7_readsText_109 : decode cX7_readsText 109 = .ok (.istore_n 2, 1) := by decide +kernel
theorem dX7_readsText_110 : decode cX7_readsText 110 = .ok (.iload_n 2, 1) := by decide +kernel
theorem dX7_readsText_111 : decode cX7_readsText 111 = .ok (.ifCond .eq 12, 3) := by decide +kernel
theorem dX7_readsText_114 : decode cX7_readsText 114 = .ok (.aload_n 0, 1) := by decide +kernel
theorem dX7_readsText_115 : decode cX7_readsText 115 = .ok (.bipush 59, 2) := by decide +kernel
theorem dX7_readsText_117 : decode cX7_readsText 117 = .ok (.invokevirtual 196, 3) := by decide +kernel
theorem dX7_readsText_120 : decode cX7_readsText 120 = .ok (.ifCond .ne 5, 3) := by decide +kernel
theorem dX7_readsText_123 : decode cX7_readsText 123 = .ok (.iconst 0, 1) := by decide +kernel
theorem dX7_readsText_124 : decode cX7_readsText 124 = .ok (.ireturn, 1) := by decide +kernel
theorem dX7_readsText_125 : decode cX7_readsText 125 = .ok (.goto (-85), 3) := by decide +kernel
theorem dX7_readsText_128 : decode cX7_readsText 128 = .ok (.iconst 1, 1) := by decide +kernel
theorem dX7_readsText_129 : decode cX7_readsText 129 = .ok (.ireturn, 1) := by decide +kernel
theorem dX7_load_0 : decode cX7_load 0 = .ok (.aload_n 0, 1) := by decide +kernel
theorem dX7_load_1 : decode cX7_load 1 = .ok (.iconst 0, 1) := by decide +kernel
theorem dX7_load_2 : decode cX7_load 2 = .ok (.putfield 44, 3) := by decide +kernel
theorem dX7_load_5 : decode cX7_load 5 = .ok (.aload_n 0, 1) := by decide +kernel
theorem dX7_load_6 : decode cX7_load 6 = .ok (.iload_n 1, 1) := by decide +kernel
theorem dX7_load_7 : decode cX7_load 7 = .ok (.iconst 0, 1) := by decide +kernel
theorem dX7_load_8 : decode cX7_load 8 = .ok (.aload_n 0, 1) := by decide +kernel
theorem dX7_load_9 : decode cX7_load 9 = .ok (.getfield 137, 3) := by decide +kernel
theorem dX7_load_12 : decode cX7_load 12 = .ok (.invokestatic 69, 3) := by decide +kernel
theorem dX7_load_15 : decode cX7_load 15 = .ok (.iconst 1, 1) := by decide +kernel
theorem dX7_load_16 : decode cX7_load 16 = .ok (.invokevirtual 214, 3) := by decide +kernel
theorem dX7_load_19 : decode cX7_load 19 = .ok (.ifCond .ne 5, 3) := by decide +kernel
theorem dX7_load_22 : decode cX7_load 22 = .ok (.iconst 0, 1) := by decide +kernel
theorem dX7_load_23 : decode cX7_load 23 = .ok (.ireturn, 1) := by decide +kernel
theorem dX7_load_24 : decode cX7_load 24 = .ok (.aload_n 0, 1) := by decide +kernel
theorem dX7_load_25 : decode cX7_load 25 = .ok (.iload_n 1, 1) := by decide +kernel
theorem dX7_load_26 : decode cX7_load 26 = .ok (.putfield 149, 3) := by decide +kernel
theorem dX7_load_29 : decode cX7_load 29 = .ok (.aload_n 0, 1) := by decide +kernel
theorem dX7_load_30 : decode cX7_load 30 = .ok (.iconst 0, 1) := by decide +kernel
theorem dX7_load_31 : decode cX7_load 31 = .ok (.putfield 146, 3) := by decide +kernel
theorem dX7_load_34 : decode cX7_load 34 = .ok (.aload_n 0, 1) := by decide +kernel
theorem dX7_load_35 : decode cX7_load 35 = .ok (.iconst 0, 1) := by decide +kernel
theorem dX7_load_36 : decode cX7_load 36 = .ok (.putfield 137, 3) := by decide +kernel
theorem dX7_load_39 : decode cX7_load 39 = .ok (.aload_n 0, 1) := by decide +kernel
theorem dX7_load_40 : decode cX7_load 40 = .ok (.iconst 0, 1) := by decide +kernel
theorem dX7_load_41 : decode cX7_load 41 = .ok (.putfield 143, 3) := by decide +kernel
theorem dX7_load_44 : decode cX7_load 44 = .ok (.aload_n 0, 1) := by decide +kernel
theorem dX7_load_45 : decode cX7_load 45 = .ok (.iconst (-1), 1) := by decide +kernel
theorem dX7_load_46 : decode cX7_load 46 = .ok (.putfield 37, 3) := by decide +kernel
theorem dX7_load_49 : decode cX7_load 49 = .ok (.iconst 0, 1) := by decide +kernel
theorem dX7_load_50 : decode cX7_load 50 = .ok (.istore_n 2, 1) := by decide +kernel
theorem dX7_load_51 : decode cX7_load 51 = .ok (.iload_n 2, 1) := by decide +kernel
theorem dX7_load_52 : decode cX7_load 52 = .ok (.sipush 330, 3) := by decide +kernel
theorem dX7_load_55 : decode cX7_load 55 = .ok (.if_icmp .ge 20, 3) := by decide +kernel
theorem dX7_load_58 : decode cX7_load 58 = .ok (.aload_n 0, 1) := by decide +kernel
theorem dX7_load_59 : decode cX7_load 59 = .ok (.getfield 13, 3) := by decide +kernel
theorem dX7_load_62 : decode cX7_load 62 = .ok (.iload_n 2, 1) := by decide +kernel
theorem dX7_load_63 : decode cX7_load 63 = .ok (.aload_n 0, 1) := by decide +kernel
theorem dX7_load_64 : decode cX7_load 64 = .ok (.iload_n 2, 1) := by decide +kernel
theorem dX7_load_65 : decode cX7_load 65 = .ok (.invokevirtual 50, 3) := by decide +kernel
theorem dX7_load_68 : decode cX7_load 68 = .ok (.iastore, 1) := by decide +kernel
theorem dX7_load_69 : decode cX7_load 69 = .ok (.iinc 2 1, 3) := by decide +kernel
theorem dX7_load_72 : decode cX7_load 72 = .ok (.goto (-21), 3) := by decide +kernel
theorem dX7_load_75 : decode cX7_load 75 = .ok (.aload_n 0, 1) := by decide +kernel
theorem dX7_load_76 : decode cX7_load 76 = .ok (.invokevirtual 218, 3) := by decide +kernel
theorem dX7_load_79 : decode cX7_load 79 = .ok (.istore_n 2, 1) := by decide +kernel
theorem dX7_load_80 : decode cX7_load 80 = .ok (.aload_n 0, 1) := by decide +kernel
theorem dX7_load_81 : decode cX7_load 81 = .ok (.getfield 47, 3) := by decide +kernel
theorem dX7_load_84 : decode cX7_load 84 = .ok (.iconst 1, 1) := by decide +kernel
theorem dX7_load_85 : decode cX7_load 85 = .ok (.iadd, 1) := by decide +kernel
theorem dX7_load_86 : decode cX7_load 86 = .ok (.bipush 9, 2) := by decide +kernel
theorem dX7_load_88 : decode cX7_load 88 = .ok (.irem, 1) := by decide +kernel
theorem dX7_load_89 : decode cX7_load 89 = .ok (.istore_n 3, 1) := by decide +kernel
theorem dX7_load_90 : decode cX7_load 90 = .ok (.iconst 0, 1) := by decide +kernel
theorem dX7_load_91 : decode cX7_load 91 = .ok (.istore 4, 2) := by decide +kernel
theorem dX7_load_93 : decode cX7_load 93 = .ok (.iload 4, 2) := by decide +kernel
theorem dX7_load_95 : decode cX7_load 95 = .ok (.sipush 330, 3) := by decide +kernel
theorem dX7_load_98 : decode cX7_load 98 = .ok (.if_icmp .ge 45, 3) := by decide +kernel
theorem dX7_load_101 : decode cX7_load 101 = .ok (.iload_n 2, 1) := by decide +kernel
theorem dX7_load_102 : decode cX7_load 102 = .ok (.ifCond .eq 22, 3) := by decide +kernel
