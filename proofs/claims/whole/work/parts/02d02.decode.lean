theorem dX3_pass_1 : decode cX3_pass 1 = .ok (.getfield 35, 3) := by decide +kernel
theorem dX3_pass_4 : decode cX3_pass 4 = .ok (.iload_n 1, 1) := by decide +kernel
theorem dX3_pass_5 : decode cX3_pass 5 = .ok (.if_icmp .eq 10, 3) := by decide +kernel
theorem dX3_pass_8 : decode cX3_pass 8 = .ok (.aload_n 0, 1) := by decide +kernel
theorem dX3_pass_9 : decode cX3_pass 9 = .ok (.bipush (-2), 2) := by decide +kernel
theorem dX3_pass_11 : decode cX3_pass 11 = .ok (.invokevirtual 68, 3) := by decide +kernel
theorem dX3_pass_14 : decode cX3_pass 14 = .ok (.ireturn, 1) := by decide +kernel
theorem dX3_pass_15 : decode cX3_pass 15 = .ok (.aload_n 0, 1) := by decide +kernel
theorem dX3_pass_16 : decode cX3_pass 16 = .ok (.invokevirtual 51, 3) := by decide +kernel
theorem dX3_pass_19 : decode cX3_pass 19 = .ok (.iconst 1, 1) := by decide +kernel
theorem dX3_pass_20 : decode cX3_pass 20 = .ok (.ireturn, 1) := by decide +kernel
theorem dX3_seeNumber_0 : decode cX3_seeNumber 0 = .ok (.aload_n 0, 1) := by decide +kernel
theorem dX3_seeNumber_1 : decode cX3_seeNumber 1 = .ok (.getfield 35, 3) := by decide +kernel
theorem dX3_seeNumber_4 : decode cX3_seeNumber 4 = .ok (.iconst 2, 1) := by decide +kernel
theorem dX3_seeNumber_5 : decode cX3_seeNumber 5 = .ok (.if_icmp .eq 10, 3) := by decide +kernel
theorem dX3_seeNumber_8 : decode cX3_seeNumber 8 = .ok (.aload_n 0, 1) := by decide +kernel
theorem dX3_seeNumber_9 : decode cX3_seeNumber 9 = .ok (.bipush (-2), 2) := by decide +kernel
theorem dX3_seeNumber_11 : decode cX3_seeNumber 11 = .ok (.invokevirtual 68, 3) := by decide +kernel
theorem dX3_seeNumber_14 : decode cX3_seeNumber 14 = .ok (.ireturn, 1) := by decide +kernel
theorem dX3_seeNumber_15 : decode cX3_seeNumber 15 = .ok (.aload_n 0, 1) := by decide +kernel
theorem dX3_seeNumber_16 : decode cX3_seeNumber 16 = .ok (.getfield 38, 3) := by decide +kernel
theorem dX3_seeNumber_19 : decode cX3_seeNumber 19 = .ok (.iload_n 1, 1) := by decide +kernel
theorem dX3_seeNumber_20 : decode cX3_seeNumber 20 = .ok (.if_icmp .lt 11, 3) := by decide +kernel
theorem dX3_seeNumber_23 : decode cX3_seeNumber 23 = .ok (.aload_n 0, 1) := by decide +kernel
theorem dX3_seeNumber_24 : decode cX3_seeNumber 24 = .ok (.getfield 38, 3) := by decide +kernel
theorem dX3_seeNumber_27 : decode cX3_seeNumber 27 = .ok (.iload_n 2, 1) := by decide +kernel
theorem dX3_seeNumber_28 : decode cX3_seeNumber 28 = .ok (.if_icmp .le 12, 3) := by decide +kernel
theorem dX3_seeNumber_31 : decode cX3_seeNumber 31 = .ok (.aload_n 0, 1) := by decide +kernel
theorem dX3_seeNumber_32 : decode cX3_seeNumber 32 = .ok (.bipush (-3), 2) := by decide +kernel
theorem dX3_seeNumber_34 : decode cX3_seeNumber 34 = .ok (.invokevirtual 68, 3) := by decide +kernel
theorem dX3_seeNumber_37 : decode cX3_seeNumber 37 = .ok (.ifCond .eq 7, 3) := by decide +kernel
theorem dX3_seeNumber_40 : decode cX3_seeNumber 40 = .ok (.iconst 1, 1) := by decide +kernel
theorem dX3_seeNumber_41 : decode cX3_seeNumber 41 = .ok (.goto 4, 3) := by decide +kernel
theorem dX3_seeNumber_44 : decode cX3_seeNumber 44 = .ok (.iconst 0, 1) := by decide +kernel
theorem dX3_seeNumber_45 : decode cX3_seeNumber 45 = .ok (.ireturn, 1) := by decide +kernel
theorem dX3_fail_0 : decode cX3_fail 0 = .ok (.aload_n 0, 1) := by decide +kernel
theorem dX3_fail_1 : decode cX3_fail 1 = .ok (.iload_n 1, 1) := by decide +kernel
theorem dX3_fail_2 : decode cX3_fail 2 = .ok (.putfield 26, 3) := by decide +kernel
theorem dX3_fail_5 : decode cX3_fail 5 = .ok (.aload_n 0, 1) := by decide +kernel
theorem dX3_fail_6 : decode cX3_fail 6 = .ok (.aload_n 0, 1) := by decide +kernel
theorem dX3_fail_7 : decode cX3_fail 7 = .ok (.getfield 32, 3) := by decide +kernel
theorem dX3_fail_10 : decode cX3_fail 10 = .ok (.putfield 9, 3) := by decide +kernel
theorem dX3_fail_13 : decode cX3_fail 13 = .ok (.iconst 0, 1) := by decide +kernel
theorem dX3_fail_14 : decode cX3_fail 14 = .ok (.ireturn, 1) := by decide +kernel
theorem dX3_readToken_0 : decode cX3_readToken 0 = .ok (.aload_n 0, 1) := by decide +kernel
theorem dX3_readToken_1 : decode cX3_readToken 1 = .ok (.getfield 29, 3) := by decide +kernel
theorem dX3_readToken_4 : decode cX3_readToken 4 = .ok (.aload_n 0, 1) := by decide +kernel
theorem dX3_readToken_5 : decode cX3_readToken 5 = .ok (.getfield 19, 3) := by decide +kernel
theorem dX3_readToken_8 : decode cX3_readToken 8 = .ok (.if_icmp .ge 30, 3) := by decide +kernel
theorem dX3_readToken_11 : decode cX3_readToken 11 = .ok (.aload_n 0, 1) := by decide +kernel
theorem dX3_readToken_12 : decode cX3_readToken 12 = .ok (.getfield 15, 3) := by decide +kernel
theorem dX3_readToken_15 : decode cX3_readToken 15 = .ok (.aload_n 0, 1) := by decide +kernel
theorem dX3_readToken_16 : decode cX3_readToken 16 = .ok (.getfield 29, 3) := by decide +kernel
theorem dX3_readToken_19 : decode cX3_readToken 19 = .ok (.baload, 1) := by decide +kernel
theorem dX3_readToken_20 : decode cX3_readToken 20 = .ok (.bipush 32, 2) := by decide +kernel
theorem dX3_readToken_22 : decode cX3_readToken 22 = .ok (.if_icmp .ne 16, 3) := by decide +kernel
theorem dX3_readToken_25 : decode cX3_readToken 25 = .ok (.aload_n 0, 1) := by decide +kernel
theorem dX3_readToken_26 : decode cX3_readToken 26 = .ok (.dup, 1) := by decide +kernel
theorem dX3_readToken_27 : decode cX3_readToken 27 = .ok (.getfield 29, 3) := by decide +kernel
theorem dX3_readToken_30 : decode cX3_readToken 30 = .ok (.iconst 1, 1) := by decide +kernel
theorem dX3_readToken_31 : decode cX3_readToken 31 = .ok (.iadd, 1) := by decide +kernel
theorem dX3_readToken_32 : decode cX3_readToken 32 = .ok (.putfield 29, 3) := by decide +kernel
theorem dX3_readToken_35 : decode cX3_readToken 35 = .ok (.goto (-35), 3) := by decide +kernel
theorem dX3_readToken_38 : decode cX3_readToken 38 = .ok (.aload_n 0, 1) := by decide +kernel
theorem dX3_readToken_39 : decode cX3_readToken 39 = .ok (.aload_n 0, 1) := by decide +kernel
theorem dX3_readToken_40 : decode cX3_readToken 40 = .ok (.getfield 29, 3) := by decide +kernel
theorem dX3_readToken_43 : decode cX3_readToken 43 = .ok (.putfield 32, 3) := by decide +kernel
theorem dX3_readToken_46 : decode cX3_readToken 46 = .ok (.aload_n 0, 1) := by decide +kernel
theorem dX3_readToken_47 : decode cX3_readToken 47 = .ok (.getfield 29, 3) := by decide +kernel
theorem dX3_readToken_50 : decode cX3_readToken 50 = .ok (.aload_n 0, 1) := by decide +kernel
theorem dX3_readToken_51 : decode cX3_readToken 51 = .ok (.getfield 19, 3) := by decide +kernel
theorem dX3_readToken_54 : decode cX3_readToken 54 = .ok (.if_icmp .lt 11, 3) := by decide +kernel
theorem dX3_readToken_57 : decode cX3_readToken 57 = .ok (.aload_n 0, 1) := by decide +kernel
theorem dX3_readToken_58 : decode cX3_readToken 58 = .ok (.iconst 0, 1) := by decide +kernel
theorem dX3_readToken_59 : decode cX3_readToken 59 = .ok (.putfield 35, 3) := by decide +kernel
theorem dX3_readToken_62 : decode cX3_readToken 62 = .ok (.goto 80, 3) := by decide +kernel
theorem dX3_readToken_65 : decode cX3_readToken 65 = .ok (.aload_n 0, 1) := by decide +kernel
theorem dX3_readToken_66 : decode cX3_readToken 66 = .ok (.getfield 15, 3) := by decide +kernel
theorem dX3_readToken_69 : decode cX3_readToken 69 = .ok (.aload_n 0, 1) := by decide +kernel
theorem dX3_readToken_70 : decode cX3_readToken 70 = .ok (.getfield 29, 3) := by decide +kernel
theorem dX3_readToken_73 : decode cX3_readToken 73 = .ok (.baload, 1) := by decide +kernel
theorem dX3_readToken_74 : decode cX3_readToken 74 = .ok (.invokestatic 99, 3) := by decide +kernel
theorem dX3_readToken_77 : decode cX3_readToken 77 = .ok (.ifCond .eq 10, 3) := by decide +kernel
theorem dX3_readToken_80 : decode cX3_readToken 80 = .ok (.aload_n 0, 1) := by decide +kernel
theorem dX3_readToken_81 : decode cX3_readToken 81 = .ok (.invokevirtual 103, 3) := by decide +kernel
theorem dX3_readToken_84 : decode cX3_readToken 84 = .ok (.goto 58, 3) := by decide +kernel
theorem dX3_readToken_87 : decode cX3_readToken 87 = .ok (.aload_n 0, 1) := by decide +kernel
theorem dX3_readToken_88 : decode cX3_readToken 88 = .ok (.getfield 15, 3) := by decide +kernel
theorem dX3_readToken_91 : decode cX3_readToken 91 = .ok (.aload_n 0, 1) := by decide +kernel
theorem dX3_readToken_92 : decode cX3_readToken 92 = .ok (.getfield 29, 3) := by decide +kernel
theorem dX3_readToken_95 : decode cX3_readToken 95 = .ok (.baload, 1) := by decide +kernel
theorem dX3_readToken_96 : decode cX3_readToken 96 = .ok (.invokestatic 106, 3) := by decide +kernel
theorem dX3_readToken_99 : decode cX3_readToken 99 = .ok (.ifCond .eq 10, 3) := by decide +kernel
theorem dX3_readToken_102 : decode cX3_readToken 102 = .ok (.aload_n 0, 1) := by decide +kernel
theorem dX3_readToken_103 : decode cX3_readToken 103 = .ok (.invokevirtual 109, 3) := by decide +kernel
theorem dX3_readToken_106 : decode cX3_readToken 106 = .ok (.goto 36, 3) := by decide +kernel
theorem dX3_readToken_109 : decode cX3_readToken 109 = .ok (.aload_n 0, 1) := by decide +kernel
theorem dX3_readToken_110 : decode cX3_readToken 110 = .ok (.aload_n 0, 1) := by decide +kernel
theorem dX3_readToken_111 : decode cX3_readToken 111 = .ok (.getfield 15, 3) := by decide +kernel
theorem dX3_readToken_114 : decode cX3_readToken 114 = .ok (.aload_n 0, 1) := by decide +kernel
theorem dX3_readToken_115 : decode cX3_readToken 115 = .ok (.getfield 29, 3) := by decide +kernel
theorem dX3_readToken_118 : decode cX3_readToken 118 = .ok (.baload, 1) := by decide +kernel
theorem dX3_readToken_119 : decode cX3_readToken 119 = .ok (.bipush 59, 2) := by decide +kernel
theorem dX3_readToken_121 : decode cX3_readToken 121 = .ok (.if_icmp .ne 7, 3) := by decide +kernel
theorem dX3_readToken_124 : decode cX3_readToken 124 = .ok (.iconst 3, 1) := by decide +kernel
theorem dX3_readToken_125 : decode cX3_readToken 125 = .ok (.goto 4, 3) := by decide +kernel
theorem dX3_readToken_128 : decode cX3_readToken 128 = .ok (.iconst 1, 1) := by decide +kernel
theorem dX3_readToken_129 : decode cX3_readToken 129 = .ok (.putfield 35, 3) := by decide +kernel
theorem dX3_readToken_132 : decode cX3_readToken 132 = .ok (.aload_n 0, 1) := by decide +kernel
theorem dX3_readToken_133 : decode cX3_readToken 133 = .ok (.dup, 1) := by decide +kernel
theorem dX3_readToken_134 : decode cX3_readToken 134 = .ok (.getfield 29, 3) := by decide +kernel
theorem dX3_readToken_137 : decode cX3_readToken 137 = .ok (.iconst 1, 1) := by decide +kernel
theorem dX3_readToken_138 : decode cX3_readToken 138 = .ok (.iadd, 1) := by decide +kernel
theorem dX3_readToken_139 : decode cX3_readToken 139 = .ok (.putfield 29, 3) := by decide +kernel
theorem dX3_readToken_142 : decode cX3_readToken 142 = .ok (.return_, 1) := by decide +kernel
theorem dX3_readNumber_0 : decode cX3_readNumber 0 = .ok (.aload_n 0, 1) := by decide +kernel
theorem dX3_readNumber_1 : decode cX3_readNumber 1 = .ok (.iconst 2, 1) := by decide +kernel
theorem dX3_readNumber_2 : decode cX3_readNumber 2 = .ok (.putfield 35, 3) := by decide +kernel
theorem dX3_readNumber_5 : decode cX3_readNumber 5 = .ok (.aload_n 0, 1) := by decide +kernel
theorem dX3_readNumber_6 : decode cX3_readNumber 6 = .ok (.iconst 0, 1) := by decide +kernel
theorem dX3_readNumber_7 : decode cX3_readNumber 7 = .ok (.putfield 38, 3) := by decide +kernel
theorem dX3_readNumber_10 : decode cX3_readNumber 10 = .ok (.aload_n 0, 1) := by decide +kernel
theorem dX3_readNumber_11 : decode cX3_readNumber 11 = .ok (.getfield 29, 3) := by decide +kernel
theorem dX3_readNumber_14 : decode cX3_readNumber 14 = .ok (.aload_n 0, 1) := by decide +kernel
theorem dX3_readNumber_15 : decode cX3_readNumber 15 = .ok (.getfield 19, 3) := by decide +kernel
theorem dX3_readNumber_18 : decode cX3_readNumber 18 = .ok (.if_icmp .ge 61, 3) := by decide +kernel
theorem dX3_readNumber_21 : decode cX3_readNumber 21 = .ok (.aload_n 0, 1) := by decide +kernel
theorem dX3_readNumber_22 : decode cX3_readNumber 22 = .ok (.getfield 15, 3) := by decide +kernel
theorem dX3_readNumber_25 : decode cX3_readNumber 25 = .ok (.aload_n 0, 1) := by decide +kernel
theorem dX3_readNumber_26 : decode cX3_readNumber 26 = .ok (.getfield 29, 3) := by decide +kernel
theorem dX3_readNumber_29 : decode cX3_readNumber 29 = .ok (.baload, 1) := by decide +kernel
theorem dX3_readNumber_30 : decode cX3_readNumber 30 = .ok (.invokestatic 99, 3) := by decide +kernel
theorem dX3_readNumber_33 : decode cX3_readNumber 33 = .ok (.ifCond .eq 46, 3) := by decide +kernel
theorem dX3_readNumber_36 : decode cX3_readNumber 36 = .ok (.aload_n 0, 1) := by decide +kernel
theorem dX3_readNumber_37 : decode cX3_readNumber 37 = .ok (.sipush 1000, 3) := by decide +kernel
theorem dX3_readNumber_40 : decode cX3_readNumber 40 = .ok (.bipush 10, 2) := by decide +kernel
theorem dX3_readNumber_42 : decode cX3_readNumber 42 = .ok (.aload_n 0, 1) := by decide +kernel
theorem dX3_readNumber_43 : decode cX3_readNumber 43 = .ok (.getfield 38, 3) := by decide +kernel
theorem dX3_readNumber_46 : decode cX3_readNumber 46 = .ok (.imul, 1) := by decide +kernel
theorem dX3_readNumber_47 : decode cX3_readNumber 47 = .ok (.aload_n 0, 1) := by decide +kernel
theorem dX3_readNumber_48 : decode cX3_readNumber 48 = .ok (.getfield 15, 3) := by decide +kernel
theorem dX3_readNumber_51 : decode cX3_readNumber 51 = .ok (.aload_n 0, 1) := by decide +kernel
theorem dX3_readNumber_52 : decode cX3_readNumber 52 = .ok (.getfield 29, 3) := by decide +kernel
theorem dX3_readNumber_55 : decode cX3_readNumber 55 = .ok (.baload, 1) := by decide +kernel
theorem dX3_readNumber_56 : decode cX3_readNumber 56 = .ok (.iadd, 1) := by decide +kernel
theorem dX3_readNumber_57 : decode cX3_readNumber 57 = .ok (.bipush 48, 2) := by decide +kernel
theorem dX3_readNumber_59 : decode cX3_readNumber 59 = .ok (.isub, 1) := by decide +kernel
theorem dX3_readNumber_60 : decode cX3_readNumber 60 = .ok (.invokestatic 45, 3) := by decide +kernel
theorem dX3_readNumber_63 : decode cX3_readNumber 63 = .ok (.putfield 38, 3) := by decide +kernel
theorem dX3_readNumber_66 : decode cX3_readNumber 66 = .ok (.aload_n 0, 1) := by decide +kernel
theorem dX3_readNumber_67 : decode cX3_readNumber 67 = .ok (.dup, 1) := by decide +kernel
theorem dX3_readNumber_68 : decode cX3_readNumber 68 = .ok (.getfield 29, 3) := by decide +kernel
theorem dX3_readNumber_71 : decode cX3_readNumber 71 = .ok (.iconst 1, 1) := by decide +kernel
theorem dX3_readNumber_72 : decode cX3_readNumber 72 = .ok (.iadd, 1) := by decide +kernel
theorem dX3_readNumber_73 : decode cX3_readNumber 73 = .ok (.putfield 29, 3) := by decide +kernel
theorem dX3_readNumber_76 : decode cX3_readNumber 76 = .ok (.goto (-66), 3) := by decide +kernel
theorem dX3_readNumber_79 : decode cX3_readNumber 79 = .ok (.return_, 1) := by decide +kernel
theorem dX3_readWord_0 : decode cX3_readWord 0 = .ok (.aload_n 0, 1) := by decide +kernel
theorem dX3_readWord_1 : decode cX3_readWord 1 = .ok (.getfield 29, 3) := by decide +kernel
theorem dX3_readWord_4 : decode cX3_readWord 4 = .ok (.aload_n 0, 1) := by decide +kernel
theorem dX3_readWord_5 : decode cX3_readWord 5 = .ok (.getfield 19, 3) := by decide +kernel
theorem dX3_readWord_8 : decode cX3_readWord 8 = .ok (.if_icmp .ge 31, 3) := by decide +kernel
theorem dX3_readWord_11 : decode cX3_readWord 11 = .ok (.aload_n 0, 1) := by decide +kernel
theorem dX3_readWord_12 : decode cX3_readWord 12 = .ok (.getfield 15, 3) := by decide +kernel
theorem dX3_readWord_15 : decode cX3_readWord 15 = .ok (.aload_n 0, 1) := by decide +kernel
theorem dX3_readWord_16 : decode cX3_readWord 16 = .ok (.getfield 29, 3) := by decide +kernel
theorem dX3_readWord_19 : decode cX3_readWord 19 = .ok (.baload, 1) := by decide +kernel
theorem dX3_readWord_20 : decode cX3_readWord 20 = .ok (.invokestatic 106, 3) := by decide +kernel
theorem dX3_readWord_23 : decode cX3_readWord 23 = .ok (.ifCond .eq 16, 3) := by decide +kernel
theorem dX3_readWord_26 : decode cX3_readWord 26 = .ok (.aload_n 0, 1) := by decide +kernel
theorem dX3_readWord_27 : decode cX3_readWord 27 = .ok (.dup, 1) := by decide +kernel
theorem dX3_readWord_28 : decode cX3_readWord 28 = .ok (.getfield 29, 3) := by decide +kernel
theorem dX3_readWord_31 : decode cX3_readWord 31 = .ok (.iconst 1, 1) := by decide +kernel
theorem dX3_readWord_32 : decode cX3_readWord 32 = .ok (.iadd, 1) := by decide +kernel
theorem dX3_readWord_33 : decode cX3_readWord 33 = .ok (.putfield 29, 3) := by decide +kernel
theorem dX3_readWord_36 : decode cX3_readWord 36 = .ok (.goto (-36), 3) := by decide +kernel
theorem dX3_readWord_39 : decode cX3_readWord 39 = .ok (.aload_n 0, 1) := by decide +kernel
theorem dX3_readWord_40 : decode cX3_readWord 40 = .ok (.ldc 112, 2) := by decide +kernel
theorem dX3_readWord_42 : decode cX3_readWord 42 = .ok (.invokevirtual 114, 3) := by decide +kernel
theorem dX3_readWord_45 : decode cX3_readWord 45 = .ok (.ifCond .eq 11, 3) := by decide +kernel
theorem dX3_readWord_48 : decode cX3_readWord 48 = .ok (.aload_n 0, 1) := by decide +kernel
theorem dX3_readWord_49 : decode cX3_readWord 49 = .ok (.iconst 4, 1) := by decide +kernel
theorem dX3_readWord_50 : decode cX3_readWord 50 = .ok (.putfield 35, 3) := by decide +kernel
theorem dX3_readWord_53 : decode cX3_readWord 53 = .ok (.goto 57, 3) := by decide +kernel
theorem dX3_readWord_56 : decode cX3_readWord 56 = .ok (.aload_n 0, 1) := by decide +kernel
theorem dX3_readWord_57 : decode cX3_readWord 57 = .ok (.ldc 118, 2) := by decide +kernel
theorem dX3_readWord_59 : decode cX3_readWord 59 = .ok (.invokevirtual 114, 3) := by decide +kernel
theorem dX3_readWord_62 : decode cX3_readWord 62 = .ok (.ifCond .eq 11, 3) := by decide +kernel
theorem dX3_readWord_65 : decode cX3_readWord 65 = .ok (.aload_n 0, 1) := by decide +kernel
theorem dX3_readWord_66 : decode cX3_readWord 66 = .ok (.iconst 5, 1) := by decide +kernel
theorem dX3_readWord_67 : decode cX3_readWord 67 = .ok (.putfield 35, 3) := by decide +kernel
theorem dX3_readWord_70 : decode cX3_readWord 70 = .ok (.goto 40, 3) := by decide +kernel
theorem dX3_readWord_73 : decode cX3_readWord 73 = .ok (.aload_n 0, 1) := by decide +kernel
theorem dX3_readWord_74 : decode cX3_readWord 74 = .ok (.ldc 120, 2) := by decide +kernel
theorem dX3_readWord_76 : decode cX3_readWord 76 = .ok (.invokevirtual 114, 3) := by decide +kernel
theorem dX3_readWord_79 : decode cX3_readWord 79 = .ok (.ifCond .eq 12, 3) := by decide +kernel
theorem dX3_readWord_82 : decode cX3_readWord 82 = .ok (.aload_n 0, 1) := by decide +kernel
theorem dX3_readWord_83 : decode cX3_readWord 83 = .ok (.bipush 6, 2) := by decide +kernel
theorem dX3_readWord_85 : decode cX3_readWord 85 = .ok (.putfield 35, 3) := by decide +kernel
theorem dX3_readWord_88 : decode cX3_readWord 88 = .ok (.goto 22, 3) := by decide +kernel
theorem dX3_readWord_91 : decode cX3_readWord 91 = .ok (.aload_n 0, 1) := by decide +kernel
theorem dX3_readWord_92 : decode cX3_readWord 92 = .ok (.aload_n 0, 1) := by decide +kernel
theorem dX3_readWord_93 : decode cX3_readWord 93 = .ok (.ldc 122, 2) := by decide +kernel
theorem dX3_readWord_95 : decode cX3_readWord 95 = .ok (.invokevirtual 114, 3) := by decide +kernel
theorem dX3_readWord_98 : decode cX3_readWord 98 = .ok (.ifCond .eq 8, 3) := by decide +kernel
theorem dX3_readWord_101 : decode cX3_readWord 101 = .ok (.bipush 7, 2) := by decide +kernel
theorem dX3_readWord_103 : decode cX3_readWord 103 = .ok (.goto 4, 3) := by decide +kernel
theorem dX3_readWord_106 : decode cX3_readWord 106 = .ok (.iconst 1, 1) := by decide +kernel
theorem dX3_readWord_107 : decode cX3_readWord 107 = .ok (.putfield 35, 3) := by decide +kernel
theorem dX3_readWord_110 : decode cX3_readWord 110 = .ok (.return_, 1) := by decide +kernel
theorem dX3_isWord_0 : decode cX3_isWord 0 = .ok (.aload_n 0, 1) := by decide +kernel
theorem dX3_isWord_1 : decode cX3_isWord 1 = .ok (.getfield 29, 3) := by decide +kernel
theorem dX3_isWord_4 : decode cX3_isWord 4 = .ok (.aload_n 0, 1) := by decide +kernel
theorem dX3_isWord_5 : decode cX3_isWord 5 = .ok (.getfield 32, 3) := by decide +kernel
theorem dX3_isWord_8 : decode cX3_isWord 8 = .ok (.isub, 1) := by decide +kernel
theorem dX3_isWord_9 : decode cX3_isWord 9 = .ok (.aload_n 1, 1) := by decide +kernel
theorem dX3_isWord_10 : decode cX3_isWord 10 = .ok (.invokevirtual 123, 3) := by decide +kernel
theorem dX3_isWord_13 : decode cX3_isWord 13 = .ok (.if_icmp .eq 5, 3) := by decide +kernel
theorem dX3_isWord_16 : decode cX3_isWord 16 = .ok (.iconst 0, 1) := by decide +kernel
theorem dX3_isWord_17 : decode cX3_isWord 17 = .ok (.ireturn, 1) := by decide +kernel
theorem dX3_isWord_18 : decode cX3_isWord 18 = .ok (.iconst 0, 1) := by decide +kernel
theorem dX3_isWord_19 : decode cX3_isWord 19 = .ok (.istore_n 2, 1) := by decide +kernel
theorem dX3_isWord_20 : decode cX3_isWord 20 = .ok (.iload_n 2, 1) := by decide +kernel
theorem dX3_isWord_21 : decode cX3_isWord 21 = .ok (.aload_n 1, 1) := by decide +kernel
theorem dX3_isWord_22 : decode cX3_isWord 22 = .ok (.invokevirtual 123, 3) := by decide +kernel
theorem dX3_isWord_25 : decode cX3_isWord 25 = .ok (.if_icmp .ge 30, 3) := by decide +kernel
theorem dX3_isWord_28 : decode cX3_isWord 28 = .ok (.aload_n 0, 1) := by decide +kernel
theorem dX3_isWord_29 : decode cX3_isWord 29 = .ok (.getfield 15, 3) := by decide +kernel
theorem dX3_isWord_32 : decode cX3_isWord 32 = .ok (.aload_n 0, 1) := by decide +kernel
theorem dX3_isWord_33 : decode cX3_isWord 33 = .ok (.getfield 32, 3) := by decide +kernel
theorem dX3_isWord_36 : decode cX3_isWord 36 = .ok (.iload_n 2, 1) := by decide +kernel
theorem dX3_isWord_37 : decode cX3_isWord 37 = .ok (.iadd, 1) := by decide +kernel
theorem dX3_isWord_38 : decode cX3_isWord 38 = .ok (.baload, 1) := by decide +kernel
theorem dX3_isWord_39 : decode cX3_isWord 39 = .ok (.aload_n 1, 1) := by decide +kernel
theorem dX3_isWord_40 : decode cX3_isWord 40 = .ok (.iload_n 2, 1) := by decide +kernel
theorem dX3_isWord_41 : decode cX3_isWord 41 = .ok (.invokevirtual 126, 3) := by decide +kernel
theorem dX3_isWord_44 : decode cX3_isWord 44 = .ok (.if_icmp .eq 5, 3) := by decide +kernel
theorem dX3_isWord_47 : decode cX3_isWord 47 = .ok (.iconst 0, 1) := by decide +kernel
theorem dX3_isWord_48 : decode cX3_isWord 48 = .ok (.ireturn, 1) := by decide +kernel
theorem dX3_isWord_49 : decode cX3_isWord 49 = .ok (.iinc 2 1, 3) := by decide +kernel
theorem dX3_isWord_52 : decode cX3_isWord 52 = .ok (.goto (-32), 3) := by decide +kernel
theorem dX3_isWord_55 : decode cX3_isWord 55 = .ok (.iconst 1, 1) := by decide +kernel
theorem dX3_isWord_56 : decode cX3_isWord 56 = .ok (.ireturn, 1) := by decide +kernel
theorem dX3_isDigit_0 : decode cX3_isDigit 0 = .ok (.iload_n 0, 1) := by decide +kernel
theorem dX3_isDigit_1 : decode cX3_isDigit 1 = .ok (.bipush 48, 2) := by decide +kernel
theorem dX3_isDigit_3 : decode cX3_isDigit 3 = .ok (.if_icmp .lt 13, 3) := by decide +kernel
theorem dX3_isDigit_6 : decode cX3_isDigit 6 = .ok (.iload_n 0, 1) := by decide +kernel
theorem dX3_isDigit_7 : decode cX3_isDigit 7 = .ok (.bipush 57, 2) := by decide +kernel
theorem dX3_isDigit_9 : decode cX3_isDigit 9 = .ok (.if_icmp .gt 7, 3) := by decide +kernel
theorem dX3_isDigit_12 : decode cX3_isDigit 12 = .ok (.iconst 1, 1) := by decide +kernel
theorem dX3_isDigit_13 : decode cX3_isDigit 13 = .ok (.goto 4, 3) := by decide +kernel
theorem dX3_isDigit_16 : decode cX3_isDigit 16 = .ok (.iconst 0, 1) := by decide +kernel
theorem dX3_isDigit_17 : decode cX3_isDigit 17 = .ok (.ireturn, 1) := by decide +kernel
theorem dX3_isLetter_0 : decode cX3_isLetter 0 = .ok (.iload_n 0, 1) := by decide +kernel
theorem dX3_isLetter_1 : decode cX3_isLetter 1 = .ok (.bipush 97, 2) := by decide +kernel
theorem dX3_isLetter_3 : decode cX3_isLetter 3 = .ok (.if_icmp .lt 13, 3) := by decide +kernel
theorem dX3_isLetter_6 : decode cX3_isLetter 6 = .ok (.iload_n 0, 1) := by decide +kernel
theorem dX3_isLetter_7 : decode cX3_isLetter 7 = .ok (.bipush 122, 2) := by decide +kernel
theorem dX3_isLetter_9 : decode cX3_isLetter 9 = .ok (.if_icmp .gt 7, 3) := by decide +kernel
theorem dX3_isLetter_12 : decode cX3_isLetter 12 = .ok (.iconst 1, 1) := by decide +kernel
theorem dX3_isLetter_13 : decode cX3_isLetter 13 = .ok (.goto 4, 3) := by decide +kernel
theorem dX3_isLetter_16 : decode cX3_isLetter 16 = .ok (.iconst 0, 1) := by decide +kernel
theorem dX3_isLetter_17 : decode cX3_isLetter 17 = .ok (.ireturn, 1) := by decide +kernel
theorem dX4_init_0 : decode cX4_init 0 = .ok (.aload_n 0, 1) := by decide +kernel
theorem dX4_init_1 : decode cX4_init 1 = .ok (.invokespecial 3, 3) := by decide +kernel
theorem dX4_init_4 : decode cX4_init 4 = .ok (.aload_n 0, 1) := by decide +kernel
theorem dX4_init_5 : decode cX4_init 5 = .ok (.iconst 0, 1) := by decide +kernel
theorem dX4_init_6 : decode cX4_init 6 = .ok (.putfield 9, 3) := by decide +kernel
theorem dX4_init_9 : decode cX4_init 9 = .ok (.aload_n 0, 1) := by decide +kernel
theorem dX4_init_10 : decode cX4_init 10 = .ok (.iconst 0, 1) := by decide +kernel
theorem dX4_init_11 : decode cX4_init 11 = .ok (.putfield 15, 3) := by decide +kernel
theorem dX4_init_14 : decode cX4_init 14 = .ok (.aload_n 0, 1) := by decide +kernel
theorem dX4_init_15 : decode cX4_init 15 = .ok (.aconst_null, 1) := by decide +kernel
theorem dX4_init_16 : decode cX4_init 16 = .ok (.putfield 18, 3) := by decide +kernel
theorem dX4_init_19 : decode cX4_init 19 = .ok (.aload_n 0, 1) := by decide +kernel
theorem dX4_init_20 : decode cX4_init 20 = .ok (.aconst_null, 1) := by decide +kernel
theorem dX4_init_21 : decode cX4_init 21 = .ok (.putfield 22, 3) := by decide +kernel
theorem dX4_init_24 : decode cX4_init 24 = .ok (.aload_n 0, 1) := by decide +kernel
theorem dX4_init_25 : decode cX4_init 25 = .ok (.aconst_null, 1) := by decide +kernel
theorem dX4_init_26 : decode cX4_init 26 = .ok (.putfield 25, 3) := by decide +kernel
theorem dX4_init_29 : decode cX4_init 29 = .ok (.aload_n 0, 1) := by decide +kernel
theorem dX4_init_30 : decode cX4_init 30 = .ok (.aconst_null, 1) := by decide +kernel
theorem dX4_init_31 : decode cX4_init 31 = .ok (.putfield 28, 3) := by decide +kernel
theorem dX4_init_34 : decode cX4_init 34 = .ok (.return_, 1) := by decide +kernel
theorem dX4_copyFrom_0 : decode cX4_copyFrom 0 = .ok (.aload_n 0, 1) := by decide +kernel
theorem dX4_copyFrom_1 : decode cX4_copyFrom 1 = .ok (.aload_n 1, 1) := by decide +kernel
theorem dX4_copyFrom_2 : decode cX4_copyFrom 2 = .ok (.getfield 9, 3) := by decide +kernel
theorem dX4_copyFrom_5 : decode cX4_copyFrom 5 = .ok (.putfield 9, 3) := by decide +kernel
theorem dX4_copyFrom_8 : decode cX4_copyFrom 8 = .ok (.aload_n 0, 1) := by decide +kernel
theorem dX4_copyFrom_9 : decode cX4_copyFrom 9 = .ok (.aload_n 1, 1) := by decide +kernel
theorem dX4_copyFrom_10 : decode cX4_copyFrom 10 = .ok (.getfield 15, 3) := by decide +kernel
theorem dX4_copyFrom_13 : decode cX4_copyFrom 13 = .ok (.putfield 15, 3) := by decide +kernel
theorem dX4_copyFrom_16 : decode cX4_copyFrom 16 = .ok (.aload_n 0, 1) := by decide +kernel
theorem dX4_copyFrom_17 : decode cX4_copyFrom 17 = .ok (.aload_n 1, 1) := by decide +kernel
theorem dX4_copyFrom_18 : decode cX4_copyFrom 18 = .ok (.getfield 18, 3) := by decide +kernel
theorem dX4_copyFrom_21 : decode cX4_copyFrom 21 = .ok (.putfield 18, 3) := by decide +kernel
theorem dX4_copyFrom_24 : decode cX4_copyFrom 24 = .ok (.aload_n 0, 1) := by decide +kernel
theorem dX4_copyFrom_25 : decode cX4_copyFrom 25 = .ok (.aload_n 1, 1) := by decide +kernel
theorem dX4_copyFrom_26 : decode cX4_copyFrom 26 = .ok (.getfield 22, 3) := by decide +kernel
theorem dX4_copyFrom_29 : decode cX4_copyFrom 29 = .ok (.putfield 22, 3) := by decide +kernel
theorem dX4_copyFrom_32 : decode cX4_copyFrom 32 = .ok (.aload_n 0, 1) := by decide +kernel
theorem dX4_copyFrom_33 : decode cX4_copyFrom 33 = .ok (.aload_n 1, 1) := by decide +kernel
theorem dX4_copyFrom_34 : decode cX4_copyFrom 34 = .ok (.getfield 25, 3) := by decide +kernel
theorem dX4_copyFrom_37 : decode cX4_copyFrom 37 = .ok (.putfield 25, 3) := by decide +kernel
theorem dX4_copyFrom_40 : decode cX4_copyFrom 40 = .ok (.aload_n 0, 1) := by decide +kernel
theorem dX4_copyFrom_41 : decode cX4_copyFrom 41 = .ok (.aload_n 1, 1) := by decide +kernel
theorem dX4_copyFrom_42 : decode cX4_copyFrom 42 = .ok (.getfield 28, 3) := by decide +kernel
theorem dX4_copyFrom_45 : decode cX4_copyFrom 45 = .ok (.putfield 28, 3) := by decide +kernel
theorem dX4_copyFrom_48 : decode cX4_copyFrom 48 = .ok (.return_, 1) := by decide +kernel
theorem dX4_begin_0 : decode cX4_begin 0 = .ok (.aload_n 0, 1) := by decide +kernel
theorem dX4_begin_1 : decode cX4_begin 1 = .ok (.iconst 1, 1) := by decide +kernel
theorem dX4_begin_2 : decode cX4_begin 2 = .ok (.putfield 9, 3) := by decide +kernel
theorem dX4_begin_5 : decode cX4_begin 5 = .ok (.aload_n 0, 1) := by decide +kernel
theorem dX4_begin_6 : decode cX4_begin 6 = .ok (.iconst 0, 1) := by decide +kernel
theorem dX4_begin_7 : decode cX4_begin 7 = .ok (.putfield 15, 3) := by decide +kernel
theorem dX4_begin_10 : decode cX4_begin 10 = .ok (.aload_n 0, 1) := by decide +kernel
theorem dX4_begin_11 : decode cX4_begin 11 = .ok (.aload_n 1, 1) := by decide +kernel
theorem dX4_begin_12 : decode cX4_begin 12 = .ok (.putfield 18, 3) := by decide +kernel
theorem dX4_begin_15 : decode cX4_begin 15 = .ok (.aload_n 0, 1) := by decide +kernel
theorem dX4_begin_16 : decode cX4_begin 16 = .ok (.aconst_null, 1) := by decide +kernel
theorem dX4_begin_17 : decode cX4_begin 17 = .ok (.putfield 22, 3) := by decide +kernel
theorem dX4_begin_20 : decode cX4_begin 20 = .ok (.aload_n 0, 1) := by decide +kernel
theorem dX4_begin_21 : decode cX4_begin 21 = .ok (.aload_n 2, 1) := by decide +kernel
theorem dX4_begin_22 : decode cX4_begin 22 = .ok (.putfield 25, 3) := by decide +kernel
theorem dX4_begin_25 : decode cX4_begin 25 = .ok (.aload_n 0, 1) := by decide +kernel
theorem dX4_begin_26 : decode cX4_begin 26 = .ok (.aconst_null, 1) := by decide +kernel
theorem dX4_begin_27 : decode cX4_begin 27 = .ok (.putfield 28, 3) := by decide +kernel
theorem dX4_begin_30 : decode cX4_begin 30 = .ok (.return_, 1) := by decide +kernel
theorem dX4_step_0 : decode cX4_step 0 = .ok (.aload_n 0, 1) := by decide +kernel
theorem dX4_step_1 : decode cX4_step 1 = .ok (.getfield 9, 3) := by decide +kernel
theorem dX4_step_4 : decode cX4_step 4 = .ok (.iconst 1, 1) := by decide +kernel
theorem dX4_step_5 : decode cX4_step 5 = .ok (.if_icmp .ne 95, 3) := by decide +kernel
theorem dX4_step_8 : decode cX4_step 8 = .ok (.aload_n 0, 1) := by decide +kernel
theorem dX4_step_9 : decode cX4_step 9 = .ok (.getfield 18, 3) := by decide +kernel
theorem dX4_step_12 : decode cX4_step 12 = .ok (.ifnull 88, 3) := by decide +kernel
theorem dX4_step_15 : decode cX4_step 15 = .ok (.aload_n 0, 1) := by decide +kernel
theorem dX4_step_16 : decode cX4_step 16 = .ok (.getfield 25, 3) := by decide +kernel
theorem dX4_step_19 : decode cX4_step 19 = .ok (.ifnull 81, 3) := by decide +kernel
theorem dX4_step_22 : decode cX4_step 22 = .ok (.aload_n 0, 1) := by decide +kernel
theorem dX4_step_23 : decode cX4_step 23 = .ok (.new 31, 3) := by decide +kernel
theorem dX4_step_26 : decode cX4_step 26 = .ok (.dup, 1) := by decide +kernel
theorem dX4_step_27 : decode cX4_step 27 = .ok (.aload_n 0, 1) := by decide +kernel
theorem dX4_step_28 : decode cX4_step 28 = .ok (.getfield 18, 3) := by decide +kernel
theorem dX4_step_31 : decode cX4_step 31 = .ok (.getfield 33, 3) := by decide +kernel
theorem dX4_step_34 : decode cX4_step 34 = .ok (.aload_n 0, 1) := by decide +kernel
theorem dX4_step_35 : decode cX4_step 35 = .ok (.getfield 22, 3) := by decide +kernel
theorem dX4_step_38 : decode cX4_step 38 = .ok (.invokespecial 36, 3) := by decide +kernel
theorem dX4_step_41 : decode cX4_step 41 = .ok (.putfield 22, 3) := by decide +kernel
theorem dX4_step_44 : decode cX4_step 44 = .ok (.aload_n 0, 1) := by decide +kernel
theorem dX4_step_45 : decode cX4_step 45 = .ok (.new 31, 3) := by decide +kernel
theorem dX4_step_48 : decode cX4_step 48 = .ok (.dup, 1) := by decide +kernel
theorem dX4_step_49 : decode cX4_step 49 = .ok (.aload_n 0, 1) := by decide +kernel
theorem dX4_step_50 : decode cX4_step 50 = .ok (.getfield 25, 3) := by decide +kernel
theorem dX4_step_53 : decode cX4_step 53 = .ok (.getfield 33, 3) := by decide +kernel
theorem dX4_step_56 : decode cX4_step 56 = .ok (.aload_n 0, 1) := by decide +kernel
theorem dX4_step_57 : decode cX4_step 57 = .ok (.getfield 28, 3) := by decide +kernel
theorem dX4_step_60 : decode cX4_step 60 = .ok (.invokespecial 36, 3) := by decide +kernel
theorem dX4_step_63 : decode cX4_step 63 = .ok (.putfield 28, 3) := by decide +kernel
theorem dX4_step_66 : decode cX4_step 66 = .ok (.aload_n 0, 1) := by decide +kernel
theorem dX4_step_67 : decode cX4_step 67 = .ok (.aload_n 0, 1) := by decide +kernel
theorem dX4_step_68 : decode cX4_step 68 = .ok (.getfield 18, 3) := by decide +kernel
theorem dX4_step_71 : decode cX4_step 71 = .ok (.getfield 39, 3) := by decide +kernel
theorem dX4_step_74 : decode cX4_step 74 = .ok (.putfield 18, 3) := by decide +kernel
theorem dX4_step_77 : decode cX4_step 77 = .ok (.aload_n 0, 1) := by decide +kernel
theorem dX4_step_78 : decode cX4_step 78 = .ok (.aload_n 0, 1) := by decide +kernel
theorem dX4_step_79 : decode cX4_step 79 = .ok (.getfield 25, 3) := by decide +kernel
theorem dX4_step_82 : decode cX4_step 82 = .ok (.getfield 39, 3) := by decide +kernel
theorem dX4_step_85 : decode cX4_step 85 = .ok (.putfield 25, 3) := by decide +kernel
theorem dX4_step_88 : decode cX4_step 88 = .ok (.aload_n 0, 1) := by decide +kernel
theorem dX4_step_89 : decode cX4_step 89 = .ok (.dup, 1) := by decide +kernel
theorem dX4_step_90 : decode cX4_step 90 = .ok (.getfield 15, 3) := by decide +kernel
theorem dX4_step_93 : decode cX4_step 93 = .ok (.iconst 1, 1) := by decide +kernel
theorem dX4_step_94 : decode cX4_step 94 = .ok (.iadd, 1) := by decide +kernel
theorem dX4_step_95 : decode cX4_step 95 = .ok (.putfield 15, 3) := by decide +kernel
theorem dX4_step_98 : decode cX4_step 98 = .ok (.iconst 1, 1) := by decide +kernel
theorem dX4_step_99 : decode cX4_step 99 = .ok (.ireturn, 1) := by decide +kernel
theorem dX4_step_100 : decode cX4_step 100 = .ok (.aload_n 0, 1) := by decide +kernel
theorem dX4_step_101 : decode cX4_step 101 = .ok (.getfield 9, 3) := by decide +kernel
theorem dX4_step_104 : decode cX4_step 104 = .ok (.iconst 1, 1) := by decide +kernel
theorem dX4_step_105 : decode cX4_step 105 = .ok (.if_icmp .ne 61, 3) := by decide +kernel
theorem dX4_step_108 : decode cX4_step 108 = .ok (.aload_n 0, 1) := by decide +kernel
theorem dX4_step_109 : decode cX4_step 109 = .ok (.getfield 18, 3) := by decide +kernel
theorem dX4_step_112 : decode cX4_step 112 = .ok (.ifnonnull 54, 3) := by decide +kernel
theorem dX4_step_115 : decode cX4_step 115 = .ok (.aload_n 0, 1) := by decide +kernel
theorem dX4_step_116 : decode cX4_step 116 = .ok (.getfield 25, 3) := by decide +kernel
theorem dX4_step_119 : decode cX4_step 119 = .ok (.ifnull 47, 3) := by decide +kernel
theorem dX4_step_122 : decode cX4_step 122 = .ok (.aload_n 0, 1) := by decide +kernel
theorem dX4_step_123 : decode cX4_step 123 = .ok (.getfield 25, 3) := by decide +kernel
theorem dX4_step_126 : decode cX4_step 126 = .ok (.getfield 39, 3) := by decide +kernel
theorem dX4_step_129 : decode cX4_step 129 = .ok (.ifnonnull 37, 3) := by decide +kernel
theorem dX4_step_132 : decode cX4_step 132 = .ok (.aload_n 0, 1) := by decide +kernel
theorem dX4_step_133 : decode cX4_step 133 = .ok (.new 31, 3) := by decide +kernel
theorem dX4_step_136 : decode cX4_step 136 = .ok (.dup, 1) := by decide +kernel
theorem dX4_step_137 : decode cX4_step 137 = .ok (.aload_n 0, 1) := by decide +kernel
theorem dX4_step_138 : decode cX4_step 138 = .ok (.getfield 25, 3) := by decide +kernel
theorem dX4_step_141 : decode cX4_step 141 = .ok (.getfield 33, 3) := by decide +kernel
theorem dX4_step_144 : decode cX4_step 144 = .ok (.aload_n 0, 1) := by decide +kernel
theorem dX4_step_145 : decode cX4_step 145 = .ok (.getfield 28, 3) := by decide +kernel
theorem dX4_step_148 : decode cX4_step 148 = .ok (.invokespecial 36, 3) := by decide +kernel
theorem dX4_step_151 : decode cX4_step 151 = .ok (.putfield 28, 3) := by decide +kernel
theorem dX4_step_154 : decode cX4_step 154 = .ok (.aload_n 0, 1) := by decide +kernel
theorem dX4_step_155 : decode cX4_step 155 = .ok (.aconst_null, 1) := by decide +kernel
theorem dX4_step_156 : decode cX4_step 156 = .ok (.putfield 25, 3) := by decide +kernel
theorem dX4_step_159 : decode cX4_step 159 = .ok (.aload_n 0, 1) := by decide +kernel
theorem dX4_step_160 : decode cX4_step 160 = .ok (.iconst 2, 1) := by decide +kernel
theorem dX4_step_161 : decode cX4_step 161 = .ok (.putfield 9, 3) := by decide +kernel
theorem dX4_step_164 : decode cX4_step 164 = .ok (.iconst 1, 1) := by decide +kernel
theorem dX4_step_165 : decode cX4_step 165 = .ok (.ireturn, 1) := by decide +kernel
theorem dX4_step_166 : decode cX4_step 166 = .ok (.aload_n 0, 1) := by decide +kernel
theorem dX4_step_167 : decode cX4_step 167 = .ok (.getfield 9, 3) := by decide +kernel
theorem dX4_step_170 : decode cX4_step 170 = .ok (.iconst 2, 1) := by decide +kernel
theorem dX4_step_171 : decode cX4_step 171 = .ok (.if_icmp .ne 16, 3) := by decide +kernel
theorem dX4_step_174 : decode cX4_step 174 = .ok (.aload_n 0, 1) := by decide +kernel
theorem dX4_step_175 : decode cX4_step 175 = .ok (.getfield 15, 3) := by decide +kernel
theorem dX4_step_178 : decode cX4_step 178 = .ok (.ifCond .ne 9, 3) := by decide +kernel
theorem dX4_step_181 : decode cX4_step 181 = .ok (.aload_n 0, 1) := by decide +kernel
theorem dX4_step_182 : decode cX4_step 182 = .ok (.invokevirtual 42, 3) := by decide +kernel
theorem dX4_step_185 : decode cX4_step 185 = .ok (.iconst 1, 1) := by decide +kernel
theorem dX4_step_186 : decode cX4_step 186 = .ok (.ireturn, 1) := by decide +kernel
theorem dX4_step_187 : decode cX4_step 187 = .ok (.aload_n 0, 1) := by decide +kernel
theorem dX4_step_188 : decode cX4_step 188 = .ok (.getfield 9, 3) := by decide +kernel
theorem dX4_step_191 : decode cX4_step 191 = .ok (.iconst 2, 1) := by decide +kernel
theorem dX4_step_192 : decode cX4_step 192 = .ok (.if_icmp .ne 62, 3) := by decide +kernel
theorem dX4_step_195 : decode cX4_step 195 = .ok (.aload_n 0, 1) := by decide +kernel
theorem dX4_step_196 : decode cX4_step 196 = .ok (.getfield 15, 3) := by decide +kernel
theorem dX4_step_199 : decode cX4_step 199 = .ok (.ifCond .le 55, 3) := by decide +kernel
theorem dX4_step_202 : decode cX4_step 202 = .ok (.aload_n 0, 1) := by decide +kernel
theorem dX4_step_203 : decode cX4_step 203 = .ok (.getfield 22, 3) := by decide +kernel
theorem dX4_step_206 : decode cX4_step 206 = .ok (.ifnull 48, 3) := by decide +kernel
theorem dX4_step_209 : decode cX4_step 209 = .ok (.aload_n 0, 1) := by decide +kernel
theorem dX4_step_210 : decode cX4_step 210 = .ok (.new 31, 3) := by decide +kernel
theorem dX4_step_213 : decode cX4_step 213 = .ok (.dup, 1) := by decide +kernel
theorem dX4_step_214 : decode cX4_step 214 = .ok (.aload_n 0, 1) := by decide +kernel
theorem dX4_step_215 : decode cX4_step 215 = .ok (.getfield 22, 3) := by decide +kernel
theorem dX4_step_218 : decode cX4_step 218 = .ok (.getfield 33, 3) := by decide +kernel
theorem dX4_step_221 : decode cX4_step 221 = .ok (.aload_n 0, 1) := by decide +kernel
theorem dX4_step_222 : decode cX4_step 222 = .ok (.getfield 28, 3) := by decide +kernel
theorem dX4_step_225 : decode cX4_step 225 = .ok (.invokespecial 36, 3) := by decide +kernel
theorem dX4_step_228 : decode cX4_step 228 = .ok (.putfield 28, 3) := by decide +kernel
theorem dX4_step_231 : decode cX4_step 231 = .ok (.aload_n 0, 1) := by decide +kernel
theorem dX4_step_232 : decode cX4_step 232 = .ok (.aload_n 0, 1) := by decide +kernel
theorem dX4_step_233 : decode cX4_step 233 = .ok (.getfield 22, 3) := by decide +kernel
theorem dX4_step_236 : decode cX4_step 236 = .ok (.getfield 39, 3) := by decide +kernel
theorem dX4_step_239 : decode cX4_step 239 = .ok (.putfield 22, 3) := by decide +kernel
theorem dX4_step_242 : decode cX4_step 242 = .ok (.aload_n 0, 1) := by decide +kernel
theorem dX4_step_243 : decode cX4_step 243 = .ok (.dup, 1) := by decide +kernel
theorem dX4_step_244 : decode cX4_step 244 = .ok (.getfield 15, 3) := by decide +kernel
theorem dX4_step_247 : decode cX4_step 247 = .ok (.iconst 1, 1) := by decide +kernel
theorem dX4_step_248 : decode cX4_step 248 = .ok (.isub, 1) := by decide +kernel
theorem dX4_step_249 : decode cX4_step 249 = .ok (.putfield 15, 3) := by decide +kernel
