theorem dX7_rule_32 : decode cX7_rule 32 = .ok (.iconst 1, 1) := by decide +kernel
theorem dX7_rule_33 : decode cX7_rule 33 = .ok (.iload_n 1, 1) := by decide +kernel
theorem dX7_rule_34 : decode cX7_rule 34 = .ok (.invokevirtual 54, 3) := by decide +kernel
theorem dX7_rule_37 : decode cX7_rule 37 = .ok (.iload_n 2, 1) := by decide +kernel
theorem dX7_rule_38 : decode cX7_rule 38 = .ok (.ireturn, 1) := by decide +kernel
theorem dX7_undo_0 : decode cX7_undo 0 = .ok (.aload_n 0, 1) := by decide +kernel
theorem dX7_undo_1 : decode cX7_undo 1 = .ok (.iconst 0, 1) := by decide +kernel
theorem dX7_undo_2 : decode cX7_undo 2 = .ok (.putfield 44, 3) := by decide +kernel
theorem dX7_undo_5 : decode cX7_undo 5 = .ok (.aload_n 0, 1) := by decide +kernel
theorem dX7_undo_6 : decode cX7_undo 6 = .ok (.getfield 58, 3) := by decide +kernel
theorem dX7_undo_9 : decode cX7_undo 9 = .ok (.ifCond .ne 5, 3) := by decide +kernel
theorem dX7_undo_12 : decode cX7_undo 12 = .ok (.iconst (-1), 1) := by decide +kernel
theorem dX7_undo_13 : decode cX7_undo 13 = .ok (.ireturn, 1) := by decide +kernel
theorem dX7_undo_14 : decode cX7_undo 14 = .ok (.aload_n 0, 1) := by decide +kernel
theorem dX7_undo_15 : decode cX7_undo 15 = .ok (.dup, 1) := by decide +kernel
theorem dX7_undo_16 : decode cX7_undo 16 = .ok (.getfield 58, 3) := by decide +kernel
theorem dX7_undo_19 : decode cX7_undo 19 = .ok (.iconst 1, 1) := by decide +kernel
theorem dX7_undo_20 : decode cX7_undo 20 = .ok (.isub, 1) := by decide +kernel
theorem dX7_undo_21 : decode cX7_undo 21 = .ok (.putfield 58, 3) := by decide +kernel
theorem dX7_undo_24 : decode cX7_undo 24 = .ok (.aload_n 0, 1) := by decide +kernel
theorem dX7_undo_25 : decode cX7_undo 25 = .ok (.aload_n 0, 1) := by decide +kernel
theorem dX7_undo_26 : decode cX7_undo 26 = .ok (.getfield 47, 3) := by decide +kernel
theorem dX7_undo_29 : decode cX7_undo 29 = .ok (.bipush 9, 2) := by decide +kernel
theorem dX7_undo_31 : decode cX7_undo 31 = .ok (.iadd, 1) := by decide +kernel
theorem dX7_undo_32 : decode cX7_undo 32 = .ok (.iconst 1, 1) := by decide +kernel
theorem dX7_undo_33 : decode cX7_undo 33 = .ok (.isub, 1) := by decide +kernel
theorem dX7_undo_34 : decode cX7_undo 34 = .ok (.bipush 9, 2) := by decide +kernel
theorem dX7_undo_36 : decode cX7_undo 36 = .ok (.irem, 1) := by decide +kernel
theorem dX7_undo_37 : decode cX7_undo 37 = .ok (.putfield 47, 3) := by decide +kernel
theorem dX7_undo_40 : decode cX7_undo 40 = .ok (.aload_n 0, 1) := by decide +kernel
theorem dX7_undo_41 : decode cX7_undo 41 = .ok (.getfield 58, 3) := by decide +kernel
theorem dX7_undo_44 : decode cX7_undo 44 = .ok (.ireturn, 1) := by decide +kernel
theorem dX7_joins_0 : decode cX7_joins 0 = .ok (.ldc2_w 258, 3) := by decide +kernel
theorem dX7_joins_3 : decode cX7_joins 3 = .ok (.lload_n 0, 1) := by decide +kernel
theorem dX7_joins_4 : decode cX7_joins 4 = .ok (.lmul, 1) := by decide +kernel
theorem dX7_joins_5 : decode cX7_joins 5 = .ok (.lload_n 2, 1) := by decide +kernel
theorem dX7_joins_6 : decode cX7_joins 6 = .ok (.ladd, 1) := by decide +kernel
theorem dX7_joins_7 : decode cX7_joins 7 = .ok (.lreturn, 1) := by decide +kernel
theorem dX7_joinsVersion_0 : decode cX7_joinsVersion 0 = .ok (.lload_n 1, 1) := by decide +kernel
theorem dX7_joinsVersion_1 : decode cX7_joinsVersion 1 = .ok (.lstore 4, 2) := by decide +kernel
theorem dX7_joinsVersion_3 : decode cX7_joinsVersion 3 = .ok (.iconst 0, 1) := by decide +kernel
theorem dX7_joinsVersion_4 : decode cX7_joinsVersion 4 = .ok (.istore 6, 2) := by decide +kernel
theorem dX7_joinsVersion_6 : decode cX7_joinsVersion 6 = .ok (.iload 6, 2) := by decide +kernel
theorem dX7_joinsVersion_8 : decode cX7_joinsVersion 8 = .ok (.bipush 11, 2) := by decide +kernel
theorem dX7_joinsVersion_10 : decode cX7_joinsVersion 10 = .ok (.if_icmp .ge 24, 3) := by decide +kernel
theorem dX7_joinsVersion_13 : decode cX7_joinsVersion 13 = .ok (.lload 4, 2) := by decide +kernel
theorem dX7_joinsVersion_15 : decode cX7_joinsVersion 15 = .ok (.aload_n 0, 1) := by decide +kernel
theorem dX7_joinsVersion_16 : decode cX7_joinsVersion 16 = .ok (.iload_n 3, 1) := by decide +kernel
theorem dX7_joinsVersion_17 : decode cX7_joinsVersion 17 = .ok (.iload 6, 2) := by decide +kernel
theorem dX7_joinsVersion_19 : decode cX7_joinsVersion 19 = .ok (.invokevirtual 241, 3) := by decide +kernel
theorem dX7_joinsVersion_22 : decode cX7_joinsVersion 22 = .ok (.i2l, 1) := by decide +kernel
theorem dX7_joinsVersion_23 : decode cX7_joinsVersion 23 = .ok (.invokestatic 260, 3) := by decide +kernel
theorem dX7_joinsVersion_26 : decode cX7_joinsVersion 26 = .ok (.lstore 4, 2) := by decide +kernel
theorem dX7_joinsVersion_28 : decode cX7_joinsVersion 28 = .ok (.iinc 6 1, 3) := by decide +kernel
theorem dX7_joinsVersion_31 : decode cX7_joinsVersion 31 = .ok (.goto (-25), 3) := by decide +kernel
theorem dX7_joinsVersion_34 : decode cX7_joinsVersion 34 = .ok (.aload_n 0, 1) := by decide +kernel
theorem dX7_joinsVersion_35 : decode cX7_joinsVersion 35 = .ok (.iload_n 3, 1) := by decide +kernel
theorem dX7_joinsVersion_36 : decode cX7_joinsVersion 36 = .ok (.invokevirtual 128, 3) := by decide +kernel
theorem dX7_joinsVersion_39 : decode cX7_joinsVersion 39 = .ok (.istore 6, 2) := by decide +kernel
theorem dX7_joinsVersion_41 : decode cX7_joinsVersion 41 = .ok (.iconst 0, 1) := by decide +kernel
theorem dX7_joinsVersion_42 : decode cX7_joinsVersion 42 = .ok (.istore 7, 2) := by decide +kernel
theorem dX7_joinsVersion_44 : decode cX7_joinsVersion 44 = .ok (.iload 7, 2) := by decide +kernel
theorem dX7_joinsVersion_46 : decode cX7_joinsVersion 46 = .ok (.iload 6, 2) := by decide +kernel
theorem dX7_joinsVersion_48 : decode cX7_joinsVersion 48 = .ok (.if_icmp .ge 24, 3) := by decide +kernel
theorem dX7_joinsVersion_51 : decode cX7_joinsVersion 51 = .ok (.lload 4, 2) := by decide +kernel
theorem dX7_joinsVersion_53 : decode cX7_joinsVersion 53 = .ok (.aload_n 0, 1) := by decide +kernel
theorem dX7_joinsVersion_54 : decode cX7_joinsVersion 54 = .ok (.getfield 25, 3) := by decide +kernel
theorem dX7_joinsVersion_57 : decode cX7_joinsVersion 57 = .ok (.iload 7, 2) := by decide +kernel
theorem dX7_joinsVersion_59 : decode cX7_joinsVersion 59 = .ok (.iaload, 1) := by decide +kernel
theorem dX7_joinsVersion_60 : decode cX7_joinsVersion 60 = .ok (.i2l, 1) := by decide +kernel
theorem dX7_joinsVersion_61 : decode cX7_joinsVersion 61 = .ok (.invokestatic 260, 3) := by decide +kernel
theorem dX7_joinsVersion_64 : decode cX7_joinsVersion 64 = .ok (.lstore 4, 2) := by decide +kernel
theorem dX7_joinsVersion_66 : decode cX7_joinsVersion 66 = .ok (.iinc 7 1, 3) := by decide +kernel
theorem dX7_joinsVersion_69 : decode cX7_joinsVersion 69 = .ok (.goto (-25), 3) := by decide +kernel
theorem dX7_joinsVersion_72 : decode cX7_joinsVersion 72 = .ok (.aload_n 0, 1) := by decide +kernel
theorem dX7_joinsVersion_73 : decode cX7_joinsVersion 73 = .ok (.iload_n 3, 1) := by decide +kernel
theorem dX7_joinsVersion_74 : decode cX7_joinsVersion 74 = .ok (.invokevirtual 131, 3) := by decide +kernel
theorem dX7_joinsVersion_77 : decode cX7_joinsVersion 77 = .ok (.iconst 0, 1) := by decide +kernel
theorem dX7_joinsVersion_78 : decode cX7_joinsVersion 78 = .ok (.istore 7, 2) := by decide +kernel
theorem dX7_joinsVersion_80 : decode cX7_joinsVersion 80 = .ok (.iload 7, 2) := by decide +kernel
theorem dX7_joinsVersion_82 : decode cX7_joinsVersion 82 = .ok (.bipush 6, 2) := by decide +kernel
theorem dX7_joinsVersion_84 : decode cX7_joinsVersion 84 = .ok (.if_icmp .ge 61, 3) := by decide +kernel
theorem dX7_joinsVersion_87 : decode cX7_joinsVersion 87 = .ok (.aload_n 0, 1) := by decide +kernel
theorem dX7_joinsVersion_88 : decode cX7_joinsVersion 88 = .ok (.iload 7, 2) := by decide +kernel
theorem dX7_joinsVersion_90 : decode cX7_joinsVersion 90 = .ok (.invokevirtual 232, 3) := by decide +kernel
theorem dX7_joinsVersion_93 : decode cX7_joinsVersion 93 = .ok (.iconst 1, 1) := by decide +kernel
theorem dX7_joinsVersion_94 : decode cX7_joinsVersion 94 = .ok (.isub, 1) := by decide +kernel
theorem dX7_joinsVersion_95 : decode cX7_joinsVersion 95 = .ok (.istore 8, 2) := by decide +kernel
theorem dX7_joinsVersion_97 : decode cX7_joinsVersion 97 = .ok (.iload 8, 2) := by decide +kernel
theorem dX7_joinsVersion_99 : decode cX7_joinsVersion 99 = .ok (.ifCond .lt 30, 3) := by decide +kernel
theorem dX7_joinsVersion_102 : decode cX7_joinsVersion 102 = .ok (.lload 4, 2) := by decide +kernel
theorem dX7_joinsVersion_104 : decode cX7_joinsVersion 104 = .ok (.aload_n 0, 1) := by decide +kernel
theorem dX7_joinsVersion_105 : decode cX7_joinsVersion 105 = .ok (.getfield 16, 3) := by decide +kernel
theorem dX7_joinsVersion_108 : decode cX7_joinsVersion 108 = .ok (.bipush 64, 2) := by decide +kernel
theorem dX7_joinsVersion_110 : decode cX7_joinsVersion 110 = .ok (.iload 7, 2) := by decide +kernel
theorem dX7_joinsVersion_112 : decode cX7_joinsVersion 112 = .ok (.imul, 1) := by decide +kernel
theorem dX7_joinsVersion_113 : decode cX7_joinsVersion 113 = .ok (.iload 8, 2) := by decide +kernel
theorem dX7_joinsVersion_115 : decode cX7_joinsVersion 115 = .ok (.iadd, 1) := by decide +kernel
theorem dX7_joinsVersion_116 : decode cX7_joinsVersion 116 = .ok (.iaload, 1) := by decide +kernel
theorem dX7_joinsVersion_117 : decode cX7_joinsVersion 117 = .ok (.i2l, 1) := by decide +kernel
theorem dX7_joinsVersion_118 : decode cX7_joinsVersion 118 = .ok (.invokestatic 260, 3) := by decide +kernel
theorem dX7_joinsVersion_121 : decode cX7_joinsVersion 121 = .ok (.lstore 4, 2) := by decide +kernel
theorem dX7_joinsVersion_123 : decode cX7_joinsVersion 123 = .ok (.iinc 8 (-1), 3) := by decide +kernel
theorem dX7_joinsVersion_126 : decode cX7_joinsVersion 126 = .ok (.goto (-29), 3) := by decide +kernel
theorem dX7_joinsVersion_129 : decode cX7_joinsVersion 129 = .ok (.lload 4, 2) := by decide +kernel
theorem dX7_joinsVersion_131 : decode cX7_joinsVersion 131 = .ok (.ldc2_w 264, 3) := by decide +kernel
theorem dX7_joinsVersion_134 : decode cX7_joinsVersion 134 = .ok (.invokestatic 260, 3) := by decide +kernel
theorem dX7_joinsVersion_137 : decode cX7_joinsVersion 137 = .ok (.lstore 4, 2) := by decide +kernel
theorem dX7_joinsVersion_139 : decode cX7_joinsVersion 139 = .ok (.iinc 7 1, 3) := by decide +kernel
theorem dX7_joinsVersion_142 : decode cX7_joinsVersion 142 = .ok (.goto (-62), 3) := by decide +kernel
theorem dX7_joinsVersion_145 : decode cX7_joinsVersion 145 = .ok (.lload 4, 2) := by decide +kernel
theorem dX7_joinsVersion_147 : decode cX7_joinsVersion 147 = .ok (.lreturn, 1) := by decide +kernel
theorem dX7_checksum_0 : decode cX7_checksum 0 = .ok (.aload_n 0, 1) := by decide +kernel
theorem dX7_checksum_1 : decode cX7_checksum 1 = .ok (.iconst 0, 1) := by decide +kernel
theorem dX7_checksum_2 : decode cX7_checksum 2 = .ok (.putfield 44, 3) := by decide +kernel
theorem dX7_checksum_5 : decode cX7_checksum 5 = .ok (.lconst 0, 1) := by decide +kernel
theorem dX7_checksum_6 : decode cX7_checksum 6 = .ok (.lstore_n 1, 1) := by decide +kernel
theorem dX7_checksum_7 : decode cX7_checksum 7 = .ok (.iconst 0, 1) := by decide +kernel
theorem dX7_checksum_8 : decode cX7_checksum 8 = .ok (.istore_n 3, 1) := by decide +kernel
theorem dX7_checksum_9 : decode cX7_checksum 9 = .ok (.iload_n 3, 1) := by decide +kernel
theorem dX7_checksum_10 : decode cX7_checksum 10 = .ok (.bipush 10, 2) := by decide +kernel
theorem dX7_checksum_12 : decode cX7_checksum 12 = .ok (.if_icmp .ge 30, 3) := by decide +kernel
theorem dX7_checksum_15 : decode cX7_checksum 15 = .ok (.iload_n 3, 1) := by decide +kernel
theorem dX7_checksum_16 : decode cX7_checksum 16 = .ok (.bipush 8, 2) := by decide +kernel
theorem dX7_checksum_18 : decode cX7_checksum 18 = .ok (.if_icmp .ne 7, 3) := by decide +kernel
theorem dX7_checksum_21 : decode cX7_checksum 21 = .ok (.lload_n 1, 1) := by decide +kernel
theorem dX7_checksum_22 : decode cX7_checksum 22 = .ok (.goto 13, 3) := by decide +kernel
theorem dX7_checksum_25 : decode cX7_checksum 25 = .ok (.lload_n 1, 1) := by decide +kernel
theorem dX7_checksum_26 : decode cX7_checksum 26 = .ok (.aload_n 0, 1) := by decide +kernel
theorem dX7_checksum_27 : decode cX7_checksum 27 = .ok (.iload_n 3, 1) := by decide +kernel
theorem dX7_checksum_28 : decode cX7_checksum 28 = .ok (.invokevirtual 235, 3) := by decide +kernel
theorem dX7_checksum_31 : decode cX7_checksum 31 = .ok (.i2l, 1) := by decide +kernel
theorem dX7_checksum_32 : decode cX7_checksum 32 = .ok (.invokestatic 260, 3) := by decide +kernel
theorem dX7_checksum_35 : decode cX7_checksum 35 = .ok (.lstore_n 1, 1) := by decide +kernel
theorem dX7_checksum_36 : decode cX7_checksum 36 = .ok (.iinc 3 1, 3) := by decide +kernel
theorem dX7_checksum_39 : decode cX7_checksum 39 = .ok (.goto (-30), 3) := by decide +kernel
theorem dX7_checksum_42 : decode cX7_checksum 42 = .ok (.iconst 0, 1) := by decide +kernel
theorem dX7_checksum_43 : decode cX7_checksum 43 = .ok (.istore_n 3, 1) := by decide +kernel
theorem dX7_checksum_44 : decode cX7_checksum 44 = .ok (.iload_n 3, 1) := by decide +kernel
theorem dX7_checksum_45 : decode cX7_checksum 45 = .ok (.aload_n 0, 1) := by decide +kernel
theorem dX7_checksum_46 : decode cX7_checksum 46 = .ok (.invokevirtual 65, 3) := by decide +kernel
theorem dX7_checksum_49 : decode cX7_checksum 49 = .ok (.if_icmp .ge 16, 3) := by decide +kernel
theorem dX7_checksum_52 : decode cX7_checksum 52 = .ok (.aload_n 0, 1) := by decide +kernel
theorem dX7_checksum_53 : decode cX7_checksum 53 = .ok (.lload_n 1, 1) := by decide +kernel
theorem dX7_checksum_54 : decode cX7_checksum 54 = .ok (.iload_n 3, 1) := by decide +kernel
theorem dX7_checksum_55 : decode cX7_checksum 55 = .ok (.invokevirtual 266, 3) := by decide +kernel
theorem dX7_checksum_58 : decode cX7_checksum 58 = .ok (.lstore_n 1, 1) := by decide +kernel
theorem dX7_checksum_59 : decode cX7_checksum 59 = .ok (.iinc 3 1, 3) := by decide +kernel
theorem dX7_checksum_62 : decode cX7_checksum 62 = .ok (.goto (-18), 3) := by decide +kernel
theorem dX7_checksum_65 : decode cX7_checksum 65 = .ok (.lload_n 1, 1) := by decide +kernel
theorem dX7_checksum_66 : decode cX7_checksum 66 = .ok (.lreturn, 1) := by decide +kernel
