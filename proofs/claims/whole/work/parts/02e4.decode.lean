theorem dX6_rule_34 : decode cX6_rule 34 = .ok (.invokevirtual 201, 3) := by decide +kernel
theorem dX6_rule_37 : decode cX6_rule 37 = .ok (.iload_n 1, 1) := by decide +kernel
theorem dX6_rule_38 : decode cX6_rule 38 = .ok (.putfield 175, 3) := by decide +kernel
theorem dX6_rule_41 : decode cX6_rule 41 = .ok (.aload_n 0, 1) := by decide +kernel
theorem dX6_rule_42 : decode cX6_rule 42 = .ok (.invokevirtual 84, 3) := by decide +kernel
theorem dX6_rule_45 : decode cX6_rule 45 = .ok (.iload_n 2, 1) := by decide +kernel
theorem dX6_rule_46 : decode cX6_rule 46 = .ok (.ireturn, 1) := by decide +kernel
theorem dX6_undo_0 : decode cX6_undo 0 = .ok (.aload_n 0, 1) := by decide +kernel
theorem dX6_undo_1 : decode cX6_undo 1 = .ok (.getfield 50, 3) := by decide +kernel
theorem dX6_undo_4 : decode cX6_undo 4 = .ok (.ifCond .ne 5, 3) := by decide +kernel
theorem dX6_undo_7 : decode cX6_undo 7 = .ok (.iconst (-1), 1) := by decide +kernel
theorem dX6_undo_8 : decode cX6_undo 8 = .ok (.ireturn, 1) := by decide +kernel
theorem dX6_undo_9 : decode cX6_undo 9 = .ok (.aload_n 0, 1) := by decide +kernel
theorem dX6_undo_10 : decode cX6_undo 10 = .ok (.aload_n 0, 1) := by decide +kernel
theorem dX6_undo_11 : decode cX6_undo 11 = .ok (.getfield 47, 3) := by decide +kernel
theorem dX6_undo_14 : decode cX6_undo 14 = .ok (.bipush 10, 2) := by decide +kernel
theorem dX6_undo_16 : decode cX6_undo 16 = .ok (.iadd, 1) := by decide +kernel
theorem dX6_undo_17 : decode cX6_undo 17 = .ok (.iconst 1, 1) := by decide +kernel
theorem dX6_undo_18 : decode cX6_undo 18 = .ok (.isub, 1) := by decide +kernel
theorem dX6_undo_19 : decode cX6_undo 19 = .ok (.bipush 10, 2) := by decide +kernel
theorem dX6_undo_21 : decode cX6_undo 21 = .ok (.irem, 1) := by decide +kernel
theorem dX6_undo_22 : decode cX6_undo 22 = .ok (.putfield 47, 3) := by decide +kernel
theorem dX6_undo_25 : decode cX6_undo 25 = .ok (.aload_n 0, 1) := by decide +kernel
theorem dX6_undo_26 : decode cX6_undo 26 = .ok (.dup, 1) := by decide +kernel
theorem dX6_undo_27 : decode cX6_undo 27 = .ok (.getfield 50, 3) := by decide +kernel
theorem dX6_undo_30 : decode cX6_undo 30 = .ok (.iconst 1, 1) := by decide +kernel
theorem dX6_undo_31 : decode cX6_undo 31 = .ok (.isub, 1) := by decide +kernel
theorem dX6_undo_32 : decode cX6_undo 32 = .ok (.putfield 50, 3) := by decide +kernel
theorem dX6_undo_35 : decode cX6_undo 35 = .ok (.aload_n 0, 1) := by decide +kernel
theorem dX6_undo_36 : decode cX6_undo 36 = .ok (.getfield 50, 3) := by decide +kernel
theorem dX6_undo_39 : decode cX6_undo 39 = .ok (.ireturn, 1) := by decide +kernel
theorem dX6_checksum_0 : decode cX6_checksum 0 = .ok (.aload_n 0, 1) := by decide +kernel
theorem dX6_checksum_1 : decode cX6_checksum 1 = .ok (.getfield 22, 3) := by decide +kernel
theorem dX6_checksum_4 : decode cX6_checksum 4 = .ok (.aload_n 0, 1) := by decide +kernel
theorem dX6_checksum_5 : decode cX6_checksum 5 = .ok (.getfield 47, 3) := by decide +kernel
theorem dX6_checksum_8 : decode cX6_checksum 8 = .ok (.aaload, 1) := by decide +kernel
theorem dX6_checksum_9 : decode cX6_checksum 9 = .ok (.astore_n 1, 1) := by decide +kernel
theorem dX6_checksum_10 : decode cX6_checksum 10 = .ok (.lconst 0, 1) := by decide +kernel
theorem dX6_checksum_11 : decode cX6_checksum 11 = .ok (.lstore_n 2, 1) := by decide +kernel
theorem dX6_checksum_12 : decode cX6_checksum 12 = .ok (.iconst 0, 1) := by decide +kernel
theorem dX6_checksum_13 : decode cX6_checksum 13 = .ok (.istore 4, 2) := by decide +kernel
theorem dX6_checksum_15 : decode cX6_checksum 15 = .ok (.iload 4, 2) := by decide +kernel
theorem dX6_checksum_17 : decode cX6_checksum 17 = .ok (.bipush 10, 2) := by decide +kernel
theorem dX6_checksum_19 : decode cX6_checksum 19 = .ok (.if_icmp .ge 27, 3) := by decide +kernel
theorem dX6_checksum_22 : decode cX6_checksum 22 = .ok (.iload 4, 2) := by decide +kernel
theorem dX6_checksum_24 : decode cX6_checksum 24 = .ok (.bipush 8, 2) := by decide +kernel
theorem dX6_checksum_26 : decode cX6_checksum 26 = .ok (.if_icmp .eq 14, 3) := by decide +kernel
theorem dX6_checksum_29 : decode cX6_checksum 29 = .ok (.lload_n 2, 1) := by decide +kernel
theorem dX6_checksum_30 : decode cX6_checksum 30 = .ok (.aload_n 1, 1) := by decide +kernel
theorem dX6_checksum_31 : decode cX6_checksum 31 = .ok (.iload 4, 2) := by decide +kernel
theorem dX6_checksum_33 : decode cX6_checksum 33 = .ok (.invokevirtual 92, 3) := by decide +kernel
theorem dX6_checksum_36 : decode cX6_checksum 36 = .ok (.invokestatic 224, 3) := by decide +kernel
theorem dX6_checksum_39 : decode cX6_checksum 39 = .ok (.lstore_n 2, 1) := by decide +kernel
theorem dX6_checksum_40 : decode cX6_checksum 40 = .ok (.iinc 4 1, 3) := by decide +kernel
theorem dX6_checksum_43 : decode cX6_checksum 43 = .ok (.goto (-28), 3) := by decide +kernel
theorem dX6_checksum_46 : decode cX6_checksum 46 = .ok (.iconst 0, 1) := by decide +kernel
theorem dX6_checksum_47 : decode cX6_checksum 47 = .ok (.istore 4, 2) := by decide +kernel
theorem dX6_checksum_49 : decode cX6_checksum 49 = .ok (.iload 4, 2) := by decide +kernel
theorem dX6_checksum_51 : decode cX6_checksum 51 = .ok (.aload_n 1, 1) := by decide +kernel
theorem dX6_checksum_52 : decode cX6_checksum 52 = .ok (.getfield 87, 3) := by decide +kernel
theorem dX6_checksum_55 : decode cX6_checksum 55 = .ok (.if_icmp .ge 51, 3) := by decide +kernel
theorem dX6_checksum_58 : decode cX6_checksum 58 = .ok (.iconst 0, 1) := by decide +kernel
theorem dX6_checksum_59 : decode cX6_checksum 59 = .ok (.istore 5, 2) := by decide +kernel
theorem dX6_checksum_61 : decode cX6_checksum 61 = .ok (.iload 5, 2) := by decide +kernel
theorem dX6_checksum_63 : decode cX6_checksum 63 = .ok (.bipush 11, 2) := by decide +kernel
theorem dX6_checksum_65 : decode cX6_checksum 65 = .ok (.if_icmp .ge 22, 3) := by decide +kernel
theorem dX6_checksum_68 : decode cX6_checksum 68 = .ok (.lload_n 2, 1) := by decide +kernel
theorem dX6_checksum_69 : decode cX6_checksum 69 = .ok (.aload_n 1, 1) := by decide +kernel
theorem dX6_checksum_70 : decode cX6_checksum 70 = .ok (.iload 4, 2) := by decide +kernel
theorem dX6_checksum_72 : decode cX6_checksum 72 = .ok (.iload 5, 2) := by decide +kernel
theorem dX6_checksum_74 : decode cX6_checksum 74 = .ok (.invokevirtual 99, 3) := by decide +kernel
theorem dX6_checksum_77 : decode cX6_checksum 77 = .ok (.invokestatic 224, 3) := by decide +kernel
theorem dX6_checksum_80 : decode cX6_checksum 80 = .ok (.lstore_n 2, 1) := by decide +kernel
theorem dX6_checksum_81 : decode cX6_checksum 81 = .ok (.iinc 5 1, 3) := by decide +kernel
theorem dX6_checksum_84 : decode cX6_checksum 84 = .ok (.goto (-23), 3) := by decide +kernel
theorem dX6_checksum_87 : decode cX6_checksum 87 = .ok (.aload_n 0, 1) := by decide +kernel
theorem dX6_checksum_88 : decode cX6_checksum 88 = .ok (.lload_n 2, 1) := by decide +kernel
theorem dX6_checksum_89 : decode cX6_checksum 89 = .ok (.aload_n 1, 1) := by decide +kernel
theorem dX6_checksum_90 : decode cX6_checksum 90 = .ok (.getfield 181, 3) := by decide +kernel
theorem dX6_checksum_93 : decode cX6_checksum 93 = .ok (.iload 4, 2) := by decide +kernel
theorem dX6_checksum_95 : decode cX6_checksum 95 = .ok (.aaload, 1) := by decide +kernel
theorem dX6_checksum_96 : decode cX6_checksum 96 = .ok (.invokevirtual 228, 3) := by decide +kernel
theorem dX6_checksum_99 : decode cX6_checksum 99 = .ok (.lstore_n 2, 1) := by decide +kernel
theorem dX6_checksum_100 : decode cX6_checksum 100 = .ok (.iinc 4 1, 3) := by decide +kernel
theorem dX6_checksum_103 : decode cX6_checksum 103 = .ok (.goto (-54), 3) := by decide +kernel
theorem dX6_checksum_106 : decode cX6_checksum 106 = .ok (.lload_n 2, 1) := by decide +kernel
theorem dX6_checksum_107 : decode cX6_checksum 107 = .ok (.lreturn, 1) := by decide +kernel
theorem dX6_mixedWithLists_0 : decode cX6_mixedWithLists 0 = .ok (.lload_n 1, 1) := by decide +kernel
theorem dX6_mixedWithLists_1 : decode cX6_mixedWithLists 1 = .ok (.lstore 4, 2) := by decide +kernel
theorem dX6_mixedWithLists_3 : decode cX6_mixedWithLists 3 = .ok (.aload_n 3, 1) := by decide +kernel
theorem dX6_mixedWithLists_4 : decode cX6_mixedWithLists 4 = .ok (.aload_n 0, 1) := by decide +kernel
theorem dX6_mixedWithLists_5 : decode cX6_mixedWithLists 5 = .ok (.getfield 33, 3) := by decide +kernel
theorem dX6_mixedWithLists_8 : decode cX6_mixedWithLists 8 = .ok (.invokevirtual 115, 3) := by decide +kernel
theorem dX6_mixedWithLists_11 : decode cX6_mixedWithLists 11 = .ok (.istore 6, 2) := by decide +kernel
theorem dX6_mixedWithLists_13 : decode cX6_mixedWithLists 13 = .ok (.iconst 0, 1) := by decide +kernel
theorem dX6_mixedWithLists_14 : decode cX6_mixedWithLists 14 = .ok (.istore 7, 2) := by decide +kernel
theorem dX6_mixedWithLists_16 : decode cX6_mixedWithLists 16 = .ok (.iload 7, 2) := by decide +kernel
theorem dX6_mixedWithLists_18 : decode cX6_mixedWithLists 18 = .ok (.iload 6, 2) := by decide +kernel
theorem dX6_mixedWithLists_20 : decode cX6_mixedWithLists 20 = .ok (.if_icmp .ge 23, 3) := by decide +kernel
theorem dX6_mixedWithLists_23 : decode cX6_mixedWithLists 23 = .ok (.lload 4, 2) := by decide +kernel
theorem dX6_mixedWithLists_25 : decode cX6_mixedWithLists 25 = .ok (.aload_n 0, 1) := by decide +kernel
theorem dX6_mixedWithLists_26 : decode cX6_mixedWithLists 26 = .ok (.getfield 33, 3) := by decide +kernel
theorem dX6_mixedWithLists_29 : decode cX6_mixedWithLists 29 = .ok (.iload 7, 2) := by decide +kernel
theorem dX6_mixedWithLists_31 : decode cX6_mixedWithLists 31 = .ok (.iaload, 1) := by decide +kernel
theorem dX6_mixedWithLists_32 : decode cX6_mixedWithLists 32 = .ok (.invokestatic 224, 3) := by decide +kernel
theorem dX6_mixedWithLists_35 : decode cX6_mixedWithLists 35 = .ok (.lstore 4, 2) := by decide +kernel
theorem dX6_mixedWithLists_37 : decode cX6_mixedWithLists 37 = .ok (.iinc 7 1, 3) := by decide +kernel
theorem dX6_mixedWithLists_40 : decode cX6_mixedWithLists 40 = .ok (.goto (-24), 3) := by decide +kernel
theorem dX6_mixedWithLists_43 : decode cX6_mixedWithLists 43 = .ok (.iconst 1, 1) := by decide +kernel
theorem dX6_mixedWithLists_44 : decode cX6_mixedWithLists 44 = .ok (.istore 7, 2) := by decide +kernel
theorem dX6_mixedWithLists_46 : decode cX6_mixedWithLists 46 = .ok (.iload 7, 2) := by decide +kernel
theorem dX6_mixedWithLists_48 : decode cX6_mixedWithLists 48 = .ok (.bipush 7, 2) := by decide +kernel
theorem dX6_mixedWithLists_50 : decode cX6_mixedWithLists 50 = .ok (.if_icmp .ge 52, 3) := by decide +kernel
theorem dX6_mixedWithLists_53 : decode cX6_mixedWithLists 53 = .ok (.aload_n 3, 1) := by decide +kernel
theorem dX6_mixedWithLists_54 : decode cX6_mixedWithLists 54 = .ok (.iload 7, 2) := by decide +kernel
theorem dX6_mixedWithLists_56 : decode cX6_mixedWithLists 56 = .ok (.invokevirtual 105, 3) := by decide +kernel
theorem dX6_mixedWithLists_59 : decode cX6_mixedWithLists 59 = .ok (.astore 8, 2) := by decide +kernel
theorem dX6_mixedWithLists_61 : decode cX6_mixedWithLists 61 = .ok (.aload 8, 2) := by decide +kernel
theorem dX6_mixedWithLists_63 : decode cX6_mixedWithLists 63 = .ok (.ifnull 25, 3) := by decide +kernel
theorem dX6_mixedWithLists_66 : decode cX6_mixedWithLists 66 = .ok (.lload 4, 2) := by decide +kernel
theorem dX6_mixedWithLists_68 : decode cX6_mixedWithLists 68 = .ok (.aload 8, 2) := by decide +kernel
theorem dX6_mixedWithLists_70 : decode cX6_mixedWithLists 70 = .ok (.getfield 232, 3) := by decide +kernel
theorem dX6_mixedWithLists_73 : decode cX6_mixedWithLists 73 = .ok (.invokestatic 224, 3) := by decide +kernel
theorem dX6_mixedWithLists_76 : decode cX6_mixedWithLists 76 = .ok (.lstore 4, 2) := by decide +kernel
theorem dX6_mixedWithLists_78 : decode cX6_mixedWithLists 78 = .ok (.aload 8, 2) := by decide +kernel
theorem dX6_mixedWithLists_80 : decode cX6_mixedWithLists 80 = .ok (.getfield 235, 3) := by decide +kernel
theorem dX6_mixedWithLists_83 : decode cX6_mixedWithLists 83 = .ok (.astore 8, 2) := by decide +kernel
theorem dX6_mixedWithLists_85 : decode cX6_mixedWithLists 85 = .ok (.goto (-24), 3) := by decide +kernel
theorem dX6_mixedWithLists_88 : decode cX6_mixedWithLists 88 = .ok (.lload 4, 2) := by decide +kernel
theorem dX6_mixedWithLists_90 : decode cX6_mixedWithLists 90 = .ok (.iconst (-1), 1) := by decide +kernel
theorem dX6_mixedWithLists_91 : decode cX6_mixedWithLists 91 = .ok (.invokestatic 224, 3) := by decide +kernel
theorem dX6_mixedWithLists_94 : decode cX6_mixedWithLists 94 = .ok (.lstore 4, 2) := by decide +kernel
theorem dX6_mixedWithLists_96 : decode cX6_mixedWithLists 96 = .ok (.iinc 7 1, 3) := by decide +kernel
theorem dX6_mixedWithLists_99 : decode cX6_mixedWithLists 99 = .ok (.goto (-53), 3) := by decide +kernel
theorem dX6_mixedWithLists_102 : decode cX6_mixedWithLists 102 = .ok (.lload 4, 2) := by decide +kernel
theorem dX6_mixedWithLists_104 : decode cX6_mixedWithLists 104 = .ok (.lreturn, 1) := by decide +kernel
theorem dX6_mixed_0 : decode cX6_mixed 0 = .ok (.ldc2_w 239, 3) := by decide +kernel
theorem dX6_mixed_3 : decode cX6_mixed 3 = .ok (.lload_n 0, 1) := by decide +kernel
theorem dX6_mixed_4 : decode cX6_mixed 4 = .ok (.lmul, 1) := by decide +kernel
theorem dX6_mixed_5 : decode cX6_mixed 5 = .ok (.iload_n 2, 1) := by decide +kernel
theorem dX6_mixed_6 : decode cX6_mixed 6 = .ok (.i2l, 1) := by decide +kernel
theorem dX6_mixed_7 : decode cX6_mixed 7 = .ok (.ladd, 1) := by decide +kernel
theorem dX6_mixed_8 : decode cX6_mixed 8 = .ok (.lreturn, 1) := by decide +kernel
theorem dX6_addBytes_0 : decode cX6_addBytes 0 = .ok (.bipush 24, 2) := by decide +kernel
theorem dX6_addBytes_2 : decode cX6_addBytes 2 = .ok (.istore_n 2, 1) := by decide +kernel
theorem dX6_addBytes_3 : decode cX6_addBytes 3 = .ok (.iload_n 2, 1) := by decide +kernel
theorem dX6_addBytes_4 : decode cX6_addBytes 4 = .ok (.ifCond .lt 42, 3) := by decide +kernel
theorem dX6_addBytes_7 : decode cX6_addBytes 7 = .ok (.aload_n 0, 1) := by decide +kernel
theorem dX6_addBytes_8 : decode cX6_addBytes 8 = .ok (.getfield 40, 3) := by decide +kernel
theorem dX6_addBytes_11 : decode cX6_addBytes 11 = .ok (.sipush 500, 3) := by decide +kernel
theorem dX6_addBytes_14 : decode cX6_addBytes 14 = .ok (.if_icmp .ge 26, 3) := by decide +kernel
theorem dX6_addBytes_17 : decode cX6_addBytes 17 = .ok (.aload_n 0, 1) := by decide +kernel
theorem dX6_addBytes_18 : decode cX6_addBytes 18 = .ok (.getfield 9, 3) := by decide +kernel
theorem dX6_addBytes_21 : decode cX6_addBytes 21 = .ok (.aload_n 0, 1) := by decide +kernel
theorem dX6_addBytes_22 : decode cX6_addBytes 22 = .ok (.getfield 40, 3) := by decide +kernel
theorem dX6_addBytes_25 : decode cX6_addBytes 25 = .ok (.iload_n 1, 1) := by decide +kernel
theorem dX6_addBytes_26 : decode cX6_addBytes 26 = .ok (.iload_n 2, 1) := by decide +kernel
theorem dX6_addBytes_27 : decode cX6_addBytes 27 = .ok (.ishr, 1) := by decide +kernel
theorem dX6_addBytes_28 : decode cX6_addBytes 28 = .ok (.i2b, 1) := by decide +kernel
theorem dX6_addBytes_29 : decode cX6_addBytes 29 = .ok (.bastore, 1) := by decide +kernel
theorem dX6_addBytes_30 : decode cX6_addBytes 30 = .ok (.aload_n 0, 1) := by decide +kernel
theorem dX6_addBytes_31 : decode cX6_addBytes 31 = .ok (.dup, 1) := by decide +kernel
theorem dX6_addBytes_32 : decode cX6_addBytes 32 = .ok (.getfield 40, 3) := by decide +kernel
theorem dX6_addBytes_35 : decode cX6_addBytes 35 = .ok (.iconst 1, 1) := by decide +kernel
theorem dX6_addBytes_36 : decode cX6_addBytes 36 = .ok (.iadd, 1) := by decide +kernel
theorem dX6_addBytes_37 : decode cX6_addBytes 37 = .ok (.putfield 40, 3) := by decide +kernel
theorem dX6_addBytes_40 : decode cX6_addBytes 40 = .ok (.iinc 2 (-8), 3) := by decide +kernel
theorem dX6_addBytes_43 : decode cX6_addBytes 43 = .ok (.goto (-40), 3) := by decide +kernel
theorem dX6_addBytes_46 : decode cX6_addBytes 46 = .ok (.return_, 1) := by decide +kernel
theorem dX6_needVersion_0 : decode cX6_needVersion 0 = .ok (.aload_n 0, 1) := by decide +kernel
theorem dX6_needVersion_1 : decode cX6_needVersion 1 = .ok (.getfield 22, 3) := by decide +kernel
theorem dX6_needVersion_4 : decode cX6_needVersion 4 = .ok (.aload_n 0, 1) := by decide +kernel
theorem dX6_needVersion_5 : decode cX6_needVersion 5 = .ok (.getfield 47, 3) := by decide +kernel
theorem dX6_needVersion_8 : decode cX6_needVersion 8 = .ok (.aaload, 1) := by decide +kernel
theorem dX6_needVersion_9 : decode cX6_needVersion 9 = .ok (.astore_n 2, 1) := by decide +kernel
theorem dX6_needVersion_10 : decode cX6_needVersion 10 = .ok (.iload_n 1, 1) := by decide +kernel
theorem dX6_needVersion_11 : decode cX6_needVersion 11 = .ok (.ifCond .lt 11, 3) := by decide +kernel
theorem dX6_needVersion_14 : decode cX6_needVersion 14 = .ok (.iload_n 1, 1) := by decide +kernel
theorem dX6_needVersion_15 : decode cX6_needVersion 15 = .ok (.aload_n 2, 1) := by decide +kernel
theorem dX6_needVersion_16 : decode cX6_needVersion 16 = .ok (.getfield 87, 3) := by decide +kernel
theorem dX6_needVersion_19 : decode cX6_needVersion 19 = .ok (.if_icmp .lt 13, 3) := by decide +kernel
theorem dX6_needVersion_22 : decode cX6_needVersion 22 = .ok (.new 241, 3) := by decide +kernel
theorem dX6_needVersion_25 : decode cX6_needVersion 25 = .ok (.dup, 1) := by decide +kernel
theorem dX6_needVersion_26 : decode cX6_needVersion 26 = .ok (.ldc 243, 2) := by decide +kernel
theorem dX6_needVersion_28 : decode cX6_needVersion 28 = .ok (.invokespecial 245, 3) := by decide +kernel
theorem dX6_needVersion_31 : decode cX6_needVersion 31 = .ok (.athrow, 1) := by decide +kernel
theorem dX6_needVersion_32 : decode cX6_needVersion 32 = .ok (.aload_n 2, 1) := by decide +kernel
theorem dX6_needVersion_33 : decode cX6_needVersion 33 = .ok (.getfield 181, 3) := by decide +kernel
theorem dX6_needVersion_36 : decode cX6_needVersion 36 = .ok (.iload_n 1, 1) := by decide +kernel
theorem dX6_needVersion_37 : decode cX6_needVersion 37 = .ok (.aaload, 1) := by decide +kernel
theorem dX6_needVersion_38 : decode cX6_needVersion 38 = .ok (.areturn, 1) := by decide +kernel
theorem dX6_needRoom_0 : decode cX6_needRoom 0 = .ok (.aload_n 0, 1) := by decide +kernel
theorem dX6_needRoom_1 : decode cX6_needRoom 1 = .ok (.getfield 22, 3) := by decide +kernel
theorem dX6_needRoom_4 : decode cX6_needRoom 4 = .ok (.aload_n 0, 1) := by decide +kernel
theorem dX6_needRoom_5 : decode cX6_needRoom 5 = .ok (.getfield 47, 3) := by decide +kernel
theorem dX6_needRoom_8 : decode cX6_needRoom 8 = .ok (.aaload, 1) := by decide +kernel
theorem dX6_needRoom_9 : decode cX6_needRoom 9 = .ok (.getfield 87, 3) := by decide +kernel
theorem dX6_needRoom_12 : decode cX6_needRoom 12 = .ok (.bipush 64, 2) := by decide +kernel
theorem dX6_needRoom_14 : decode cX6_needRoom 14 = .ok (.if_icmp .lt 13, 3) := by decide +kernel
theorem dX6_needRoom_17 : decode cX6_needRoom 17 = .ok (.new 208, 3) := by decide +kernel
theorem dX6_needRoom_20 : decode cX6_needRoom 20 = .ok (.dup, 1) := by decide +kernel
theorem dX6_needRoom_21 : decode cX6_needRoom 21 = .ok (.ldc 246, 2) := by decide +kernel
theorem dX6_needRoom_23 : decode cX6_needRoom 23 = .ok (.invokespecial 210, 3) := by decide +kernel
theorem dX6_needRoom_26 : decode cX6_needRoom 26 = .ok (.athrow, 1) := by decide +kernel
theorem dX6_needRoom_27 : decode cX6_needRoom 27 = .ok (.return_, 1) := by decide +kernel
theorem dX6_sameRows_0 : decode cX6_sameRows 0 = .ok (.iload_n 1, 1) := by decide +kernel
theorem dX6_sameRows_1 : decode cX6_sameRows 1 = .ok (.iload_n 2, 1) := by decide +kernel
theorem dX6_sameRows_2 : decode cX6_sameRows 2 = .ok (.if_icmp .eq 5, 3) := by decide +kernel
theorem dX6_sameRows_5 : decode cX6_sameRows 5 = .ok (.iconst 0, 1) := by decide +kernel
theorem dX6_sameRows_6 : decode cX6_sameRows 6 = .ok (.ireturn, 1) := by decide +kernel
theorem dX6_sameRows_7 : decode cX6_sameRows 7 = .ok (.iconst 0, 1) := by decide +kernel
theorem dX6_sameRows_8 : decode cX6_sameRows 8 = .ok (.istore_n 3, 1) := by decide +kernel
theorem dX6_sameRows_9 : decode cX6_sameRows 9 = .ok (.iload_n 3, 1) := by decide +kernel
theorem dX6_sameRows_10 : decode cX6_sameRows 10 = .ok (.iload_n 1, 1) := by decide +kernel
theorem dX6_sameRows_11 : decode cX6_sameRows 11 = .ok (.if_icmp .ge 26, 3) := by decide +kernel
theorem dX6_sameRows_14 : decode cX6_sameRows 14 = .ok (.aload_n 0, 1) := by decide +kernel
theorem dX6_sameRows_15 : decode cX6_sameRows 15 = .ok (.getfield 33, 3) := by decide +kernel
theorem dX6_sameRows_18 : decode cX6_sameRows 18 = .ok (.iload_n 3, 1) := by decide +kernel
theorem dX6_sameRows_19 : decode cX6_sameRows 19 = .ok (.iaload, 1) := by decide +kernel
theorem dX6_sameRows_20 : decode cX6_sameRows 20 = .ok (.aload_n 0, 1) := by decide +kernel
theorem dX6_sameRows_21 : decode cX6_sameRows 21 = .ok (.getfield 37, 3) := by decide +kernel
theorem dX6_sameRows_24 : decode cX6_sameRows 24 = .ok (.iload_n 3, 1) := by decide +kernel
theorem dX6_sameRows_25 : decode cX6_sameRows 25 = .ok (.iaload, 1) := by decide +kernel
theorem dX6_sameRows_26 : decode cX6_sameRows 26 = .ok (.if_icmp .eq 5, 3) := by decide +kernel
theorem dX6_sameRows_29 : decode cX6_sameRows 29 = .ok (.iconst 0, 1) := by decide +kernel
theorem dX6_sameRows_30 : decode cX6_sameRows 30 = .ok (.ireturn, 1) := by decide +kernel
theorem dX6_sameRows_31 : decode cX6_sameRows 31 = .ok (.iinc 3 1, 3) := by decide +kernel
theorem dX6_sameRows_34 : decode cX6_sameRows 34 = .ok (.goto (-25), 3) := by decide +kernel
theorem dX6_sameRows_37 : decode cX6_sameRows 37 = .ok (.iconst 1, 1) := by decide +kernel
theorem dX6_sameRows_38 : decode cX6_sameRows 38 = .ok (.ireturn, 1) := by decide +kernel
theorem dX6_following_0 : decode cX6_following 0 = .ok (.iload_n 0, 1) := by decide +kernel
theorem dX6_following_1 : decode cX6_following 1 = .ok (.iconst 1, 1) := by decide +kernel
theorem dX6_following_2 : decode cX6_following 2 = .ok (.iadd, 1) := by decide +kernel
theorem dX6_following_3 : decode cX6_following 3 = .ok (.bipush 10, 2) := by decide +kernel
theorem dX6_following_5 : decode cX6_following 5 = .ok (.irem, 1) := by decide +kernel
theorem dX6_following_6 : decode cX6_following 6 = .ok (.ireturn, 1) := by decide +kernel
theorem dX6_freshDraft_0 : decode cX6_freshDraft 0 = .ok (.aload_n 0, 1) := by decide +kernel
theorem dX6_freshDraft_1 : decode cX6_freshDraft 1 = .ok (.getfield 22, 3) := by decide +kernel
theorem dX6_freshDraft_4 : decode cX6_freshDraft 4 = .ok (.aload_n 0, 1) := by decide +kernel
theorem dX6_freshDraft_5 : decode cX6_freshDraft 5 = .ok (.getfield 47, 3) := by decide +kernel
theorem dX6_freshDraft_8 : decode cX6_freshDraft 8 = .ok (.invokestatic 72, 3) := by decide +kernel
theorem dX6_freshDraft_11 : decode cX6_freshDraft 11 = .ok (.aaload, 1) := by decide +kernel
theorem dX6_freshDraft_12 : decode cX6_freshDraft 12 = .ok (.astore_n 1, 1) := by decide +kernel
theorem dX6_freshDraft_13 : decode cX6_freshDraft 13 = .ok (.aload_n 1, 1) := by decide +kernel
theorem dX6_freshDraft_14 : decode cX6_freshDraft 14 = .ok (.aload_n 0, 1) := by decide +kernel
theorem dX6_freshDraft_15 : decode cX6_freshDraft 15 = .ok (.getfield 22, 3) := by decide +kernel
theorem dX6_freshDraft_18 : decode cX6_freshDraft 18 = .ok (.aload_n 0, 1) := by decide +kernel
theorem dX6_freshDraft_19 : decode cX6_freshDraft 19 = .ok (.getfield 47, 3) := by decide +kernel
theorem dX6_freshDraft_22 : decode cX6_freshDraft 22 = .ok (.aaload, 1) := by decide +kernel
theorem dX6_freshDraft_23 : decode cX6_freshDraft 23 = .ok (.invokevirtual 248, 3) := by decide +kernel
theorem dX6_freshDraft_26 : decode cX6_freshDraft 26 = .ok (.aload_n 1, 1) := by decide +kernel
theorem dX6_freshDraft_27 : decode cX6_freshDraft 27 = .ok (.areturn, 1) := by decide +kernel
theorem dX6_keepDraft_0 : decode cX6_keepDraft 0 = .ok (.aload_n 0, 1) := by decide +kernel
theorem dX6_keepDraft_1 : decode cX6_keepDraft 1 = .ok (.aload_n 0, 1) := by decide +kernel
theorem dX6_keepDraft_2 : decode cX6_keepDraft 2 = .ok (.getfield 47, 3) := by decide +kernel
theorem dX6_keepDraft_5 : decode cX6_keepDraft 5 = .ok (.invokestatic 72, 3) := by decide +kernel
theorem dX6_keepDraft_8 : decode cX6_keepDraft 8 = .ok (.putfield 47, 3) := by decide +kernel
theorem dX6_keepDraft_11 : decode cX6_keepDraft 11 = .ok (.aload_n 0, 1) := by decide +kernel
theorem dX6_keepDraft_12 : decode cX6_keepDraft 12 = .ok (.getfield 50, 3) := by decide +kernel
theorem dX6_keepDraft_15 : decode cX6_keepDraft 15 = .ok (.bipush 8, 2) := by decide +kernel
theorem dX6_keepDraft_17 : decode cX6_keepDraft 17 = .ok (.if_icmp .ge 13, 3) := by decide +kernel
theorem dX6_keepDraft_20 : decode cX6_keepDraft 20 = .ok (.aload_n 0, 1) := by decide +kernel
theorem dX6_keepDraft_21 : decode cX6_keepDraft 21 = .ok (.dup, 1) := by decide +kernel
theorem dX6_keepDraft_22 : decode cX6_keepDraft 22 = .ok (.getfield 50, 3) := by decide +kernel
theorem dX6_keepDraft_25 : decode cX6_keepDraft 25 = .ok (.iconst 1, 1) := by decide +kernel
theorem dX6_keepDraft_26 : decode cX6_keepDraft 26 = .ok (.iadd, 1) := by decide +kernel
theorem dX6_keepDraft_27 : decode cX6_keepDraft 27 = .ok (.putfield 50, 3) := by decide +kernel
theorem dX6_keepDraft_30 : decode cX6_keepDraft 30 = .ok (.return_, 1) := by decide +kernel
