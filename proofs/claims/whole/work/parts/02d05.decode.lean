theorem dX6_push_2 : decode cX6_push 2 = .ok (.invokevirtual 95, 3) := by decide +kernel
theorem dX6_push_5 : decode cX6_push 5 = .ok (.pop, 1) := by decide +kernel
theorem dX6_push_6 : decode cX6_push 6 = .ok (.iload_n 2, 1) := by decide +kernel
theorem dX6_push_7 : decode cX6_push 7 = .ok (.ifCond .lt 9, 3) := by decide +kernel
theorem dX6_push_10 : decode cX6_push 10 = .ok (.iload_n 2, 1) := by decide +kernel
theorem dX6_push_11 : decode cX6_push 11 = .ok (.bipush 99, 2) := by decide +kernel
theorem dX6_push_13 : decode cX6_push 13 = .ok (.if_icmp .le 13, 3) := by decide +kernel
theorem dX6_push_16 : decode cX6_push 16 = .ok (.new 65, 3) := by decide +kernel
theorem dX6_push_19 : decode cX6_push 19 = .ok (.dup, 1) := by decide +kernel
theorem dX6_push_20 : decode cX6_push 20 = .ok (.ldc 196, 2) := by decide +kernel
theorem dX6_push_22 : decode cX6_push 22 = .ok (.invokespecial 69, 3) := by decide +kernel
theorem dX6_push_25 : decode cX6_push 25 = .ok (.athrow, 1) := by decide +kernel
theorem dX6_push_26 : decode cX6_push 26 = .ok (.aload_n 0, 1) := by decide +kernel
theorem dX6_push_27 : decode cX6_push 27 = .ok (.invokevirtual 198, 3) := by decide +kernel
theorem dX6_push_30 : decode cX6_push 30 = .ok (.aload_n 0, 1) := by decide +kernel
theorem dX6_push_31 : decode cX6_push 31 = .ok (.invokevirtual 201, 3) := by decide +kernel
theorem dX6_push_34 : decode cX6_push 34 = .ok (.iload_n 1, 1) := by decide +kernel
theorem dX6_push_35 : decode cX6_push 35 = .ok (.iload_n 2, 1) := by decide +kernel
theorem dX6_push_36 : decode cX6_push 36 = .ok (.invokevirtual 205, 3) := by decide +kernel
theorem dX6_push_39 : decode cX6_push 39 = .ok (.istore_n 3, 1) := by decide +kernel
theorem dX6_push_40 : decode cX6_push 40 = .ok (.aload_n 0, 1) := by decide +kernel
theorem dX6_push_41 : decode cX6_push 41 = .ok (.invokevirtual 84, 3) := by decide +kernel
theorem dX6_push_44 : decode cX6_push 44 = .ok (.iload_n 3, 1) := by decide +kernel
theorem dX6_push_45 : decode cX6_push 45 = .ok (.ireturn, 1) := by decide +kernel
theorem dX6_pop_0 : decode cX6_pop 0 = .ok (.aload_n 0, 1) := by decide +kernel
theorem dX6_pop_1 : decode cX6_pop 1 = .ok (.iload_n 1, 1) := by decide +kernel
theorem dX6_pop_2 : decode cX6_pop 2 = .ok (.invokevirtual 95, 3) := by decide +kernel
theorem dX6_pop_5 : decode cX6_pop 5 = .ok (.invokevirtual 169, 3) := by decide +kernel
theorem dX6_pop_8 : decode cX6_pop 8 = .ok (.ifCond .ne 13, 3) := by decide +kernel
theorem dX6_pop_11 : decode cX6_pop 11 = .ok (.new 208, 3) := by decide +kernel
theorem dX6_pop_14 : decode cX6_pop 14 = .ok (.dup, 1) := by decide +kernel
theorem dX6_pop_15 : decode cX6_pop 15 = .ok (.ldc 121, 2) := by decide +kernel
theorem dX6_pop_17 : decode cX6_pop 17 = .ok (.invokespecial 210, 3) := by decide +kernel
theorem dX6_pop_20 : decode cX6_pop 20 = .ok (.athrow, 1) := by decide +kernel
theorem dX6_pop_21 : decode cX6_pop 21 = .ok (.aload_n 0, 1) := by decide +kernel
theorem dX6_pop_22 : decode cX6_pop 22 = .ok (.invokevirtual 198, 3) := by decide +kernel
theorem dX6_pop_25 : decode cX6_pop 25 = .ok (.aload_n 0, 1) := by decide +kernel
theorem dX6_pop_26 : decode cX6_pop 26 = .ok (.invokevirtual 201, 3) := by decide +kernel
theorem dX6_pop_29 : decode cX6_pop 29 = .ok (.iload_n 1, 1) := by decide +kernel
theorem dX6_pop_30 : decode cX6_pop 30 = .ok (.invokevirtual 211, 3) := by decide +kernel
theorem dX6_pop_33 : decode cX6_pop 33 = .ok (.istore_n 2, 1) := by decide +kernel
theorem dX6_pop_34 : decode cX6_pop 34 = .ok (.aload_n 0, 1) := by decide +kernel
theorem dX6_pop_35 : decode cX6_pop 35 = .ok (.invokevirtual 84, 3) := by decide +kernel
theorem dX6_pop_38 : decode cX6_pop 38 = .ok (.iload_n 2, 1) := by decide +kernel
theorem dX6_pop_39 : decode cX6_pop 39 = .ok (.ireturn, 1) := by decide +kernel
theorem dX6_drop_0 : decode cX6_drop 0 = .ok (.aload_n 0, 1) := by decide +kernel
theorem dX6_drop_1 : decode cX6_drop 1 = .ok (.iload_n 1, 1) := by decide +kernel
theorem dX6_drop_2 : decode cX6_drop 2 = .ok (.invokevirtual 95, 3) := by decide +kernel
theorem dX6_drop_5 : decode cX6_drop 5 = .ok (.astore_n 2, 1) := by decide +kernel
theorem dX6_drop_6 : decode cX6_drop 6 = .ok (.iload_n 1, 1) := by decide +kernel
theorem dX6_drop_7 : decode cX6_drop 7 = .ok (.ifCond .eq 19, 3) := by decide +kernel
theorem dX6_drop_10 : decode cX6_drop 10 = .ok (.aload_n 0, 1) := by decide +kernel
theorem dX6_drop_11 : decode cX6_drop 11 = .ok (.getfield 22, 3) := by decide +kernel
theorem dX6_drop_14 : decode cX6_drop 14 = .ok (.aload_n 0, 1) := by decide +kernel
theorem dX6_drop_15 : decode cX6_drop 15 = .ok (.getfield 47, 3) := by decide +kernel
theorem dX6_drop_18 : decode cX6_drop 18 = .ok (.aaload, 1) := by decide +kernel
theorem dX6_drop_19 : decode cX6_drop 19 = .ok (.aload_n 2, 1) := by decide +kernel
theorem dX6_drop_20 : decode cX6_drop 20 = .ok (.invokevirtual 214, 3) := by decide +kernel
theorem dX6_drop_23 : decode cX6_drop 23 = .ok (.ifCond .le 13, 3) := by decide +kernel
theorem dX6_drop_26 : decode cX6_drop 26 = .ok (.new 208, 3) := by decide +kernel
theorem dX6_drop_29 : decode cX6_drop 29 = .ok (.dup, 1) := by decide +kernel
theorem dX6_drop_30 : decode cX6_drop 30 = .ok (.ldc 217, 2) := by decide +kernel
theorem dX6_drop_32 : decode cX6_drop 32 = .ok (.invokespecial 210, 3) := by decide +kernel
theorem dX6_drop_35 : decode cX6_drop 35 = .ok (.athrow, 1) := by decide +kernel
theorem dX6_drop_36 : decode cX6_drop 36 = .ok (.aload_n 0, 1) := by decide +kernel
theorem dX6_drop_37 : decode cX6_drop 37 = .ok (.invokevirtual 201, 3) := by decide +kernel
theorem dX6_drop_40 : decode cX6_drop 40 = .ok (.astore_n 3, 1) := by decide +kernel
theorem dX6_drop_41 : decode cX6_drop 41 = .ok (.aload_n 3, 1) := by decide +kernel
theorem dX6_drop_42 : decode cX6_drop 42 = .ok (.iload_n 1, 1) := by decide +kernel
theorem dX6_drop_43 : decode cX6_drop 43 = .ok (.invokevirtual 219, 3) := by decide +kernel
theorem dX6_drop_46 : decode cX6_drop 46 = .ok (.aload_n 0, 1) := by decide +kernel
theorem dX6_drop_47 : decode cX6_drop 47 = .ok (.invokevirtual 84, 3) := by decide +kernel
theorem dX6_drop_50 : decode cX6_drop 50 = .ok (.aload_n 3, 1) := by decide +kernel
theorem dX6_drop_51 : decode cX6_drop 51 = .ok (.getfield 87, 3) := by decide +kernel
theorem dX6_drop_54 : decode cX6_drop 54 = .ok (.ireturn, 1) := by decide +kernel
theorem dX6_rule_0 : decode cX6_rule 0 = .ok (.iload_n 1, 1) := by decide +kernel
theorem dX6_rule_1 : decode cX6_rule 1 = .ok (.iconst 2, 1) := by decide +kernel
theorem dX6_rule_2 : decode cX6_rule 2 = .ok (.if_icmp .lt 8, 3) := by decide +kernel
theorem dX6_rule_5 : decode cX6_rule 5 = .ok (.iload_n 1, 1) := by decide +kernel
theorem dX6_rule_6 : decode cX6_rule 6 = .ok (.iconst 4, 1) := by decide +kernel
theorem dX6_rule_7 : decode cX6_rule 7 = .ok (.if_icmp .le 13, 3) := by decide +kernel
theorem dX6_rule_10 : decode cX6_rule 10 = .ok (.new 65, 3) := by decide +kernel
theorem dX6_rule_13 : decode cX6_rule 13 = .ok (.dup, 1) := by decide +kernel
theorem dX6_rule_14 : decode cX6_rule 14 = .ok (.ldc 222, 2) := by decide +kernel
theorem dX6_rule_16 : decode cX6_rule 16 = .ok (.invokespecial 69, 3) := by decide +kernel
theorem dX6_rule_19 : decode cX6_rule 19 = .ok (.athrow, 1) := by decide +kernel
theorem dX6_rule_20 : decode cX6_rule 20 = .ok (.aload_n 0, 1) := by decide +kernel
theorem dX6_rule_21 : decode cX6_rule 21 = .ok (.getfield 22, 3) := by decide +kernel
theorem dX6_rule_24 : decode cX6_rule 24 = .ok (.aload_n 0, 1) := by decide +kernel
theorem dX6_rule_25 : decode cX6_rule 25 = .ok (.getfield 47, 3) := by decide +kernel
theorem dX6_rule_28 : decode cX6_rule 28 = .ok (.aaload, 1) := by decide +kernel
theorem dX6_rule_29 : decode cX6_rule 29 = .ok (.getfield 175, 3) := by decide +kernel
theorem dX6_rule_32 : decode cX6_rule 32 = .ok (.istore_n 2, 1) := by decide +kernel
theorem dX6_rule_33 : decode cX6_rule 33 = .ok (.aload_n 0, 1) := by decide +kernel
theorem dX6_rule_34 : decode cX6_rule 34 = .ok (.invokevirtual 201, 3) := by decide +kernel
theorem dX6_rule_37 : decode cX6_rule 37 = .ok (.iload_n 1, 1) := by decide +kernel
theorem dX6_rule_38 : decode cX6_rule 38 = .ok (.putfield 175, 3) := by decide +kernel
theorem dX6_rule_41 : decode cX6_rule 41 = .ok (.aload_n 0, 1) := by decide +kernel
theorem dX6_rule_42 : decode cX6_rule 42 = .ok (.invokevirtual 84, 3) := by decide +kernel
theorem dX6_rule_45 : decode cX6_rule 45 = .ok (.iload_n 2, 1) := by decide +kernel
theorem dX6_rule_46 : decode cX6_rule 46 = .ok (.ireturn, 1) := by decide +kernel
theorem dX6_undo_0 : decode cX6_undo 0 = .ok (.aload_n 0, 1) := by decide +kernel
theorem dX6_undo_1 : decode cX6_undo 1 = .ok (.getfield 50, 3) := by decide +kernel
theorem dX6_undo_4 : decode cX6_undo 4 = .ok (.ifCond .ne 5, 3) := by decide +kernel
theorem dX6_undo_7 : decode cX6_undo 7 = .ok (.iconst (-1), 1) := by decide +kernel
theorem dX6_undo_8 : decode cX6_undo 8 = .ok (.ireturn, 1) := by decide +kernel
theorem dX6_undo_9 : decode cX6_undo 9 = .ok (.aload_n 0, 1) := by decide +kernel
theorem dX6_undo_10 : decode cX6_undo 10 = .ok (.aload_n 0, 1) := by decide +kernel
theorem dX6_undo_11 : decode cX6_undo 11 = .ok (.getfield 47, 3) := by decide +kernel
theorem dX6_undo_14 : decode cX6_undo 14 = .ok (.bipush 10, 2) := by decide +kernel
theorem dX6_undo_16 : decode cX6_undo 16 = .ok (.iadd, 1) := by decide +kernel
theorem dX6_undo_17 : decode cX6_undo 17 = .ok (.iconst 1, 1) := by decide +kernel
theorem dX6_undo_18 : decode cX6_undo 18 = .ok (.isub, 1) := by decide +kernel
theorem dX6_undo_19 : decode cX6_undo 19 = .ok (.bipush 10, 2) := by decide +kernel
theorem dX6_undo_21 : decode cX6_undo 21 = .ok (.irem, 1) := by decide +kernel
theorem dX6_undo_22 : decode cX6_undo 22 = .ok (.putfield 47, 3) := by decide +kernel
theorem dX6_undo_25 : decode cX6_undo 25 = .ok (.aload_n 0, 1) := by decide +kernel
theorem dX6_undo_26 : decode cX6_undo 26 = .ok (.dup, 1) := by decide +kernel
theorem dX6_undo_27 : decode cX6_undo 27 = .ok (.getfield 50, 3) := by decide +kernel
theorem dX6_undo_30 : decode cX6_undo 30 = .ok (.iconst 1, 1) := by decide +kernel
theorem dX6_undo_31 : decode cX6_undo 31 = .ok (.isub, 1) := by decide +kernel
theorem dX6_undo_32 : decode cX6_undo 32 = .ok (.putfield 50, 3) := by decide +kernel
theorem dX6_undo_35 : decode cX6_undo 35 = .ok (.aload_n 0, 1) := by decide +kernel
theorem dX6_undo_36 : decode cX6_undo 36 = .ok (.getfield 50, 3) := by decide +kernel
theorem dX6_undo_39 : decode cX6_undo 39 = .ok (.ireturn, 1) := by decide +kernel
theorem dX6_checksum_0 : decode cX6_checksum 0 = .ok (.aload_n 0, 1) := by decide +kernel
theorem dX6_checksum_1 : decode cX6_checksum 1 = .ok (.getfield 22, 3) := by decide +kernel
theorem dX6_checksum_4 : decode cX6_checksum 4 = .ok (.aload_n 0, 1) := by decide +kernel
theorem dX6_checksum_5 : decode cX6_checksum 5 = .ok (.getfield 47, 3) := by decide +kernel
theorem dX6_checksum_8 : decode cX6_checksum 8 = .ok (.aaload, 1) := by decide +kernel
theorem dX6_checksum_9 : decode cX6_checksum 9 = .ok (.astore_n 1, 1) := by decide +kernel
theorem dX6_checksum_10 : decode cX6_checksum 10 = .ok (.lconst 0, 1) := by decide +kernel
theorem dX6_checksum_11 : decode cX6_checksum 11 = .ok (.lstore_n 2, 1) := by decide +kernel
theorem dX6_checksum_12 : decode cX6_checksum 12 = .ok (.iconst 0, 1) := by decide +kernel
theorem dX6_checksum_13 : decode cX6_checksum 13 = .ok (.istore 4, 2) := by decide +kernel
theorem dX6_checksum_15 : decode cX6_checksum 15 = .ok (.iload 4, 2) := by decide +kernel
theorem dX6_checksum_17 : decode cX6_checksum 17 = .ok (.bipush 10, 2) := by decide +kernel
theorem dX6_checksum_19 : decode cX6_checksum 19 = .ok (.if_icmp .ge 27, 3) := by decide +kernel
theorem dX6_checksum_22 : decode cX6_checksum 22 = .ok (.iload 4, 2) := by decide +kernel
theorem dX6_checksum_24 : decode cX6_checksum 24 = .ok (.bipush 8, 2) := by decide +kernel
theorem dX6_checksum_26 : decode cX6_checksum 26 = .ok (.if_icmp .eq 14, 3) := by decide +kernel
theorem dX6_checksum_29 : decode cX6_checksum 29 = .ok (.lload_n 2, 1) := by decide +kernel
theorem dX6_checksum_30 : decode cX6_checksum 30 = .ok (.aload_n 1, 1) := by decide +kernel
theorem dX6_checksum_31 : decode cX6_checksum 31 = .ok (.iload 4, 2) := by decide +kernel
theorem dX6_checksum_33 : decode cX6_checksum 33 = .ok (.invokevirtual 92, 3) := by decide +kernel
theorem dX6_checksum_36 : decode cX6_checksum 36 = .ok (.invokestatic 224, 3) := by decide +kernel
theorem dX6_checksum_39 : decode cX6_checksum 39 = .ok (.lstore_n 2, 1) := by decide +kernel
theorem dX6_checksum_40 : decode cX6_checksum 40 = .ok (.iinc 4 1, 3) := by decide +kernel
theorem dX6_checksum_43 : decode cX6_checksum 43 = .ok (.goto (-28), 3) := by decide +kernel
theorem dX6_checksum_46 : decode cX6_checksum 46 = .ok (.iconst 0, 1) := by decide +kernel
theorem dX6_checksum_47 : decode cX6_checksum 47 = .ok (.istore 4, 2) := by decide +kernel
theorem dX6_checksum_49 : decode cX6_checksum 49 = .ok (.iload 4, 2) := by decide +kernel
theorem dX6_checksum_51 : decode cX6_checksum 51 = .ok (.aload_n 1, 1) := by decide +kernel
theorem dX6_checksum_52 : decode cX6_checksum 52 = .ok (.getfield 87, 3) := by decide +kernel
theorem dX6_checksum_55 : decode cX6_checksum 55 = .ok (.if_icmp .ge 51, 3) := by decide +kernel
theorem dX6_checksum_58 : decode cX6_checksum 58 = .ok (.iconst 0, 1) := by decide +kernel
theorem dX6_checksum_59 : decode cX6_checksum 59 = .ok (.istore 5, 2) := by decide +kernel
theorem dX6_checksum_61 : decode cX6_checksum 61 = .ok (.iload 5, 2) := by decide +kernel
theorem dX6_checksum_63 : decode cX6_checksum 63 = .ok (.bipush 11, 2) := by decide +kernel
theorem dX6_checksum_65 : decode cX6_checksum 65 = .ok (.if_icmp .ge 22, 3) := by decide +kernel
theorem dX6_checksum_68 : decode cX6_checksum 68 = .ok (.lload_n 2, 1) := by decide +kernel
theorem dX6_checksum_69 : decode cX6_checksum 69 = .ok (.aload_n 1, 1) := by decide +kernel
theorem dX6_checksum_70 : decode cX6_checksum 70 = .ok (.iload 4, 2) := by decide +kernel
theorem dX6_checksum_72 : decode cX6_checksum 72 = .ok (.iload 5, 2) := by decide +kernel
theorem dX6_checksum_74 : decode cX6_checksum 74 = .ok (.invokevirtual 99, 3) := by decide +kernel
theorem dX6_checksum_77 : decode cX6_checksum 77 = .ok (.invokestatic 224, 3) := by decide +kernel
theorem dX6_checksum_80 : decode cX6_checksum 80 = .ok (.lstore_n 2, 1) := by decide +kernel
theorem dX6_checksum_81 : decode cX6_checksum 81 = .ok (.iinc 5 1, 3) := by decide +kernel
theorem dX6_checksum_84 : decode cX6_checksum 84 = .ok (.goto (-23), 3) := by decide +kernel
theorem dX6_checksum_87 : decode cX6_checksum 87 = .ok (.aload_n 0, 1) := by decide +kernel
theorem dX6_checksum_88 : decode cX6_checksum 88 = .ok (.lload_n 2, 1) := by decide +kernel
theorem dX6_checksum_89 : decode cX6_checksum 89 = .ok (.aload_n 1, 1) := by decide +kernel
theorem dX6_checksum_90 : decode cX6_checksum 90 = .ok (.getfield 181, 3) := by decide +kernel
theorem dX6_checksum_93 : decode cX6_checksum 93 = .ok (.iload 4, 2) := by decide +kernel
theorem dX6_checksum_95 : decode cX6_checksum 95 = .ok (.aaload, 1) := by decide +kernel
theorem dX6_checksum_96 : decode cX6_checksum 96 = .ok (.invokevirtual 228, 3) := by decide +kernel
theorem dX6_checksum_99 : decode cX6_checksum 99 = .ok (.lstore_n 2, 1) := by decide +kernel
theorem dX6_checksum_100 : decode cX6_checksum 100 = .ok (.iinc 4 1, 3) := by decide +kernel
theorem dX6_checksum_103 : decode cX6_checksum 103 = .ok (.goto (-54), 3) := by decide +kernel
theorem dX6_checksum_106 : decode cX6_checksum 106 = .ok (.lload_n 2, 1) := by decide +kernel
theorem dX6_checksum_107 : decode cX6_checksum 107 = .ok (.lreturn, 1) := by decide +kernel
theorem dX6_mixedWithLists_0 : decode cX6_mixedWithLists 0 = .ok (.lload_n 1, 1) := by decide +kernel
theorem dX6_mixedWithLists_1 : decode cX6_mixedWithLists 1 = .ok (.lstore 4, 2) := by decide +kernel
theorem dX6_mixedWithLists_3 : decode cX6_mixedWithLists 3 = .ok (.aload_n 3, 1) := by decide +kernel
theorem dX6_mixedWithLists_4 : decode cX6_mixedWithLists 4 = .ok (.aload_n 0, 1) := by decide +kernel
theorem dX6_mixedWithLists_5 : decode cX6_mixedWithLists 5 = .ok (.getfield 33, 3) := by decide +kernel
theorem dX6_mixedWithLists_8 : decode cX6_mixedWithLists 8 = .ok (.invokevirtual 115, 3) := by decide +kernel
theorem dX6_mixedWithLists_11 : decode cX6_mixedWithLists 11 = .ok (.istore 6, 2) := by decide +kernel
theorem dX6_mixedWithLists_13 : decode cX6_mixedWithLists 13 = .ok (.iconst 0, 1) := by decide +kernel
theorem dX6_mixedWithLists_14 : decode cX6_mixedWithLists 14 = .ok (.istore 7, 2) := by decide +kernel
theorem dX6_mixedWithLists_16 : decode cX6_mixedWithLists 16 = .ok (.iload 7, 2) := by decide +kernel
theorem dX6_mixedWithLists_18 : decode cX6_mixedWithLists 18 = .ok (.iload 6, 2) := by decide +kernel
theorem dX6_mixedWithLists_20 : decode cX6_mixedWithLists 20 = .ok (.if_icmp .ge 23, 3) := by decide +kernel
theorem dX6_mixedWithLists_23 : decode cX6_mixedWithLists 23 = .ok (.lload 4, 2) := by decide +kernel
theorem dX6_mixedWithLists_25 : decode cX6_mixedWithLists 25 = .ok (.aload_n 0, 1) := by decide +kernel
theorem dX6_mixedWithLists_26 : decode cX6_mixedWithLists 26 = .ok (.getfield 33, 3) := by decide +kernel
theorem dX6_mixedWithLists_29 : decode cX6_mixedWithLists 29 = .ok (.iload 7, 2) := by decide +kernel
theorem dX6_mixedWithLists_31 : decode cX6_mixedWithLists 31 = .ok (.iaload, 1) := by decide +kernel
theorem dX6_mixedWithLists_32 : decode cX6_mixedWithLists 32 = .ok (.invokestatic 224, 3) := by decide +kernel
theorem dX6_mixedWithLists_35 : decode cX6_mixedWithLists 35 = .ok (.lstore 4, 2) := by decide +kernel
theorem dX6_mixedWithLists_37 : decode cX6_mixedWithLists 37 = .ok (.iinc 7 1, 3) := by decide +kernel
theorem dX6_mixedWithLists_40 : decode cX6_mixedWithLists 40 = .ok (.goto (-24), 3) := by decide +kernel
theorem dX6_mixedWithLists_43 : decode cX6_mixedWithLists 43 = .ok (.iconst 1, 1) := by decide +kernel
theorem dX6_mixedWithLists_44 : decode cX6_mixedWithLists 44 = .ok (.istore 7, 2) := by decide +kernel
theorem dX6_mixedWithLists_46 : decode cX6_mixedWithLists 46 = .ok (.iload 7, 2) := by decide +kernel
theorem dX6_mixedWithLists_48 : decode cX6_mixedWithLists 48 = .ok (.bipush 7, 2) := by decide +kernel
theorem dX6_mixedWithLists_50 : decode cX6_mixedWithLists 50 = .ok (.if_icmp .ge 52, 3) := by decide +kernel
theorem dX6_mixedWithLists_53 : decode cX6_mixedWithLists 53 = .ok (.aload_n 3, 1) := by decide +kernel
theorem dX6_mixedWithLists_54 : decode cX6_mixedWithLists 54 = .ok (.iload 7, 2) := by decide +kernel
theorem dX6_mixedWithLists_56 : decode cX6_mixedWithLists 56 = .ok (.invokevirtual 105, 3) := by decide +kernel
theorem dX6_mixedWithLists_59 : decode cX6_mixedWithLists 59 = .ok (.astore 8, 2) := by decide +kernel
theorem dX6_mixedWithLists_61 : decode cX6_mixedWithLists 61 = .ok (.aload 8, 2) := by decide +kernel
theorem dX6_mixedWithLists_63 : decode cX6_mixedWithLists 63 = .ok (.ifnull 25, 3) := by decide +kernel
theorem dX6_mixedWithLists_66 : decode cX6_mixedWithLists 66 = .ok (.lload 4, 2) := by decide +kernel
theorem dX6_mixedWithLists_68 : decode cX6_mixedWithLists 68 = .ok (.aload 8, 2) := by decide +kernel
theorem dX6_mixedWithLists_70 : decode cX6_mixedWithLists 70 = .ok (.getfield 232, 3) := by decide +kernel
theorem dX6_mixedWithLists_73 : decode cX6_mixedWithLists 73 = .ok (.invokestatic 224, 3) := by decide +kernel
theorem dX6_mixedWithLists_76 : decode cX6_mixedWithLists 76 = .ok (.lstore 4, 2) := by decide +kernel
theorem dX6_mixedWithLists_78 : decode cX6_mixedWithLists 78 = .ok (.aload 8, 2) := by decide +kernel
theorem dX6_mixedWithLists_80 : decode cX6_mixedWithLists 80 = .ok (.getfield 235, 3) := by decide +kernel
theorem dX6_mixedWithLists_83 : decode cX6_mixedWithLists 83 = .ok (.astore 8, 2) := by decide +kernel
theorem dX6_mixedWithLists_85 : decode cX6_mixedWithLists 85 = .ok (.goto (-24), 3) := by decide +kernel
theorem dX6_mixedWithLists_88 : decode cX6_mixedWithLists 88 = .ok (.lload 4, 2) := by decide +kernel
theorem dX6_mixedWithLists_90 : decode cX6_mixedWithLists 90 = .ok (.iconst (-1), 1) := by decide +kernel
theorem dX6_mixedWithLists_91 : decode cX6_mixedWithLists 91 = .ok (.invokestatic 224, 3) := by decide +kernel
theorem dX6_mixedWithLists_94 : decode cX6_mixedWithLists 94 = .ok (.lstore 4, 2) := by decide +kernel
theorem dX6_mixedWithLists_96 : decode cX6_mixedWithLists 96 = .ok (.iinc 7 1, 3) := by decide +kernel
theorem dX6_mixedWithLists_99 : decode cX6_mixedWithLists 99 = .ok (.goto (-53), 3) := by decide +kernel
theorem dX6_mixedWithLists_102 : decode cX6_mixedWithLists 102 = .ok (.lload 4, 2) := by decide +kernel
theorem dX6_mixedWithLists_104 : decode cX6_mixedWithLists 104 = .ok (.lreturn, 1) := by decide +kernel
theorem dX6_mixed_0 : decode cX6_mixed 0 = .ok (.ldc2_w 239, 3) := by decide +kernel
theorem dX6_mixed_3 : decode cX6_mixed 3 = .ok (.lload_n 0, 1) := by decide +kernel
theorem dX6_mixed_4 : decode cX6_mixed 4 = .ok (.lmul, 1) := by decide +kernel
theorem dX6_mixed_5 : decode cX6_mixed 5 = .ok (.iload_n 2, 1) := by decide +kernel
theorem dX6_mixed_6 : decode cX6_mixed 6 = .ok (.i2l, 1) := by decide +kernel
theorem dX6_mixed_7 : decode cX6_mixed 7 = .ok (.ladd, 1) := by decide +kernel
theorem dX6_mixed_8 : decode cX6_mixed 8 = .ok (.lreturn, 1) := by decide +kernel
theorem dX6_addBytes_0 : decode cX6_addBytes 0 = .ok (.bipush 24, 2) := by decide +kernel
theorem dX6_addBytes_2 : decode cX6_addBytes 2 = .ok (.istore_n 2, 1) := by decide +kernel
theorem dX6_addBytes_3 : decode cX6_addBytes 3 = .ok (.iload_n 2, 1) := by decide +kernel
theorem dX6_addBytes_4 : decode cX6_addBytes 4 = .ok (.ifCond .lt 42, 3) := by decide +kernel
theorem dX6_addBytes_7 : decode cX6_addBytes 7 = .ok (.aload_n 0, 1) := by decide +kernel
theorem dX6_addBytes_8 : decode cX6_addBytes 8 = .ok (.getfield 40, 3) := by decide +kernel
theorem dX6_addBytes_11 : decode cX6_addBytes 11 = .ok (.sipush 500, 3) := by decide +kernel
theorem dX6_addBytes_14 : decode cX6_addBytes 14 = .ok (.if_icmp .ge 26, 3) := by decide +kernel
theorem dX6_addBytes_17 : decode cX6_addBytes 17 = .ok (.aload_n 0, 1) := by decide +kernel
theorem dX6_addBytes_18 : decode cX6_addBytes 18 = .ok (.getfield 9, 3) := by decide +kernel
theorem dX6_addBytes_21 : decode cX6_addBytes 21 = .ok (.aload_n 0, 1) := by decide +kernel
theorem dX6_addBytes_22 : decode cX6_addBytes 22 = .ok (.getfield 40, 3) := by decide +kernel
theorem dX6_addBytes_25 : decode cX6_addBytes 25 = .ok (.iload_n 1, 1) := by decide +kernel
theorem dX6_addBytes_26 : decode cX6_addBytes 26 = .ok (.iload_n 2, 1) := by decide +kernel
theorem dX6_addBytes_27 : decode cX6_addBytes 27 = .ok (.ishr, 1) := by decide +kernel
theorem dX6_addBytes_28 : decode cX6_addBytes 28 = .ok (.i2b, 1) := by decide +kernel
theorem dX6_addBytes_29 : decode cX6_addBytes 29 = .ok (.bastore, 1) := by decide +kernel
theorem dX6_addBytes_30 : decode cX6_addBytes 30 = .ok (.aload_n 0, 1) := by decide +kernel
theorem dX6_addBytes_31 : decode cX6_addBytes 31 = .ok (.dup, 1) := by decide +kernel
theorem dX6_addBytes_32 : decode cX6_addBytes 32 = .ok (.getfield 40, 3) := by decide +kernel
theorem dX6_addBytes_35 : decode cX6_addBytes 35 = .ok (.iconst 1, 1) := by decide +kernel
theorem dX6_addBytes_36 : decode cX6_addBytes 36 = .ok (.iadd, 1) := by decide +kernel
theorem dX6_addBytes_37 : decode cX6_addBytes 37 = .ok (.putfield 40, 3) := by decide +kernel
theorem dX6_addBytes_40 : decode cX6_addBytes 40 = .ok (.iinc 2 (-8), 3) := by decide +kernel
theorem dX6_addBytes_43 : decode cX6_addBytes 43 = .ok (.goto (-40), 3) := by decide +kernel
theorem dX6_addBytes_46 : decode cX6_addBytes 46 = .ok (.return_, 1) := by decide +kernel
theorem dX6_needVersion_0 : decode cX6_needVersion 0 = .ok (.aload_n 0, 1) := by decide +kernel
theorem dX6_needVersion_1 : decode cX6_needVersion 1 = .ok (.getfield 22, 3) := by decide +kernel
theorem dX6_needVersion_4 : decode cX6_needVersion 4 = .ok (.aload_n 0, 1) := by decide +kernel
theorem dX6_needVersion_5 : decode cX6_needVersion 5 = .ok (.getfield 47, 3) := by decide +kernel
theorem dX6_needVersion_8 : decode cX6_needVersion 8 = .ok (.aaload, 1) := by decide +kernel
theorem dX6_needVersion_9 : decode cX6_needVersion 9 = .ok (.astore_n 2, 1) := by decide +kernel
theorem dX6_needVersion_10 : decode cX6_needVersion 10 = .ok (.iload_n 1, 1) := by decide +kernel
theorem dX6_needVersion_11 : decode cX6_needVersion 11 = .ok (.ifCond .lt 11, 3) := by decide +kernel
theorem dX6_needVersion_14 : decode cX6_needVersion 14 = .ok (.iload_n 1, 1) := by decide +kernel
theorem dX6_needVersion_15 : decode cX6_needVersion 15 = .ok (.aload_n 2, 1) := by decide +kernel
theorem dX6_needVersion_16 : decode cX6_needVersion 16 = .ok (.getfield 87, 3) := by decide +kernel
theorem dX6_needVersion_19 : decode cX6_needVersion 19 = .ok (.if_icmp .lt 13, 3) := by decide +kernel
theorem dX6_needVersion_22 : decode cX6_needVersion 22 = .ok (.new 241, 3) := by decide +kernel
theorem dX6_needVersion_25 : decode cX6_needVersion 25 = .ok (.dup, 1) := by decide +kernel
theorem dX6_needVersion_26 : decode cX6_needVersion 26 = .ok (.ldc 243, 2) := by decide +kernel
theorem dX6_needVersion_28 : decode cX6_needVersion 28 = .ok (.invokespecial 245, 3) := by decide +kernel
theorem dX6_needVersion_31 : decode cX6_needVersion 31 = .ok (.athrow, 1) := by decide +kernel
theorem dX6_needVersion_32 : decode cX6_needVersion 32 = .ok (.aload_n 2, 1) := by decide +kernel
theorem dX6_needVersion_33 : decode cX6_needVersion 33 = .ok (.getfield 181, 3) := by decide +kernel
theorem dX6_needVersion_36 : decode cX6_needVersion 36 = .ok (.iload_n 1, 1) := by decide +kernel
theorem dX6_needVersion_37 : decode cX6_needVersion 37 = .ok (.aaload, 1) := by decide +kernel
theorem dX6_needVersion_38 : decode cX6_needVersion 38 = .ok (.areturn, 1) := by decide +kernel
theorem dX6_needRoom_0 : decode cX6_needRoom 0 = .ok (.aload_n 0, 1) := by decide +kernel
theorem dX6_needRoom_1 : decode cX6_needRoom 1 = .ok (.getfield 22, 3) := by decide +kernel
theorem dX6_needRoom_4 : decode cX6_needRoom 4 = .ok (.aload_n 0, 1) := by decide +kernel
theorem dX6_needRoom_5 : decode cX6_needRoom 5 = .ok (.getfield 47, 3) := by decide +kernel
theorem dX6_needRoom_8 : decode cX6_needRoom 8 = .ok (.aaload, 1) := by decide +kernel
theorem dX6_needRoom_9 : decode cX6_needRoom 9 = .ok (.getfield 87, 3) := by decide +kernel
theorem dX6_needRoom_12 : decode cX6_needRoom 12 = .ok (.bipush 64, 2) := by decide +kernel
theorem dX6_needRoom_14 : decode cX6_needRoom 14 = .ok (.if_icmp .lt 13, 3) := by decide +kernel
theorem dX6_needRoom_17 : decode cX6_needRoom 17 = .ok (.new 208, 3) := by decide +kernel
theorem dX6_needRoom_20 : decode cX6_needRoom 20 = .ok (.dup, 1) := by decide +kernel
theorem dX6_needRoom_21 : decode cX6_needRoom 21 = .ok (.ldc 246, 2) := by decide +kernel
theorem dX6_needRoom_23 : decode cX6_needRoom 23 = .ok (.invokespecial 210, 3) := by decide +kernel
theorem dX6_needRoom_26 : decode cX6_needRoom 26 = .ok (.athrow, 1) := by decide +kernel
theorem dX6_needRoom_27 : decode cX6_needRoom 27 = .ok (.return_, 1) := by decide +kernel
theorem dX6_sameRows_0 : decode cX6_sameRows 0 = .ok (.iload_n 1, 1) := by decide +kernel
theorem dX6_sameRows_1 : decode cX6_sameRows 1 = .ok (.iload_n 2, 1) := by decide +kernel
theorem dX6_sameRows_2 : decode cX6_sameRows 2 = .ok (.if_icmp .eq 5, 3) := by decide +kernel
theorem dX6_sameRows_5 : decode cX6_sameRows 5 = .ok (.iconst 0, 1) := by decide +kernel
theorem dX6_sameRows_6 : decode cX6_sameRows 6 = .ok (.ireturn, 1) := by decide +kernel
theorem dX6_sameRows_7 : decode cX6_sameRows 7 = .ok (.iconst 0, 1) := by decide +kernel
theorem dX6_sameRows_8 : decode cX6_sameRows 8 = .ok (.istore_n 3, 1) := by decide +kernel
theorem dX6_sameRows_9 : decode cX6_sameRows 9 = .ok (.iload_n 3, 1) := by decide +kernel
theorem dX6_sameRows_10 : decode cX6_sameRows 10 = .ok (.iload_n 1, 1) := by decide +kernel
theorem dX6_sameRows_11 : decode cX6_sameRows 11 = .ok (.if_icmp .ge 26, 3) := by decide +kernel
theorem dX6_sameRows_14 : decode cX6_sameRows 14 = .ok (.aload_n 0, 1) := by decide +kernel
theorem dX6_sameRows_15 : decode cX6_sameRows 15 = .ok (.getfield 33, 3) := by decide +kernel
theorem dX6_sameRows_18 : decode cX6_sameRows 18 = .ok (.iload_n 3, 1) := by decide +kernel
theorem dX6_sameRows_19 : decode cX6_sameRows 19 = .ok (.iaload, 1) := by decide +kernel
theorem dX6_sameRows_20 : decode cX6_sameRows 20 = .ok (.aload_n 0, 1) := by decide +kernel
theorem dX6_sameRows_21 : decode cX6_sameRows 21 = .ok (.getfield 37, 3) := by decide +kernel
theorem dX6_sameRows_24 : decode cX6_sameRows 24 = .ok (.iload_n 3, 1) := by decide +kernel
theorem dX6_sameRows_25 : decode cX6_sameRows 25 = .ok (.iaload, 1) := by decide +kernel
theorem dX6_sameRows_26 : decode cX6_sameRows 26 = .ok (.if_icmp .eq 5, 3) := by decide +kernel
theorem dX6_sameRows_29 : decode cX6_sameRows 29 = .ok (.iconst 0, 1) := by decide +kernel
theorem dX6_sameRows_30 : decode cX6_sameRows 30 = .ok (.ireturn, 1) := by decide +kernel
theorem dX6_sameRows_31 : decode cX6_sameRows 31 = .ok (.iinc 3 1, 3) := by decide +kernel
theorem dX6_sameRows_34 : decode cX6_sameRows 34 = .ok (.goto (-25), 3) := by decide +kernel
theorem dX6_sameRows_37 : decode cX6_sameRows 37 = .ok (.iconst 1, 1) := by decide +kernel
theorem dX6_sameRows_38 : decode cX6_sameRows 38 = .ok (.ireturn, 1) := by decide +kernel
theorem dX6_following_0 : decode cX6_following 0 = .ok (.iload_n 0, 1) := by decide +kernel
theorem dX6_following_1 : decode cX6_following 1 = .ok (.iconst 1, 1) := by decide +kernel
theorem dX6_following_2 : decode cX6_following 2 = .ok (.iadd, 1) := by decide +kernel
theorem dX6_following_3 : decode cX6_following 3 = .ok (.bipush 10, 2) := by decide +kernel
theorem dX6_following_5 : decode cX6_following 5 = .ok (.irem, 1) := by decide +kernel
theorem dX6_following_6 : decode cX6_following 6 = .ok (.ireturn, 1) := by decide +kernel
theorem dX6_freshDraft_0 : decode cX6_freshDraft 0 = .ok (.aload_n 0, 1) := by decide +kernel
theorem dX6_freshDraft_1 : decode cX6_freshDraft 1 = .ok (.getfield 22, 3) := by decide +kernel
theorem dX6_freshDraft_4 : decode cX6_freshDraft 4 = .ok (.aload_n 0, 1) := by decide +kernel
theorem dX6_freshDraft_5 : decode cX6_freshDraft 5 = .ok (.getfield 47, 3) := by decide +kernel
theorem dX6_freshDraft_8 : decode cX6_freshDraft 8 = .ok (.invokestatic 72, 3) := by decide +kernel
theorem dX6_freshDraft_11 : decode cX6_freshDraft 11 = .ok (.aaload, 1) := by decide +kernel
theorem dX6_freshDraft_12 : decode cX6_freshDraft 12 = .ok (.astore_n 1, 1) := by decide +kernel
theorem dX6_freshDraft_13 : decode cX6_freshDraft 13 = .ok (.aload_n 1, 1) := by decide +kernel
theorem dX6_freshDraft_14 : decode cX6_freshDraft 14 = .ok (.aload_n 0, 1) := by decide +kernel
theorem dX6_freshDraft_15 : decode cX6_freshDraft 15 = .ok (.getfield 22, 3) := by decide +kernel
theorem dX6_freshDraft_18 : decode cX6_freshDraft 18 = .ok (.aload_n 0, 1) := by decide +kernel
theorem dX6_freshDraft_19 : decode cX6_freshDraft 19 = .ok (.getfield 47, 3) := by decide +kernel
theorem dX6_freshDraft_22 : decode cX6_freshDraft 22 = .ok (.aaload, 1) := by decide +kernel
theorem dX6_freshDraft_23 : decode cX6_freshDraft 23 = .ok (.invokevirtual 248, 3) := by decide +kernel
theorem dX6_freshDraft_26 : decode cX6_freshDraft 26 = .ok (.aload_n 1, 1) := by decide +kernel
theorem dX6_freshDraft_27 : decode cX6_freshDraft 27 = .ok (.areturn, 1) := by decide +kernel
theorem dX6_keepDraft_0 : decode cX6_keepDraft 0 = .ok (.aload_n 0, 1) := by decide +kernel
theorem dX6_keepDraft_1 : decode cX6_keepDraft 1 = .ok (.aload_n 0, 1) := by decide +kernel
theorem dX6_keepDraft_2 : decode cX6_keepDraft 2 = .ok (.getfield 47, 3) := by decide +kernel
theorem dX6_keepDraft_5 : decode cX6_keepDraft 5 = .ok (.invokestatic 72, 3) := by decide +kernel
theorem dX6_keepDraft_8 : decode cX6_keepDraft 8 = .ok (.putfield 47, 3) := by decide +kernel
theorem dX6_keepDraft_11 : decode cX6_keepDraft 11 = .ok (.aload_n 0, 1) := by decide +kernel
theorem dX6_keepDraft_12 : decode cX6_keepDraft 12 = .ok (.getfield 50, 3) := by decide +kernel
theorem dX6_keepDraft_15 : decode cX6_keepDraft 15 = .ok (.bipush 8, 2) := by decide +kernel
theorem dX6_keepDraft_17 : decode cX6_keepDraft 17 = .ok (.if_icmp .ge 13, 3) := by decide +kernel
theorem dX6_keepDraft_20 : decode cX6_keepDraft 20 = .ok (.aload_n 0, 1) := by decide +kernel
theorem dX6_keepDraft_21 : decode cX6_keepDraft 21 = .ok (.dup, 1) := by decide +kernel
theorem dX6_keepDraft_22 : decode cX6_keepDraft 22 = .ok (.getfield 50, 3) := by decide +kernel
theorem dX6_keepDraft_25 : decode cX6_keepDraft 25 = .ok (.iconst 1, 1) := by decide +kernel
theorem dX6_keepDraft_26 : decode cX6_keepDraft 26 = .ok (.iadd, 1) := by decide +kernel
theorem dX6_keepDraft_27 : decode cX6_keepDraft 27 = .ok (.putfield 50, 3) := by decide +kernel
theorem dX6_keepDraft_30 : decode cX6_keepDraft 30 = .ok (.return_, 1) := by decide +kernel
theorem dX7_init_0 : decode cX7_init 0 = .ok (.aload_n 0, 1) := by decide +kernel
theorem dX7_init_1 : decode cX7_init 1 = .ok (.invokespecial 1, 3) := by decide +kernel
theorem dX7_init_4 : decode cX7_init 4 = .ok (.aload_n 0, 1) := by decide +kernel
theorem dX7_init_5 : decode cX7_init 5 = .ok (.sipush 2970, 3) := by decide +kernel
theorem dX7_init_8 : decode cX7_init 8 = .ok (.newarray .int, 2) := by decide +kernel
theorem dX7_init_10 : decode cX7_init 10 = .ok (.putfield 7, 3) := by decide +kernel
theorem dX7_init_13 : decode cX7_init 13 = .ok (.aload_n 0, 1) := by decide +kernel
theorem dX7_init_14 : decode cX7_init 14 = .ok (.sipush 330, 3) := by decide +kernel
theorem dX7_init_17 : decode cX7_init 17 = .ok (.newarray .int, 2) := by decide +kernel
theorem dX7_init_19 : decode cX7_init 19 = .ok (.putfield 13, 3) := by decide +kernel
theorem dX7_init_22 : decode cX7_init 22 = .ok (.aload_n 0, 1) := by decide +kernel
theorem dX7_init_23 : decode cX7_init 23 = .ok (.sipush 384, 3) := by decide +kernel
theorem dX7_init_26 : decode cX7_init 26 = .ok (.newarray .int, 2) := by decide +kernel
theorem dX7_init_28 : decode cX7_init 28 = .ok (.putfield 16, 3) := by decide +kernel
theorem dX7_init_31 : decode cX7_init 31 = .ok (.aload_n 0, 1) := by decide +kernel
theorem dX7_init_32 : decode cX7_init 32 = .ok (.bipush 6, 2) := by decide +kernel
theorem dX7_init_34 : decode cX7_init 34 = .ok (.newarray .int, 2) := by decide +kernel
theorem dX7_init_36 : decode cX7_init 36 = .ok (.putfield 19, 3) := by decide +kernel
theorem dX7_init_39 : decode cX7_init 39 = .ok (.aload_n 0, 1) := by decide +kernel
theorem dX7_init_40 : decode cX7_init 40 = .ok (.bipush 64, 2) := by decide +kernel
theorem dX7_init_42 : decode cX7_init 42 = .ok (.newarray .int, 2) := by decide +kernel
theorem dX7_init_44 : decode cX7_init 44 = .ok (.putfield 22, 3) := by decide +kernel
theorem dX7_init_47 : decode cX7_init 47 = .ok (.aload_n 0, 1) := by decide +kernel
theorem dX7_init_48 : decode cX7_init 48 = .ok (.bipush 64, 2) := by decide +kernel
theorem dX7_init_50 : decode cX7_init 50 = .ok (.newarray .int, 2) := by decide +kernel
theorem dX7_init_52 : decode cX7_init 52 = .ok (.putfield 25, 3) := by decide +kernel
theorem dX7_init_55 : decode cX7_init 55 = .ok (.aload_n 0, 1) := by decide +kernel
theorem dX7_init_56 : decode cX7_init 56 = .ok (.bipush 64, 2) := by decide +kernel
theorem dX7_init_58 : decode cX7_init 58 = .ok (.newarray .int, 2) := by decide +kernel
theorem dX7_init_60 : decode cX7_init 60 = .ok (.putfield 28, 3) := by decide +kernel
theorem dX7_init_63 : decode cX7_init 63 = .ok (.aload_n 0, 1) := by decide +kernel
theorem dX7_init_64 : decode cX7_init 64 = .ok (.sipush 128, 3) := by decide +kernel
theorem dX7_init_67 : decode cX7_init 67 = .ok (.newarray .int, 2) := by decide +kernel
theorem dX7_init_69 : decode cX7_init 69 = .ok (.putfield 31, 3) := by decide +kernel
theorem dX7_init_72 : decode cX7_init 72 = .ok (.aload_n 0, 1) := by decide +kernel
theorem dX7_init_73 : decode cX7_init 73 = .ok (.sipush 500, 3) := by decide +kernel
theorem dX7_init_76 : decode cX7_init 76 = .ok (.newarray .int, 2) := by decide +kernel
theorem dX7_init_78 : decode cX7_init 78 = .ok (.putfield 34, 3) := by decide +kernel
theorem dX7_init_81 : decode cX7_init 81 = .ok (.aload_n 0, 1) := by decide +kernel
theorem dX7_init_82 : decode cX7_init 82 = .ok (.iconst (-1), 1) := by decide +kernel
theorem dX7_init_83 : decode cX7_init 83 = .ok (.putfield 37, 3) := by decide +kernel
theorem dX7_init_86 : decode cX7_init 86 = .ok (.aload_n 0, 1) := by decide +kernel
theorem dX7_init_87 : decode cX7_init 87 = .ok (.invokevirtual 41, 3) := by decide +kernel
theorem dX7_init_90 : decode cX7_init 90 = .ok (.return_, 1) := by decide +kernel
theorem dX7_thrown_0 : decode cX7_thrown 0 = .ok (.aload_n 0, 1) := by decide +kernel
theorem dX7_thrown_1 : decode cX7_thrown 1 = .ok (.getfield 44, 3) := by decide +kernel
theorem dX7_thrown_4 : decode cX7_thrown 4 = .ok (.ireturn, 1) := by decide +kernel
theorem dX7_isIn_0 : decode cX7_isIn 0 = .ok (.iload_n 0, 1) := by decide +kernel
theorem dX7_isIn_1 : decode cX7_isIn 1 = .ok (.iload_n 1, 1) := by decide +kernel
theorem dX7_isIn_2 : decode cX7_isIn 2 = .ok (.if_icmp .lt 12, 3) := by decide +kernel
theorem dX7_isIn_5 : decode cX7_isIn 5 = .ok (.iload_n 0, 1) := by decide +kernel
theorem dX7_isIn_6 : decode cX7_isIn 6 = .ok (.iload_n 2, 1) := by decide +kernel
theorem dX7_isIn_7 : decode cX7_isIn 7 = .ok (.if_icmp .gt 7, 3) := by decide +kernel
theorem dX7_isIn_10 : decode cX7_isIn 10 = .ok (.iconst 1, 1) := by decide +kernel
theorem dX7_isIn_11 : decode cX7_isIn 11 = .ok (.goto 4, 3) := by decide +kernel
theorem dX7_isIn_14 : decode cX7_isIn 14 = .ok (.iconst 0, 1) := by decide +kernel
theorem dX7_isIn_15 : decode cX7_isIn 15 = .ok (.ireturn, 1) := by decide +kernel
theorem dX7_get_0 : decode cX7_get 0 = .ok (.aload_n 0, 1) := by decide +kernel
theorem dX7_get_1 : decode cX7_get 1 = .ok (.getfield 7, 3) := by decide +kernel
theorem dX7_get_4 : decode cX7_get 4 = .ok (.sipush 330, 3) := by decide +kernel
theorem dX7_get_7 : decode cX7_get 7 = .ok (.aload_n 0, 1) := by decide +kernel
theorem dX7_get_8 : decode cX7_get 8 = .ok (.getfield 47, 3) := by decide +kernel
theorem dX7_get_11 : decode cX7_get 11 = .ok (.imul, 1) := by decide +kernel
theorem dX7_get_12 : decode cX7_get 12 = .ok (.iload_n 1, 1) := by decide +kernel
theorem dX7_get_13 : decode cX7_get 13 = .ok (.iadd, 1) := by decide +kernel
theorem dX7_get_14 : decode cX7_get 14 = .ok (.iaload, 1) := by decide +kernel
theorem dX7_get_15 : decode cX7_get 15 = .ok (.ireturn, 1) := by decide +kernel
theorem dX7_put_0 : decode cX7_put 0 = .ok (.aload_n 0, 1) := by decide +kernel
theorem dX7_put_1 : decode cX7_put 1 = .ok (.getfield 7, 3) := by decide +kernel
theorem dX7_put_4 : decode cX7_put 4 = .ok (.sipush 330, 3) := by decide +kernel
theorem dX7_put_7 : decode cX7_put 7 = .ok (.aload_n 0, 1) := by decide +kernel
theorem dX7_put_8 : decode cX7_put 8 = .ok (.getfield 47, 3) := by decide +kernel
theorem dX7_put_11 : decode cX7_put 11 = .ok (.imul, 1) := by decide +kernel
theorem dX7_put_12 : decode cX7_put 12 = .ok (.iload_n 1, 1) := by decide +kernel
theorem dX7_put_13 : decode cX7_put 13 = .ok (.iadd, 1) := by decide +kernel
theorem dX7_put_14 : decode cX7_put 14 = .ok (.iload_n 2, 1) := by decide +kernel
theorem dX7_put_15 : decode cX7_put 15 = .ok (.iastore, 1) := by decide +kernel
theorem dX7_put_16 : decode cX7_put 16 = .ok (.return_, 1) := by decide +kernel
theorem dX7_of_0 : decode cX7_of 0 = .ok (.aload_n 0, 1) := by decide +kernel
theorem dX7_of_1 : decode cX7_of 1 = .ok (.bipush 10, 2) := by decide +kernel
theorem dX7_of_3 : decode cX7_of 3 = .ok (.iconst 5, 1) := by decide +kernel
theorem dX7_of_4 : decode cX7_of 4 = .ok (.iload_n 1, 1) := by decide +kernel
theorem dX7_of_5 : decode cX7_of 5 = .ok (.imul, 1) := by decide +kernel
theorem dX7_of_6 : decode cX7_of 6 = .ok (.iadd, 1) := by decide +kernel
theorem dX7_of_7 : decode cX7_of 7 = .ok (.iload_n 2, 1) := by decide +kernel
theorem dX7_of_8 : decode cX7_of 8 = .ok (.iadd, 1) := by decide +kernel
theorem dX7_of_9 : decode cX7_of 9 = .ok (.invokevirtual 50, 3) := by decide +kernel
theorem dX7_of_12 : decode cX7_of 12 = .ok (.ireturn, 1) := by decide +kernel
