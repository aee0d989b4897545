theorem dX7_find_5 : decode cX7_find 5 = .ok (.aload_n 0, 1) := by decide +kernel
theorem dX7_find_6 : decode cX7_find 6 = .ok (.aload_n 0, 1) := by decide +kernel
theorem dX7_find_7 : decode cX7_find 7 = .ok (.iload_n 1, 1) := by decide +kernel
theorem dX7_find_8 : decode cX7_find 8 = .ok (.invokevirtual 238, 3) := by decide +kernel
theorem dX7_find_11 : decode cX7_find 11 = .ok (.iconst 1, 1) := by decide +kernel
theorem dX7_find_12 : decode cX7_find 12 = .ok (.invokevirtual 214, 3) := by decide +kernel
theorem dX7_find_15 : decode cX7_find 15 = .ok (.ifCond .ne 5, 3) := by decide +kernel
theorem dX7_find_18 : decode cX7_find 18 = .ok (.iconst 0, 1) := by decide +kernel
theorem dX7_find_19 : decode cX7_find 19 = .ok (.ireturn, 1) := by decide +kernel
theorem dX7_find_20 : decode cX7_find 20 = .ok (.aload_n 0, 1) := by decide +kernel
theorem dX7_find_21 : decode cX7_find 21 = .ok (.iload_n 1, 1) := by decide +kernel
theorem dX7_find_22 : decode cX7_find 22 = .ok (.invokevirtual 128, 3) := by decide +kernel
theorem dX7_find_25 : decode cX7_find 25 = .ok (.istore_n 3, 1) := by decide +kernel
theorem dX7_find_26 : decode cX7_find 26 = .ok (.iconst 0, 1) := by decide +kernel
theorem dX7_find_27 : decode cX7_find 27 = .ok (.istore 4, 2) := by decide +kernel
theorem dX7_find_29 : decode cX7_find 29 = .ok (.iload 4, 2) := by decide +kernel
theorem dX7_find_31 : decode cX7_find 31 = .ok (.iload_n 3, 1) := by decide +kernel
theorem dX7_find_32 : decode cX7_find 32 = .ok (.if_icmp .ge 23, 3) := by decide +kernel
theorem dX7_find_35 : decode cX7_find 35 = .ok (.aload_n 0, 1) := by decide +kernel
theorem dX7_find_36 : decode cX7_find 36 = .ok (.getfield 25, 3) := by decide +kernel
theorem dX7_find_39 : decode cX7_find 39 = .ok (.iload 4, 2) := by decide +kernel
theorem dX7_find_41 : decode cX7_find 41 = .ok (.iaload, 1) := by decide +kernel
theorem dX7_find_42 : decode cX7_find 42 = .ok (.iload_n 2, 1) := by decide +kernel
theorem dX7_find_43 : decode cX7_find 43 = .ok (.if_icmp .ne 6, 3) := by decide +kernel
theorem dX7_find_46 : decode cX7_find 46 = .ok (.iload 4, 2) := by decide +kernel
theorem dX7_find_48 : decode cX7_find 48 = .ok (.ireturn, 1) := by decide +kernel
theorem dX7_find_49 : decode cX7_find 49 = .ok (.iinc 4 1, 3) := by decide +kernel
theorem dX7_find_52 : decode cX7_find 52 = .ok (.goto (-23), 3) := by decide +kernel
theorem dX7_find_55 : decode cX7_find 55 = .ok (.iconst (-1), 1) := by decide +kernel
theorem dX7_find_56 : decode cX7_find 56 = .ok (.ireturn, 1) := by decide +kernel
theorem dX7_alike_0 : decode cX7_alike 0 = .ok (.aload_n 0, 1) := by decide +kernel
theorem dX7_alike_1 : decode cX7_alike 1 = .ok (.iconst 0, 1) := by decide +kernel
theorem dX7_alike_2 : decode cX7_alike 2 = .ok (.putfield 44, 3) := by decide +kernel
theorem dX7_alike_5 : decode cX7_alike 5 = .ok (.aload_n 0, 1) := by decide +kernel
theorem dX7_alike_6 : decode cX7_alike 6 = .ok (.aload_n 0, 1) := by decide +kernel
theorem dX7_alike_7 : decode cX7_alike 7 = .ok (.iload_n 1, 1) := by decide +kernel
theorem dX7_alike_8 : decode cX7_alike 8 = .ok (.invokevirtual 238, 3) := by decide +kernel
theorem dX7_alike_11 : decode cX7_alike 11 = .ok (.ifCond .eq 15, 3) := by decide +kernel
theorem dX7_alike_14 : decode cX7_alike 14 = .ok (.aload_n 0, 1) := by decide +kernel
theorem dX7_alike_15 : decode cX7_alike 15 = .ok (.iload_n 2, 1) := by decide +kernel
theorem dX7_alike_16 : decode cX7_alike 16 = .ok (.invokevirtual 238, 3) := by decide +kernel
theorem dX7_alike_19 : decode cX7_alike 19 = .ok (.ifCond .eq 7, 3) := by decide +kernel
theorem dX7_alike_22 : decode cX7_alike 22 = .ok (.iconst 1, 1) := by decide +kernel
theorem dX7_alike_23 : decode cX7_alike 23 = .ok (.goto 4, 3) := by decide +kernel
theorem dX7_alike_26 : decode cX7_alike 26 = .ok (.iconst 0, 1) := by decide +kernel
theorem dX7_alike_27 : decode cX7_alike 27 = .ok (.iconst 1, 1) := by decide +kernel
theorem dX7_alike_28 : decode cX7_alike 28 = .ok (.invokevirtual 214, 3) := by decide +kernel
theorem dX7_alike_31 : decode cX7_alike 31 = .ok (.ifCond .ne 5, 3) := by decide +kernel
theorem dX7_alike_34 : decode cX7_alike 34 = .ok (.iconst 0, 1) := by decide +kernel
theorem dX7_alike_35 : decode cX7_alike 35 = .ok (.ireturn, 1) := by decide +kernel
theorem dX7_alike_36 : decode cX7_alike 36 = .ok (.aload_n 0, 1) := by decide +kernel
theorem dX7_alike_37 : decode cX7_alike 37 = .ok (.iload_n 1, 1) := by decide +kernel
theorem dX7_alike_38 : decode cX7_alike 38 = .ok (.invokevirtual 128, 3) := by decide +kernel
theorem dX7_alike_41 : decode cX7_alike 41 = .ok (.istore_n 3, 1) := by decide +kernel
theorem dX7_alike_42 : decode cX7_alike 42 = .ok (.aload_n 0, 1) := by decide +kernel
theorem dX7_alike_43 : decode cX7_alike 43 = .ok (.iload_n 2, 1) := by decide +kernel
theorem dX7_alike_44 : decode cX7_alike 44 = .ok (.aload_n 0, 1) := by decide +kernel
theorem dX7_alike_45 : decode cX7_alike 45 = .ok (.getfield 28, 3) := by decide +kernel
theorem dX7_alike_48 : decode cX7_alike 48 = .ok (.invokevirtual 124, 3) := by decide +kernel
theorem dX7_alike_51 : decode cX7_alike 51 = .ok (.iload_n 3, 1) := by decide +kernel
theorem dX7_alike_52 : decode cX7_alike 52 = .ok (.if_icmp .ne 7, 3) := by decide +kernel
theorem dX7_alike_55 : decode cX7_alike 55 = .ok (.iconst 1, 1) := by decide +kernel
theorem dX7_alike_56 : decode cX7_alike 56 = .ok (.goto 4, 3) := by decide +kernel
theorem dX7_alike_59 : decode cX7_alike 59 = .ok (.iconst 0, 1) := by decide +kernel
theorem dX7_alike_60 : decode cX7_alike 60 = .ok (.istore 4, 2) := by decide +kernel
theorem dX7_alike_62 : decode cX7_alike 62 = .ok (.iconst 0, 1) := by decide +kernel
theorem dX7_alike_63 : decode cX7_alike 63 = .ok (.istore 5, 2) := by decide +kernel
theorem dX7_alike_65 : decode cX7_alike 65 = .ok (.iload 5, 2) := by decide +kernel
theorem dX7_alike_67 : decode cX7_alike 67 = .ok (.iload_n 3, 1) := by decide +kernel
theorem dX7_alike_68 : decode cX7_alike 68 = .ok (.if_icmp .ge 38, 3) := by decide +kernel
theorem dX7_alike_71 : decode cX7_alike 71 = .ok (.iload 4, 2) := by decide +kernel
theorem dX7_alike_73 : decode cX7_alike 73 = .ok (.ifCond .eq 33, 3) := by decide +kernel
theorem dX7_alike_76 : decode cX7_alike 76 = .ok (.aload_n 0, 1) := by decide +kernel
theorem dX7_alike_77 : decode cX7_alike 77 = .ok (.getfield 25, 3) := by decide +kernel
theorem dX7_alike_80 : decode cX7_alike 80 = .ok (.iload 5, 2) := by decide +kernel
theorem dX7_alike_82 : decode cX7_alike 82 = .ok (.iaload, 1) := by decide +kernel
theorem dX7_alike_83 : decode cX7_alike 83 = .ok (.aload_n 0, 1) := by decide +kernel
theorem dX7_alike_84 : decode cX7_alike 84 = .ok (.getfield 28, 3) := by decide +kernel
theorem dX7_alike_87 : decode cX7_alike 87 = .ok (.iload 5, 2) := by decide +kernel
theorem dX7_alike_89 : decode cX7_alike 89 = .ok (.iaload, 1) := by decide +kernel
theorem dX7_alike_90 : decode cX7_alike 90 = .ok (.if_icmp .ne 7, 3) := by decide +kernel
theorem dX7_alike_93 : decode cX7_alike 93 = .ok (.iconst 1, 1) := by decide +kernel
theorem dX7_alike_94 : decode cX7_alike 94 = .ok (.goto 4, 3) := by decide +kernel
theorem dX7_alike_97 : decode cX7_alike 97 = .ok (.iconst 0, 1) := by decide +kernel
theorem dX7_alike_98 : decode cX7_alike 98 = .ok (.istore 4, 2) := by decide +kernel
theorem dX7_alike_100 : decode cX7_alike 100 = .ok (.iinc 5 1, 3) := by decide +kernel
theorem dX7_alike_103 : decode cX7_alike 103 = .ok (.goto (-38), 3) := by decide +kernel
theorem dX7_alike_106 : decode cX7_alike 106 = .ok (.iload 4, 2) := by decide +kernel
theorem dX7_alike_108 : decode cX7_alike 108 = .ok (.ireturn, 1) := by decide +kernel
theorem dX7_common_0 : decode cX7_common 0 = .ok (.aload_n 0, 1) := by decide +kernel
theorem dX7_common_1 : decode cX7_common 1 = .ok (.iconst 0, 1) := by decide +kernel
theorem dX7_common_2 : decode cX7_common 2 = .ok (.putfield 44, 3) := by decide +kernel
theorem dX7_common_5 : decode cX7_common 5 = .ok (.aload_n 0, 1) := by decide +kernel
theorem dX7_common_6 : decode cX7_common 6 = .ok (.aload_n 0, 1) := by decide +kernel
theorem dX7_common_7 : decode cX7_common 7 = .ok (.iload_n 1, 1) := by decide +kernel
theorem dX7_common_8 : decode cX7_common 8 = .ok (.invokevirtual 238, 3) := by decide +kernel
theorem dX7_common_11 : decode cX7_common 11 = .ok (.ifCond .eq 15, 3) := by decide +kernel
theorem dX7_common_14 : decode cX7_common 14 = .ok (.aload_n 0, 1) := by decide +kernel
theorem dX7_common_15 : decode cX7_common 15 = .ok (.iload_n 2, 1) := by decide +kernel
theorem dX7_common_16 : decode cX7_common 16 = .ok (.invokevirtual 238, 3) := by decide +kernel
theorem dX7_common_19 : decode cX7_common 19 = .ok (.ifCond .eq 7, 3) := by decide +kernel
theorem dX7_common_22 : decode cX7_common 22 = .ok (.iconst 1, 1) := by decide +kernel
theorem dX7_common_23 : decode cX7_common 23 = .ok (.goto 4, 3) := by decide +kernel
theorem dX7_common_26 : decode cX7_common 26 = .ok (.iconst 0, 1) := by decide +kernel
theorem dX7_common_27 : decode cX7_common 27 = .ok (.iconst 1, 1) := by decide +kernel
theorem dX7_common_28 : decode cX7_common 28 = .ok (.invokevirtual 214, 3) := by decide +kernel
theorem dX7_common_31 : decode cX7_common 31 = .ok (.ifCond .ne 5, 3) := by decide +kernel
theorem dX7_common_34 : decode cX7_common 34 = .ok (.iconst 0, 1) := by decide +kernel
theorem dX7_common_35 : decode cX7_common 35 = .ok (.ireturn, 1) := by decide +kernel
theorem dX7_common_36 : decode cX7_common 36 = .ok (.iload_n 1, 1) := by decide +kernel
theorem dX7_common_37 : decode cX7_common 37 = .ok (.istore_n 3, 1) := by decide +kernel
theorem dX7_common_38 : decode cX7_common 38 = .ok (.iload_n 2, 1) := by decide +kernel
theorem dX7_common_39 : decode cX7_common 39 = .ok (.istore 4, 2) := by decide +kernel
theorem dX7_common_41 : decode cX7_common 41 = .ok (.iload_n 3, 1) := by decide +kernel
theorem dX7_common_42 : decode cX7_common 42 = .ok (.iload 4, 2) := by decide +kernel
theorem dX7_common_44 : decode cX7_common 44 = .ok (.if_icmp .eq 41, 3) := by decide +kernel
theorem dX7_common_47 : decode cX7_common 47 = .ok (.aload_n 0, 1) := by decide +kernel
theorem dX7_common_48 : decode cX7_common 48 = .ok (.iload_n 3, 1) := by decide +kernel
theorem dX7_common_49 : decode cX7_common 49 = .ok (.iconst 3, 1) := by decide +kernel
theorem dX7_common_50 : decode cX7_common 50 = .ok (.invokevirtual 105, 3) := by decide +kernel
theorem dX7_common_53 : decode cX7_common 53 = .ok (.aload_n 0, 1) := by decide +kernel
theorem dX7_common_54 : decode cX7_common 54 = .ok (.iload 4, 2) := by decide +kernel
theorem dX7_common_56 : decode cX7_common 56 = .ok (.iconst 3, 1) := by decide +kernel
theorem dX7_common_57 : decode cX7_common 57 = .ok (.invokevirtual 105, 3) := by decide +kernel
theorem dX7_common_60 : decode cX7_common 60 = .ok (.if_icmp .lt 13, 3) := by decide +kernel
theorem dX7_common_63 : decode cX7_common 63 = .ok (.aload_n 0, 1) := by decide +kernel
theorem dX7_common_64 : decode cX7_common 64 = .ok (.iload_n 3, 1) := by decide +kernel
theorem dX7_common_65 : decode cX7_common 65 = .ok (.iconst 0, 1) := by decide +kernel
theorem dX7_common_66 : decode cX7_common 66 = .ok (.invokevirtual 105, 3) := by decide +kernel
theorem dX7_common_69 : decode cX7_common 69 = .ok (.istore_n 3, 1) := by decide +kernel
theorem dX7_common_70 : decode cX7_common 70 = .ok (.goto (-29), 3) := by decide +kernel
theorem dX7_common_73 : decode cX7_common 73 = .ok (.aload_n 0, 1) := by decide +kernel
theorem dX7_common_74 : decode cX7_common 74 = .ok (.iload 4, 2) := by decide +kernel
theorem dX7_common_76 : decode cX7_common 76 = .ok (.iconst 0, 1) := by decide +kernel
theorem dX7_common_77 : decode cX7_common 77 = .ok (.invokevirtual 105, 3) := by decide +kernel
theorem dX7_common_80 : decode cX7_common 80 = .ok (.istore 4, 2) := by decide +kernel
theorem dX7_common_82 : decode cX7_common 82 = .ok (.goto (-41), 3) := by decide +kernel
theorem dX7_common_85 : decode cX7_common 85 = .ok (.iload_n 3, 1) := by decide +kernel
theorem dX7_common_86 : decode cX7_common 86 = .ok (.ireturn, 1) := by decide +kernel
theorem dX7_workOfOther_0 : decode cX7_workOfOther 0 = .ok (.iconst 0, 1) := by decide +kernel
theorem dX7_workOfOther_1 : decode cX7_workOfOther 1 = .ok (.istore_n 2, 1) := by decide +kernel
theorem dX7_workOfOther_2 : decode cX7_workOfOther 2 = .ok (.iconst 0, 1) := by decide +kernel
theorem dX7_workOfOther_3 : decode cX7_workOfOther 3 = .ok (.istore_n 3, 1) := by decide +kernel
theorem dX7_workOfOther_4 : decode cX7_workOfOther 4 = .ok (.iconst 0, 1) := by decide +kernel
theorem dX7_workOfOther_5 : decode cX7_workOfOther 5 = .ok (.istore 4, 2) := by decide +kernel
theorem dX7_workOfOther_7 : decode cX7_workOfOther 7 = .ok (.iconst 0, 1) := by decide +kernel
theorem dX7_workOfOther_8 : decode cX7_workOfOther 8 = .ok (.istore 5, 2) := by decide +kernel
theorem dX7_workOfOther_10 : decode cX7_workOfOther 10 = .ok (.iconst 0, 1) := by decide +kernel
theorem dX7_workOfOther_11 : decode cX7_workOfOther 11 = .ok (.istore 6, 2) := by decide +kernel
theorem dX7_workOfOther_13 : decode cX7_workOfOther 13 = .ok (.iload 6, 2) := by decide +kernel
theorem dX7_workOfOther_15 : decode cX7_workOfOther 15 = .ok (.aload_n 0, 1) := by decide +kernel
theorem dX7_workOfOther_16 : decode cX7_workOfOther 16 = .ok (.getfield 109, 3) := by decide +kernel
theorem dX7_workOfOther_19 : decode cX7_workOfOther 19 = .ok (.if_icmp .ge 67, 3) := by decide +kernel
theorem dX7_workOfOther_22 : decode cX7_workOfOther 22 = .ok (.iconst 1, 1) := by decide +kernel
theorem dX7_workOfOther_23 : decode cX7_workOfOther 23 = .ok (.istore 7, 2) := by decide +kernel
theorem dX7_workOfOther_25 : decode cX7_workOfOther 25 = .ok (.aload_n 0, 1) := by decide +kernel
theorem dX7_workOfOther_26 : decode cX7_workOfOther 26 = .ok (.aload_n 0, 1) := by decide +kernel
theorem dX7_workOfOther_27 : decode cX7_workOfOther 27 = .ok (.getfield 22, 3) := by decide +kernel
theorem dX7_workOfOther_30 : decode cX7_workOfOther 30 = .ok (.iload 6, 2) := by decide +kernel
theorem dX7_workOfOther_32 : decode cX7_workOfOther 32 = .ok (.iaload, 1) := by decide +kernel
theorem dX7_workOfOther_33 : decode cX7_workOfOther 33 = .ok (.iconst 1, 1) := by decide +kernel
theorem dX7_workOfOther_34 : decode cX7_workOfOther 34 = .ok (.invokevirtual 105, 3) := by decide +kernel
theorem dX7_workOfOther_37 : decode cX7_workOfOther 37 = .ok (.iconst (-1), 1) := by decide +kernel
theorem dX7_workOfOther_38 : decode cX7_workOfOther 38 = .ok (.if_icmp .eq 9, 3) := by decide +kernel
theorem dX7_workOfOther_41 : decode cX7_workOfOther 41 = .ok (.iinc 3 1, 3) := by decide +kernel
theorem dX7_workOfOther_44 : decode cX7_workOfOther 44 = .ok (.goto 20, 3) := by decide +kernel
theorem dX7_workOfOther_47 : decode cX7_workOfOther 47 = .ok (.iload_n 2, 1) := by decide +kernel
theorem dX7_workOfOther_48 : decode cX7_workOfOther 48 = .ok (.ifCond .ne 13, 3) := by decide +kernel
theorem dX7_workOfOther_51 : decode cX7_workOfOther 51 = .ok (.iload 7, 2) := by decide +kernel
theorem dX7_workOfOther_53 : decode cX7_workOfOther 53 = .ok (.iload_n 3, 1) := by decide +kernel
theorem dX7_workOfOther_54 : decode cX7_workOfOther 54 = .ok (.iadd, 1) := by decide +kernel
theorem dX7_workOfOther_55 : decode cX7_workOfOther 55 = .ok (.istore 7, 2) := by decide +kernel
theorem dX7_workOfOther_57 : decode cX7_workOfOther 57 = .ok (.iload_n 3, 1) := by decide +kernel
theorem dX7_workOfOther_58 : decode cX7_workOfOther 58 = .ok (.istore_n 2, 1) := by decide +kernel
theorem dX7_workOfOther_59 : decode cX7_workOfOther 59 = .ok (.iconst 0, 1) := by decide +kernel
theorem dX7_workOfOther_60 : decode cX7_workOfOther 60 = .ok (.istore_n 3, 1) := by decide +kernel
theorem dX7_workOfOther_61 : decode cX7_workOfOther 61 = .ok (.iinc 2 (-1), 3) := by decide +kernel
theorem dX7_workOfOther_64 : decode cX7_workOfOther 64 = .ok (.iload 4, 2) := by decide +kernel
theorem dX7_workOfOther_66 : decode cX7_workOfOther 66 = .ok (.iload 7, 2) := by decide +kernel
theorem dX7_workOfOther_68 : decode cX7_workOfOther 68 = .ok (.iadd, 1) := by decide +kernel
theorem dX7_workOfOther_69 : decode cX7_workOfOther 69 = .ok (.istore 4, 2) := by decide +kernel
theorem dX7_workOfOther_71 : decode cX7_workOfOther 71 = .ok (.iload 5, 2) := by decide +kernel
theorem dX7_workOfOther_73 : decode cX7_workOfOther 73 = .ok (.iload 7, 2) := by decide +kernel
theorem dX7_workOfOther_75 : decode cX7_workOfOther 75 = .ok (.invokestatic 224, 3) := by decide +kernel
theorem dX7_workOfOther_78 : decode cX7_workOfOther 78 = .ok (.istore 5, 2) := by decide +kernel
theorem dX7_workOfOther_80 : decode cX7_workOfOther 80 = .ok (.iinc 6 1, 3) := by decide +kernel
theorem dX7_workOfOther_83 : decode cX7_workOfOther 83 = .ok (.goto (-70), 3) := by decide +kernel
theorem dX7_workOfOther_86 : decode cX7_workOfOther 86 = .ok (.iload_n 1, 1) := by decide +kernel
theorem dX7_workOfOther_87 : decode cX7_workOfOther 87 = .ok (.ifCond .eq 8, 3) := by decide +kernel
theorem dX7_workOfOther_90 : decode cX7_workOfOther 90 = .ok (.iload 5, 2) := by decide +kernel
theorem dX7_workOfOther_92 : decode cX7_workOfOther 92 = .ok (.goto 5, 3) := by decide +kernel
theorem dX7_workOfOther_95 : decode cX7_workOfOther 95 = .ok (.iload 4, 2) := by decide +kernel
theorem dX7_workOfOther_97 : decode cX7_workOfOther 97 = .ok (.ireturn, 1) := by decide +kernel
theorem dX7_work_0 : decode cX7_work 0 = .ok (.aload_n 0, 1) := by decide +kernel
theorem dX7_work_1 : decode cX7_work 1 = .ok (.iconst 0, 1) := by decide +kernel
theorem dX7_work_2 : decode cX7_work 2 = .ok (.putfield 44, 3) := by decide +kernel
theorem dX7_work_5 : decode cX7_work 5 = .ok (.aload_n 0, 1) := by decide +kernel
theorem dX7_work_6 : decode cX7_work 6 = .ok (.aload_n 0, 1) := by decide +kernel
theorem dX7_work_7 : decode cX7_work 7 = .ok (.iload_n 1, 1) := by decide +kernel
theorem dX7_work_8 : decode cX7_work 8 = .ok (.invokevirtual 238, 3) := by decide +kernel
theorem dX7_work_11 : decode cX7_work 11 = .ok (.iconst 1, 1) := by decide +kernel
theorem dX7_work_12 : decode cX7_work 12 = .ok (.invokevirtual 214, 3) := by decide +kernel
theorem dX7_work_15 : decode cX7_work 15 = .ok (.ifCond .eq 17, 3) := by decide +kernel
theorem dX7_work_18 : decode cX7_work 18 = .ok (.aload_n 0, 1) := by decide +kernel
theorem dX7_work_19 : decode cX7_work 19 = .ok (.iload_n 2, 1) := by decide +kernel
theorem dX7_work_20 : decode cX7_work 20 = .ok (.iconst 0, 1) := by decide +kernel
theorem dX7_work_21 : decode cX7_work 21 = .ok (.iconst 3, 1) := by decide +kernel
theorem dX7_work_22 : decode cX7_work 22 = .ok (.invokestatic 69, 3) := by decide +kernel
theorem dX7_work_25 : decode cX7_work 25 = .ok (.iconst 2, 1) := by decide +kernel
theorem dX7_work_26 : decode cX7_work 26 = .ok (.invokevirtual 214, 3) := by decide +kernel
theorem dX7_work_29 : decode cX7_work 29 = .ok (.ifCond .ne 5, 3) := by decide +kernel
theorem dX7_work_32 : decode cX7_work 32 = .ok (.iconst 0, 1) := by decide +kernel
theorem dX7_work_33 : decode cX7_work 33 = .ok (.ireturn, 1) := by decide +kernel
theorem dX7_work_34 : decode cX7_work 34 = .ok (.aload_n 0, 1) := by decide +kernel
theorem dX7_work_35 : decode cX7_work 35 = .ok (.iload_n 1, 1) := by decide +kernel
theorem dX7_work_36 : decode cX7_work 36 = .ok (.invokevirtual 112, 3) := by decide +kernel
theorem dX7_work_39 : decode cX7_work 39 = .ok (.iload_n 2, 1) := by decide +kernel
theorem dX7_work_40 : decode cX7_work 40 = .ok (.iconst 2, 1) := by decide +kernel
theorem dX7_work_41 : decode cX7_work 41 = .ok (.if_icmp .lt 18, 3) := by decide +kernel
theorem dX7_work_44 : decode cX7_work 44 = .ok (.aload_n 0, 1) := by decide +kernel
theorem dX7_work_45 : decode cX7_work 45 = .ok (.iload_n 2, 1) := by decide +kernel
theorem dX7_work_46 : decode cX7_work 46 = .ok (.iconst 3, 1) := by decide +kernel
theorem dX7_work_47 : decode cX7_work 47 = .ok (.if_icmp .ne 7, 3) := by decide +kernel
theorem dX7_work_50 : decode cX7_work 50 = .ok (.iconst 1, 1) := by decide +kernel
theorem dX7_work_51 : decode cX7_work 51 = .ok (.goto 4, 3) := by decide +kernel
theorem dX7_work_54 : decode cX7_work 54 = .ok (.iconst 0, 1) := by decide +kernel
theorem dX7_work_55 : decode cX7_work 55 = .ok (.invokevirtual 248, 3) := by decide +kernel
theorem dX7_work_58 : decode cX7_work 58 = .ok (.ireturn, 1) := by decide +kernel
theorem dX7_work_59 : decode cX7_work 59 = .ok (.iconst 0, 1) := by decide +kernel
theorem dX7_work_60 : decode cX7_work 60 = .ok (.istore_n 3, 1) := by decide +kernel
theorem dX7_work_61 : decode cX7_work 61 = .ok (.iconst 0, 1) := by decide +kernel
theorem dX7_work_62 : decode cX7_work 62 = .ok (.istore 4, 2) := by decide +kernel
theorem dX7_work_64 : decode cX7_work 64 = .ok (.iload 4, 2) := by decide +kernel
theorem dX7_work_66 : decode cX7_work 66 = .ok (.aload_n 0, 1) := by decide +kernel
theorem dX7_work_67 : decode cX7_work 67 = .ok (.getfield 109, 3) := by decide +kernel
theorem dX7_work_70 : decode cX7_work 70 = .ok (.if_icmp .ge 47, 3) := by decide +kernel
theorem dX7_work_73 : decode cX7_work 73 = .ok (.iload_n 2, 1) := by decide +kernel
theorem dX7_work_74 : decode cX7_work 74 = .ok (.ifCond .ne 20, 3) := by decide +kernel
theorem dX7_work_77 : decode cX7_work 77 = .ok (.iload_n 3, 1) := by decide +kernel
theorem dX7_work_78 : decode cX7_work 78 = .ok (.aload_n 0, 1) := by decide +kernel
theorem dX7_work_79 : decode cX7_work 79 = .ok (.aload_n 0, 1) := by decide +kernel
theorem dX7_work_80 : decode cX7_work 80 = .ok (.getfield 22, 3) := by decide +kernel
theorem dX7_work_83 : decode cX7_work 83 = .ok (.iload 4, 2) := by decide +kernel
theorem dX7_work_85 : decode cX7_work 85 = .ok (.iaload, 1) := by decide +kernel
theorem dX7_work_86 : decode cX7_work 86 = .ok (.iconst 4, 1) := by decide +kernel
theorem dX7_work_87 : decode cX7_work 87 = .ok (.invokevirtual 105, 3) := by decide +kernel
theorem dX7_work_90 : decode cX7_work 90 = .ok (.iadd, 1) := by decide +kernel
theorem dX7_work_91 : decode cX7_work 91 = .ok (.goto 19, 3) := by decide +kernel
theorem dX7_work_94 : decode cX7_work 94 = .ok (.iload_n 3, 1) := by decide +kernel
theorem dX7_work_95 : decode cX7_work 95 = .ok (.aload_n 0, 1) := by decide +kernel
theorem dX7_work_96 : decode cX7_work 96 = .ok (.aload_n 0, 1) := by decide +kernel
theorem dX7_work_97 : decode cX7_work 97 = .ok (.getfield 22, 3) := by decide +kernel
theorem dX7_work_100 : decode cX7_work 100 = .ok (.iload 4, 2) := by decide +kernel
theorem dX7_work_102 : decode cX7_work 102 = .ok (.iaload, 1) := by decide +kernel
theorem dX7_work_103 : decode cX7_work 103 = .ok (.iconst 4, 1) := by decide +kernel
theorem dX7_work_104 : decode cX7_work 104 = .ok (.invokevirtual 105, 3) := by decide +kernel
theorem dX7_work_107 : decode cX7_work 107 = .ok (.invokestatic 224, 3) := by decide +kernel
theorem dX7_work_110 : decode cX7_work 110 = .ok (.istore_n 3, 1) := by decide +kernel
theorem dX7_work_111 : decode cX7_work 111 = .ok (.iinc 4 1, 3) := by decide +kernel
theorem dX7_work_114 : decode cX7_work 114 = .ok (.goto (-50), 3) := by decide +kernel
theorem dX7_work_117 : decode cX7_work 117 = .ok (.iload_n 3, 1) := by decide +kernel
theorem dX7_work_118 : decode cX7_work 118 = .ok (.ireturn, 1) := by decide +kernel
theorem dX7_idleIn_0 : decode cX7_idleIn 0 = .ok (.aload_n 0, 1) := by decide +kernel
theorem dX7_idleIn_1 : decode cX7_idleIn 1 = .ok (.iconst 0, 1) := by decide +kernel
theorem dX7_idleIn_2 : decode cX7_idleIn 2 = .ok (.putfield 44, 3) := by decide +kernel
theorem dX7_idleIn_5 : decode cX7_idleIn 5 = .ok (.aload_n 0, 1) := by decide +kernel
theorem dX7_idleIn_6 : decode cX7_idleIn 6 = .ok (.aload_n 0, 1) := by decide +kernel
theorem dX7_idleIn_7 : decode cX7_idleIn 7 = .ok (.iload_n 1, 1) := by decide +kernel
theorem dX7_idleIn_8 : decode cX7_idleIn 8 = .ok (.invokevirtual 238, 3) := by decide +kernel
theorem dX7_idleIn_11 : decode cX7_idleIn 11 = .ok (.iconst 1, 1) := by decide +kernel
theorem dX7_idleIn_12 : decode cX7_idleIn 12 = .ok (.invokevirtual 214, 3) := by decide +kernel
theorem dX7_idleIn_15 : decode cX7_idleIn 15 = .ok (.ifCond .ne 5, 3) := by decide +kernel
theorem dX7_idleIn_18 : decode cX7_idleIn 18 = .ok (.iconst 0, 1) := by decide +kernel
theorem dX7_idleIn_19 : decode cX7_idleIn 19 = .ok (.ireturn, 1) := by decide +kernel
theorem dX7_idleIn_20 : decode cX7_idleIn 20 = .ok (.aload_n 0, 1) := by decide +kernel
theorem dX7_idleIn_21 : decode cX7_idleIn 21 = .ok (.iload_n 1, 1) := by decide +kernel
theorem dX7_idleIn_22 : decode cX7_idleIn 22 = .ok (.invokevirtual 128, 3) := by decide +kernel
theorem dX7_idleIn_25 : decode cX7_idleIn 25 = .ok (.istore_n 2, 1) := by decide +kernel
theorem dX7_idleIn_26 : decode cX7_idleIn 26 = .ok (.aload_n 0, 1) := by decide +kernel
theorem dX7_idleIn_27 : decode cX7_idleIn 27 = .ok (.iload_n 1, 1) := by decide +kernel
theorem dX7_idleIn_28 : decode cX7_idleIn 28 = .ok (.invokevirtual 131, 3) := by decide +kernel
theorem dX7_idleIn_31 : decode cX7_idleIn 31 = .ok (.iconst 0, 1) := by decide +kernel
theorem dX7_idleIn_32 : decode cX7_idleIn 32 = .ok (.istore_n 3, 1) := by decide +kernel
theorem dX7_idleIn_33 : decode cX7_idleIn 33 = .ok (.aload_n 0, 1) := by decide +kernel
theorem dX7_idleIn_34 : decode cX7_idleIn 34 = .ok (.getfield 79, 3) := by decide +kernel
theorem dX7_idleIn_37 : decode cX7_idleIn 37 = .ok (.ifCond .eq 23, 3) := by decide +kernel
theorem dX7_idleIn_40 : decode cX7_idleIn 40 = .ok (.iload_n 3, 1) := by decide +kernel
theorem dX7_idleIn_41 : decode cX7_idleIn 41 = .ok (.iload_n 2, 1) := by decide +kernel
theorem dX7_idleIn_42 : decode cX7_idleIn 42 = .ok (.if_icmp .ge 18, 3) := by decide +kernel
theorem dX7_idleIn_45 : decode cX7_idleIn 45 = .ok (.aload_n 0, 1) := by decide +kernel
theorem dX7_idleIn_46 : decode cX7_idleIn 46 = .ok (.aload_n 0, 1) := by decide +kernel
theorem dX7_idleIn_47 : decode cX7_idleIn 47 = .ok (.iconst 1, 1) := by decide +kernel
theorem dX7_idleIn_48 : decode cX7_idleIn 48 = .ok (.invokevirtual 50, 3) := by decide +kernel
theorem dX7_idleIn_51 : decode cX7_idleIn 51 = .ok (.invokevirtual 118, 3) := by decide +kernel
theorem dX7_idleIn_54 : decode cX7_idleIn 54 = .ok (.iinc 3 1, 3) := by decide +kernel
theorem dX7_idleIn_57 : decode cX7_idleIn 57 = .ok (.goto (-24), 3) := by decide +kernel
theorem dX7_idleIn_60 : decode cX7_idleIn 60 = .ok (.aload_n 0, 1) := by decide +kernel
theorem dX7_idleIn_61 : decode cX7_idleIn 61 = .ok (.getfield 79, 3) := by decide +kernel
theorem dX7_idleIn_64 : decode cX7_idleIn 64 = .ok (.ifCond .ne 7, 3) := by decide +kernel
theorem dX7_idleIn_67 : decode cX7_idleIn 67 = .ok (.iload_n 3, 1) := by decide +kernel
theorem dX7_idleIn_68 : decode cX7_idleIn 68 = .ok (.goto 4, 3) := by decide +kernel
theorem dX7_idleIn_71 : decode cX7_idleIn 71 = .ok (.iconst (-1), 1) := by decide +kernel
theorem dX7_idleIn_72 : decode cX7_idleIn 72 = .ok (.ireturn, 1) := by decide +kernel
theorem dX7_gap_0 : decode cX7_gap 0 = .ok (.aload_n 0, 1) := by decide +kernel
theorem dX7_gap_1 : decode cX7_gap 1 = .ok (.iconst 0, 1) := by decide +kernel
theorem dX7_gap_2 : decode cX7_gap 2 = .ok (.putfield 44, 3) := by decide +kernel
theorem dX7_gap_5 : decode cX7_gap 5 = .ok (.iconst 0, 1) := by decide +kernel
theorem dX7_gap_6 : decode cX7_gap 6 = .ok (.istore_n 1, 1) := by decide +kernel
theorem dX7_gap_7 : decode cX7_gap 7 = .ok (.iconst 0, 1) := by decide +kernel
theorem dX7_gap_8 : decode cX7_gap 8 = .ok (.istore_n 2, 1) := by decide +kernel
theorem dX7_gap_9 : decode cX7_gap 9 = .ok (.iload_n 2, 1) := by decide +kernel
theorem dX7_gap_10 : decode cX7_gap 10 = .ok (.aload_n 0, 1) := by decide +kernel
theorem dX7_gap_11 : decode cX7_gap 11 = .ok (.invokevirtual 65, 3) := by decide +kernel
theorem dX7_gap_14 : decode cX7_gap 14 = .ok (.if_icmp .ge 25, 3) := by decide +kernel
theorem dX7_gap_17 : decode cX7_gap 17 = .ok (.iload_n 1, 1) := by decide +kernel
theorem dX7_gap_18 : decode cX7_gap 18 = .ok (.aload_n 0, 1) := by decide +kernel
theorem dX7_gap_19 : decode cX7_gap 19 = .ok (.iload_n 2, 1) := by decide +kernel
theorem dX7_gap_20 : decode cX7_gap 20 = .ok (.invokevirtual 252, 3) := by decide +kernel
theorem dX7_gap_23 : decode cX7_gap 23 = .ok (.ifCond .eq 7, 3) := by decide +kernel
theorem dX7_gap_26 : decode cX7_gap 26 = .ok (.iconst 1, 1) := by decide +kernel
theorem dX7_gap_27 : decode cX7_gap 27 = .ok (.goto 4, 3) := by decide +kernel
theorem dX7_gap_30 : decode cX7_gap 30 = .ok (.iconst 0, 1) := by decide +kernel
theorem dX7_gap_31 : decode cX7_gap 31 = .ok (.iadd, 1) := by decide +kernel
theorem dX7_gap_32 : decode cX7_gap 32 = .ok (.istore_n 1, 1) := by decide +kernel
theorem dX7_gap_33 : decode cX7_gap 33 = .ok (.iinc 2 1, 3) := by decide +kernel
theorem dX7_gap_36 : decode cX7_gap 36 = .ok (.goto (-27), 3) := by decide +kernel
theorem dX7_gap_39 : decode cX7_gap 39 = .ok (.iload_n 1, 1) := by decide +kernel
theorem dX7_gap_40 : decode cX7_gap 40 = .ok (.ireturn, 1) := by decide +kernel
theorem dX7_ranked_0 : decode cX7_ranked 0 = .ok (.aload_n 0, 1) := by decide +kernel
theorem dX7_ranked_1 : decode cX7_ranked 1 = .ok (.iconst 0, 1) := by decide +kernel
theorem dX7_ranked_2 : decode cX7_ranked 2 = .ok (.putfield 44, 3) := by decide +kernel
theorem dX7_ranked_5 : decode cX7_ranked 5 = .ok (.aload_n 0, 1) := by decide +kernel
theorem dX7_ranked_6 : decode cX7_ranked 6 = .ok (.iload_n 1, 1) := by decide +kernel
theorem dX7_ranked_7 : decode cX7_ranked 7 = .ok (.iconst 0, 1) := by decide +kernel
theorem dX7_ranked_8 : decode cX7_ranked 8 = .ok (.aload_n 0, 1) := by decide +kernel
theorem dX7_ranked_9 : decode cX7_ranked 9 = .ok (.invokevirtual 65, 3) := by decide +kernel
theorem dX7_ranked_12 : decode cX7_ranked 12 = .ok (.iconst 1, 1) := by decide +kernel
theorem dX7_ranked_13 : decode cX7_ranked 13 = .ok (.isub, 1) := by decide +kernel
theorem dX7_ranked_14 : decode cX7_ranked 14 = .ok (.invokestatic 69, 3) := by decide +kernel
theorem dX7_ranked_17 : decode cX7_ranked 17 = .ok (.iconst 1, 1) := by decide +kernel
theorem dX7_ranked_18 : decode cX7_ranked 18 = .ok (.invokevirtual 214, 3) := by decide +kernel
theorem dX7_ranked_21 : decode cX7_ranked 21 = .ok (.ifCond .ne 5, 3) := by decide +kernel
theorem dX7_ranked_24 : decode cX7_ranked 24 = .ok (.iconst 0, 1) := by decide +kernel
theorem dX7_ranked_25 : decode cX7_ranked 25 = .ok (.ireturn, 1) := by decide +kernel
theorem dX7_ranked_26 : decode cX7_ranked 26 = .ok (.iconst 0, 1) := by decide +kernel
theorem dX7_ranked_27 : decode cX7_ranked 27 = .ok (.istore_n 2, 1) := by decide +kernel
theorem dX7_ranked_28 : decode cX7_ranked 28 = .ok (.iload_n 2, 1) := by decide +kernel
theorem dX7_ranked_29 : decode cX7_ranked 29 = .ok (.aload_n 0, 1) := by decide +kernel
theorem dX7_ranked_30 : decode cX7_ranked 30 = .ok (.invokevirtual 65, 3) := by decide +kernel
theorem dX7_ranked_33 : decode cX7_ranked 33 = .ok (.if_icmp .ge 80, 3) := by decide +kernel
theorem dX7_ranked_36 : decode cX7_ranked 36 = .ok (.aload_n 0, 1) := by decide +kernel
theorem dX7_ranked_37 : decode cX7_ranked 37 = .ok (.iload_n 2, 1) := by decide +kernel
theorem dX7_ranked_38 : decode cX7_ranked 38 = .ok (.invokevirtual 128, 3) := by decide +kernel
theorem dX7_ranked_41 : decode cX7_ranked 41 = .ok (.istore_n 3, 1) := by decide +kernel
theorem dX7_ranked_42 : decode cX7_ranked 42 = .ok (.iconst 0, 1) := by decide +kernel
theorem dX7_ranked_43 : decode cX7_ranked 43 = .ok (.istore 4, 2) := by decide +kernel
theorem dX7_ranked_45 : decode cX7_ranked 45 = .ok (.iconst 0, 1) := by decide +kernel
theorem dX7_ranked_46 : decode cX7_ranked 46 = .ok (.istore 5, 2) := by decide +kernel
theorem dX7_ranked_48 : decode cX7_ranked 48 = .ok (.iload 5, 2) := by decide +kernel
theorem dX7_ranked_50 : decode cX7_ranked 50 = .ok (.aload_n 0, 1) := by decide +kernel
theorem dX7_ranked_51 : decode cX7_ranked 51 = .ok (.invokevirtual 65, 3) := by decide +kernel
theorem dX7_ranked_54 : decode cX7_ranked 54 = .ok (.if_icmp .ge 45, 3) := by decide +kernel
theorem dX7_ranked_57 : decode cX7_ranked 57 = .ok (.aload_n 0, 1) := by decide +kernel
theorem dX7_ranked_58 : decode cX7_ranked 58 = .ok (.iload 5, 2) := by decide +kernel
theorem dX7_ranked_60 : decode cX7_ranked 60 = .ok (.invokevirtual 128, 3) := by decide +kernel
theorem dX7_ranked_63 : decode cX7_ranked 63 = .ok (.istore 6, 2) := by decide +kernel
theorem dX7_ranked_65 : decode cX7_ranked 65 = .ok (.iload 4, 2) := by decide +kernel
theorem dX7_ranked_67 : decode cX7_ranked 67 = .ok (.iload 6, 2) := by decide +kernel
theorem dX7_ranked_69 : decode cX7_ranked 69 = .ok (.iload_n 3, 1) := by decide +kernel
theorem dX7_ranked_70 : decode cX7_ranked 70 = .ok (.if_icmp .gt 15, 3) := by decide +kernel
theorem dX7_ranked_73 : decode cX7_ranked 73 = .ok (.iload 6, 2) := by decide +kernel
theorem dX7_ranked_75 : decode cX7_ranked 75 = .ok (.iload_n 3, 1) := by decide +kernel
theorem dX7_ranked_76 : decode cX7_ranked 76 = .ok (.if_icmp .ne 13, 3) := by decide +kernel
theorem dX7_ranked_79 : decode cX7_ranked 79 = .ok (.iload 5, 2) := by decide +kernel
theorem dX7_ranked_81 : decode cX7_ranked 81 = .ok (.iload_n 2, 1) := by decide +kernel
theorem dX7_ranked_82 : decode cX7_ranked 82 = .ok (.if_icmp .ge 7, 3) := by decide +kernel
theorem dX7_ranked_85 : decode cX7_ranked 85 = .ok (.iconst 1, 1) := by decide +kernel
theorem dX7_ranked_86 : decode cX7_ranked 86 = .ok (.goto 4, 3) := by decide +kernel
theorem dX7_ranked_89 : decode cX7_ranked 89 = .ok (.iconst 0, 1) := by decide +kernel
theorem dX7_ranked_90 : decode cX7_ranked 90 = .ok (.iadd, 1) := by decide +kernel
theorem dX7_ranked_91 : decode cX7_ranked 91 = .ok (.istore 4, 2) := by decide +kernel
theorem dX7_ranked_93 : decode cX7_ranked 93 = .ok (.iinc 5 1, 3) := by decide +kernel
theorem dX7_ranked_96 : decode cX7_ranked 96 = .ok (.goto (-48), 3) := by decide +kernel
theorem dX7_ranked_99 : decode cX7_ranked 99 = .ok (.iload 4, 2) := by decide +kernel
theorem dX7_ranked_101 : decode cX7_ranked 101 = .ok (.iload_n 1, 1) := by decide +kernel
theorem dX7_ranked_102 : decode cX7_ranked 102 = .ok (.if_icmp .ne 5, 3) := by decide +kernel
theorem dX7_ranked_105 : decode cX7_ranked 105 = .ok (.iload_n 2, 1) := by decide +kernel
theorem dX7_ranked_106 : decode cX7_ranked 106 = .ok (.ireturn, 1) := by decide +kernel
theorem dX7_ranked_107 : decode cX7_ranked 107 = .ok (.iinc 2 1, 3) := by decide +kernel
theorem dX7_ranked_110 : decode cX7_ranked 110 = .ok (.goto (-82), 3) := by decide +kernel
theorem dX7_ranked_113 : decode cX7_ranked 113 = .ok (.iconst (-1), 1) := by decide +kernel
theorem dX7_ranked_114 : decode cX7_ranked 114 = .ok (.ireturn, 1) := by decide +kernel
theorem dX7_meanSteps_0 : decode cX7_meanSteps 0 = .ok (.aload_n 0, 1) := by decide +kernel
theorem dX7_meanSteps_1 : decode cX7_meanSteps 1 = .ok (.iconst 0, 1) := by decide +kernel
theorem dX7_meanSteps_2 : decode cX7_meanSteps 2 = .ok (.putfield 44, 3) := by decide +kernel
theorem dX7_meanSteps_5 : decode cX7_meanSteps 5 = .ok (.aload_n 0, 1) := by decide +kernel
theorem dX7_meanSteps_6 : decode cX7_meanSteps 6 = .ok (.invokevirtual 65, 3) := by decide +kernel
theorem dX7_meanSteps_9 : decode cX7_meanSteps 9 = .ok (.iconst 1, 1) := by decide +kernel
theorem dX7_meanSteps_10 : decode cX7_meanSteps 10 = .ok (.if_icmp .ne 7, 3) := by decide +kernel
theorem dX7_meanSteps_13 : decode cX7_meanSteps 13 = .ok (.fconst 0, 1) := by decide +kernel
theorem dX7_meanSteps_14 : decode cX7_meanSteps 14 = .ok (.goto 17, 3) := by decide +kernel
theorem dX7_meanSteps_17 : decode cX7_meanSteps 17 = .ok (.aload_n 0, 1) := by decide +kernel
theorem dX7_meanSteps_18 : decode cX7_meanSteps 18 = .ok (.iconst 5, 1) := by decide +kernel
theorem dX7_meanSteps_19 : decode cX7_meanSteps 19 = .ok (.invokevirtual 229, 3) := by decide +kernel
theorem dX7_meanSteps_22 : decode cX7_meanSteps 22 = .ok (.i2f, 1) := by decide +kernel
theorem dX7_meanSteps_23 : decode cX7_meanSteps 23 = .ok (.aload_n 0, 1) := by decide +kernel
theorem dX7_meanSteps_24 : decode cX7_meanSteps 24 = .ok (.invokevirtual 65, 3) := by decide +kernel
theorem dX7_meanSteps_27 : decode cX7_meanSteps 27 = .ok (.iconst 1, 1) := by decide +kernel
theorem dX7_meanSteps_28 : decode cX7_meanSteps 28 = .ok (.isub, 1) := by decide +kernel
theorem dX7_meanSteps_29 : decode cX7_meanSteps 29 = .ok (.i2f, 1) := by decide +kernel
theorem dX7_meanSteps_30 : decode cX7_meanSteps 30 = .ok (.fdiv, 1) := by decide +kernel
theorem dX7_meanSteps_31 : decode cX7_meanSteps 31 = .ok (.freturn, 1) := by decide +kernel
theorem dX7_push_0 : decode cX7_push 0 = .ok (.aload_n 0, 1) := by decide +kernel
theorem dX7_push_1 : decode cX7_push 1 = .ok (.iconst 0, 1) := by decide +kernel
theorem dX7_push_2 : decode cX7_push 2 = .ok (.putfield 44, 3) := by decide +kernel
theorem dX7_push_5 : decode cX7_push 5 = .ok (.aload_n 0, 1) := by decide +kernel
theorem dX7_push_6 : decode cX7_push 6 = .ok (.aload_n 0, 1) := by decide +kernel
theorem dX7_push_7 : decode cX7_push 7 = .ok (.iload_n 1, 1) := by decide +kernel
theorem dX7_push_8 : decode cX7_push 8 = .ok (.invokevirtual 238, 3) := by decide +kernel
theorem dX7_push_11 : decode cX7_push 11 = .ok (.iconst 1, 1) := by decide +kernel
theorem dX7_push_12 : decode cX7_push 12 = .ok (.invokevirtual 214, 3) := by decide +kernel
theorem dX7_push_15 : decode cX7_push 15 = .ok (.ifCond .eq 40, 3) := by decide +kernel
theorem dX7_push_18 : decode cX7_push 18 = .ok (.aload_n 0, 1) := by decide +kernel
theorem dX7_push_19 : decode cX7_push 19 = .ok (.iload_n 2, 1) := by decide +kernel
theorem dX7_push_20 : decode cX7_push 20 = .ok (.iconst 0, 1) := by decide +kernel
theorem dX7_push_21 : decode cX7_push 21 = .ok (.bipush 99, 2) := by decide +kernel
theorem dX7_push_23 : decode cX7_push 23 = .ok (.invokestatic 69, 3) := by decide +kernel
theorem dX7_push_26 : decode cX7_push 26 = .ok (.iconst 2, 1) := by decide +kernel
theorem dX7_push_27 : decode cX7_push 27 = .ok (.invokevirtual 214, 3) := by decide +kernel
theorem dX7_push_30 : decode cX7_push 30 = .ok (.ifCond .eq 25, 3) := by decide +kernel
theorem dX7_push_33 : decode cX7_push 33 = .ok (.aload_n 0, 1) := by decide +kernel
theorem dX7_push_34 : decode cX7_push 34 = .ok (.aload_n 0, 1) := by decide +kernel
theorem dX7_push_35 : decode cX7_push 35 = .ok (.invokevirtual 65, 3) := by decide +kernel
theorem dX7_push_38 : decode cX7_push 38 = .ok (.bipush 64, 2) := by decide +kernel
theorem dX7_push_40 : decode cX7_push 40 = .ok (.if_icmp .ge 7, 3) := by decide +kernel
theorem dX7_push_43 : decode cX7_push 43 = .ok (.iconst 1, 1) := by decide +kernel
theorem dX7_push_44 : decode cX7_push 44 = .ok (.goto 4, 3) := by decide +kernel
theorem dX7_push_47 : decode cX7_push 47 = .ok (.iconst 0, 1) := by decide +kernel
theorem dX7_push_48 : decode cX7_push 48 = .ok (.iconst 3, 1) := by decide +kernel
theorem dX7_push_49 : decode cX7_push 49 = .ok (.invokevirtual 214, 3) := by decide +kernel
theorem dX7_push_52 : decode cX7_push 52 = .ok (.ifCond .ne 5, 3) := by decide +kernel
theorem dX7_push_55 : decode cX7_push 55 = .ok (.iconst 0, 1) := by decide +kernel
theorem dX7_push_56 : decode cX7_push 56 = .ok (.ireturn, 1) := by decide +kernel
theorem dX7_push_57 : decode cX7_push 57 = .ok (.aload_n 0, 1) := by decide +kernel
theorem dX7_push_58 : decode cX7_push 58 = .ok (.invokevirtual 255, 3) := by decide +kernel
theorem dX7_push_61 : decode cX7_push 61 = .ok (.aload_n 0, 1) := by decide +kernel
theorem dX7_push_62 : decode cX7_push 62 = .ok (.iload_n 1, 1) := by decide +kernel
theorem dX7_push_63 : decode cX7_push 63 = .ok (.iload_n 2, 1) := by decide +kernel
theorem dX7_push_64 : decode cX7_push 64 = .ok (.invokevirtual 187, 3) := by decide +kernel
theorem dX7_push_67 : decode cX7_push 67 = .ok (.ireturn, 1) := by decide +kernel
theorem dX7_pop_0 : decode cX7_pop 0 = .ok (.aload_n 0, 1) := by decide +kernel
theorem dX7_pop_1 : decode cX7_pop 1 = .ok (.iconst 0, 1) := by decide +kernel
theorem dX7_pop_2 : decode cX7_pop 2 = .ok (.putfield 44, 3) := by decide +kernel
theorem dX7_pop_5 : decode cX7_pop 5 = .ok (.aload_n 0, 1) := by decide +kernel
theorem dX7_pop_6 : decode cX7_pop 6 = .ok (.aload_n 0, 1) := by decide +kernel
theorem dX7_pop_7 : decode cX7_pop 7 = .ok (.iload_n 1, 1) := by decide +kernel
theorem dX7_pop_8 : decode cX7_pop 8 = .ok (.invokevirtual 238, 3) := by decide +kernel
theorem dX7_pop_11 : decode cX7_pop 11 = .ok (.iconst 1, 1) := by decide +kernel
theorem dX7_pop_12 : decode cX7_pop 12 = .ok (.invokevirtual 214, 3) := by decide +kernel
theorem dX7_pop_15 : decode cX7_pop 15 = .ok (.ifCond .eq 33, 3) := by decide +kernel
theorem dX7_pop_18 : decode cX7_pop 18 = .ok (.aload_n 0, 1) := by decide +kernel
theorem dX7_pop_19 : decode cX7_pop 19 = .ok (.aload_n 0, 1) := by decide +kernel
theorem dX7_pop_20 : decode cX7_pop 20 = .ok (.iload_n 1, 1) := by decide +kernel
theorem dX7_pop_21 : decode cX7_pop 21 = .ok (.invokevirtual 128, 3) := by decide +kernel
theorem dX7_pop_24 : decode cX7_pop 24 = .ok (.ifCond .le 16, 3) := by decide +kernel
theorem dX7_pop_27 : decode cX7_pop 27 = .ok (.aload_n 0, 1) := by decide +kernel
theorem dX7_pop_28 : decode cX7_pop 28 = .ok (.invokevirtual 65, 3) := by decide +kernel
theorem dX7_pop_31 : decode cX7_pop 31 = .ok (.bipush 64, 2) := by decide +kernel
theorem dX7_pop_33 : decode cX7_pop 33 = .ok (.if_icmp .ge 7, 3) := by decide +kernel
theorem dX7_pop_36 : decode cX7_pop 36 = .ok (.iconst 1, 1) := by decide +kernel
theorem dX7_pop_37 : decode cX7_pop 37 = .ok (.goto 4, 3) := by decide +kernel
theorem dX7_pop_40 : decode cX7_pop 40 = .ok (.iconst 0, 1) := by decide +kernel
theorem dX7_pop_41 : decode cX7_pop 41 = .ok (.iconst 2, 1) := by decide +kernel
theorem dX7_pop_42 : decode cX7_pop 42 = .ok (.invokevirtual 214, 3) := by decide +kernel
theorem dX7_pop_45 : decode cX7_pop 45 = .ok (.ifCond .ne 5, 3) := by decide +kernel
theorem dX7_pop_48 : decode cX7_pop 48 = .ok (.iconst 0, 1) := by decide +kernel
theorem dX7_pop_49 : decode cX7_pop 49 = .ok (.ireturn, 1) := by decide +kernel
theorem dX7_pop_50 : decode cX7_pop 50 = .ok (.aload_n 0, 1) := by decide +kernel
theorem dX7_pop_51 : decode cX7_pop 51 = .ok (.invokevirtual 255, 3) := by decide +kernel
theorem dX7_pop_54 : decode cX7_pop 54 = .ok (.aload_n 0, 1) := by decide +kernel
theorem dX7_pop_55 : decode cX7_pop 55 = .ok (.iload_n 1, 1) := by decide +kernel
theorem dX7_pop_56 : decode cX7_pop 56 = .ok (.iconst (-1), 1) := by decide +kernel
theorem dX7_pop_57 : decode cX7_pop 57 = .ok (.invokevirtual 187, 3) := by decide +kernel
theorem dX7_pop_60 : decode cX7_pop 60 = .ok (.ireturn, 1) := by decide +kernel
theorem dX7_drop_0 : decode cX7_drop 0 = .ok (.aload_n 0, 1) := by decide +kernel
theorem dX7_drop_1 : decode cX7_drop 1 = .ok (.iconst 0, 1) := by decide +kernel
theorem dX7_drop_2 : decode cX7_drop 2 = .ok (.putfield 44, 3) := by decide +kernel
theorem dX7_drop_5 : decode cX7_drop 5 = .ok (.aload_n 0, 1) := by decide +kernel
theorem dX7_drop_6 : decode cX7_drop 6 = .ok (.aload_n 0, 1) := by decide +kernel
theorem dX7_drop_7 : decode cX7_drop 7 = .ok (.iload_n 1, 1) := by decide +kernel
theorem dX7_drop_8 : decode cX7_drop 8 = .ok (.invokevirtual 238, 3) := by decide +kernel
theorem dX7_drop_11 : decode cX7_drop 11 = .ok (.iconst 1, 1) := by decide +kernel
theorem dX7_drop_12 : decode cX7_drop 12 = .ok (.invokevirtual 214, 3) := by decide +kernel
theorem dX7_drop_15 : decode cX7_drop 15 = .ok (.ifCond .eq 28, 3) := by decide +kernel
theorem dX7_drop_18 : decode cX7_drop 18 = .ok (.aload_n 0, 1) := by decide +kernel
theorem dX7_drop_19 : decode cX7_drop 19 = .ok (.iload_n 1, 1) := by decide +kernel
theorem dX7_drop_20 : decode cX7_drop 20 = .ok (.ifCond .le 15, 3) := by decide +kernel
theorem dX7_drop_23 : decode cX7_drop 23 = .ok (.aload_n 0, 1) := by decide +kernel
theorem dX7_drop_24 : decode cX7_drop 24 = .ok (.iload_n 1, 1) := by decide +kernel
theorem dX7_drop_25 : decode cX7_drop 25 = .ok (.invokevirtual 221, 3) := by decide +kernel
theorem dX7_drop_28 : decode cX7_drop 28 = .ok (.ifCond .ne 7, 3) := by decide +kernel
theorem dX7_drop_31 : decode cX7_drop 31 = .ok (.iconst 1, 1) := by decide +kernel
theorem dX7_drop_32 : decode cX7_drop 32 = .ok (.goto 4, 3) := by decide +kernel
theorem dX7_drop_35 : decode cX7_drop 35 = .ok (.iconst 0, 1) := by decide +kernel
theorem dX7_drop_36 : decode cX7_drop 36 = .ok (.iconst 2, 1) := by decide +kernel
theorem dX7_drop_37 : decode cX7_drop 37 = .ok (.invokevirtual 214, 3) := by decide +kernel
theorem dX7_drop_40 : decode cX7_drop 40 = .ok (.ifCond .ne 5, 3) := by decide +kernel
theorem dX7_drop_43 : decode cX7_drop 43 = .ok (.iconst 0, 1) := by decide +kernel
theorem dX7_drop_44 : decode cX7_drop 44 = .ok (.ireturn, 1) := by decide +kernel
theorem dX7_drop_45 : decode cX7_drop 45 = .ok (.aload_n 0, 1) := by decide +kernel
theorem dX7_drop_46 : decode cX7_drop 46 = .ok (.invokevirtual 255, 3) := by decide +kernel
theorem dX7_drop_49 : decode cX7_drop 49 = .ok (.iload_n 1, 1) := by decide +kernel
theorem dX7_drop_50 : decode cX7_drop 50 = .ok (.istore_n 2, 1) := by decide +kernel
theorem dX7_drop_51 : decode cX7_drop 51 = .ok (.iload_n 2, 1) := by decide +kernel
theorem dX7_drop_52 : decode cX7_drop 52 = .ok (.iconst 1, 1) := by decide +kernel
theorem dX7_drop_53 : decode cX7_drop 53 = .ok (.iadd, 1) := by decide +kernel
theorem dX7_drop_54 : decode cX7_drop 54 = .ok (.aload_n 0, 1) := by decide +kernel
theorem dX7_drop_55 : decode cX7_drop 55 = .ok (.invokevirtual 65, 3) := by decide +kernel
theorem dX7_drop_58 : decode cX7_drop 58 = .ok (.if_icmp .ge 36, 3) := by decide +kernel
theorem dX7_drop_61 : decode cX7_drop 61 = .ok (.iconst 0, 1) := by decide +kernel
theorem dX7_drop_62 : decode cX7_drop 62 = .ok (.istore_n 3, 1) := by decide +kernel
theorem dX7_drop_63 : decode cX7_drop 63 = .ok (.iload_n 3, 1) := by decide +kernel
theorem dX7_drop_64 : decode cX7_drop 64 = .ok (.iconst 5, 1) := by decide +kernel
theorem dX7_drop_65 : decode cX7_drop 65 = .ok (.if_icmp .ge 23, 3) := by decide +kernel
theorem dX7_drop_68 : decode cX7_drop 68 = .ok (.aload_n 0, 1) := by decide +kernel
theorem dX7_drop_69 : decode cX7_drop 69 = .ok (.iload_n 2, 1) := by decide +kernel
theorem dX7_drop_70 : decode cX7_drop 70 = .ok (.iload_n 3, 1) := by decide +kernel
theorem dX7_drop_71 : decode cX7_drop 71 = .ok (.aload_n 0, 1) := by decide +kernel
theorem dX7_drop_72 : decode cX7_drop 72 = .ok (.iload_n 2, 1) := by decide +kernel
theorem dX7_drop_73 : decode cX7_drop 73 = .ok (.iconst 1, 1) := by decide +kernel
theorem dX7_drop_74 : decode cX7_drop 74 = .ok (.iadd, 1) := by decide +kernel
theorem dX7_drop_75 : decode cX7_drop 75 = .ok (.iload_n 3, 1) := by decide +kernel
theorem dX7_drop_76 : decode cX7_drop 76 = .ok (.invokevirtual 105, 3) := by decide +kernel
theorem dX7_drop_79 : decode cX7_drop 79 = .ok (.invokevirtual 61, 3) := by decide +kernel
theorem dX7_drop_82 : decode cX7_drop 82 = .ok (.iinc 3 1, 3) := by decide +kernel
theorem dX7_drop_85 : decode cX7_drop 85 = .ok (.goto (-22), 3) := by decide +kernel
theorem dX7_drop_88 : decode cX7_drop 88 = .ok (.iinc 2 1, 3) := by decide +kernel
theorem dX7_drop_91 : decode cX7_drop 91 = .ok (.goto (-40), 3) := by decide +kernel
theorem dX7_drop_94 : decode cX7_drop 94 = .ok (.aload_n 0, 1) := by decide +kernel
theorem dX7_drop_95 : decode cX7_drop 95 = .ok (.iconst 0, 1) := by decide +kernel
theorem dX7_drop_96 : decode cX7_drop 96 = .ok (.aload_n 0, 1) := by decide +kernel
theorem dX7_drop_97 : decode cX7_drop 97 = .ok (.invokevirtual 65, 3) := by decide +kernel
theorem dX7_drop_100 : decode cX7_drop 100 = .ok (.iconst 1, 1) := by decide +kernel
theorem dX7_drop_101 : decode cX7_drop 101 = .ok (.isub, 1) := by decide +kernel
theorem dX7_drop_102 : decode cX7_drop 102 = .ok (.invokevirtual 54, 3) := by decide +kernel
theorem dX7_drop_105 : decode cX7_drop 105 = .ok (.iconst 0, 1) := by decide +kernel
theorem dX7_drop_106 : decode cX7_drop 106 = .ok (.istore_n 2, 1) := by decide +kernel
theorem dX7_drop_107 : decode cX7_drop 107 = .ok (.iload_n 2, 1) := by decide +kernel
theorem dX7_drop_108 : decode cX7_drop 108 = .ok (.aload_n 0, 1) := by decide +kernel
theorem dX7_drop_109 : decode cX7_drop 109 = .ok (.invokevirtual 65, 3) := by decide +kernel
theorem dX7_drop_112 : decode cX7_drop 112 = .ok (.if_icmp .ge 33, 3) := by decide +kernel
theorem dX7_drop_115 : decode cX7_drop 115 = .ok (.aload_n 0, 1) := by decide +kernel
theorem dX7_drop_116 : decode cX7_drop 116 = .ok (.iload_n 2, 1) := by decide +kernel
theorem dX7_drop_117 : decode cX7_drop 117 = .ok (.iconst 0, 1) := by decide +kernel
theorem dX7_drop_118 : decode cX7_drop 118 = .ok (.invokevirtual 105, 3) := by decide +kernel
theorem dX7_drop_121 : decode cX7_drop 121 = .ok (.iload_n 1, 1) := by decide +kernel
theorem dX7_drop_122 : decode cX7_drop 122 = .ok (.if_icmp .le 17, 3) := by decide +kernel
theorem dX7_drop_125 : decode cX7_drop 125 = .ok (.aload_n 0, 1) := by decide +kernel
theorem dX7_drop_126 : decode cX7_drop 126 = .ok (.iload_n 2, 1) := by decide +kernel
theorem dX7_drop_127 : decode cX7_drop 127 = .ok (.iconst 0, 1) := by decide +kernel
theorem dX7_drop_128 : decode cX7_drop 128 = .ok (.aload_n 0, 1) := by decide +kernel
theorem dX7_drop_129 : decode cX7_drop 129 = .ok (.iload_n 2, 1) := by decide +kernel
theorem dX7_drop_130 : decode cX7_drop 130 = .ok (.iconst 0, 1) := by decide +kernel
theorem dX7_drop_131 : decode cX7_drop 131 = .ok (.invokevirtual 105, 3) := by decide +kernel
theorem dX7_drop_134 : decode cX7_drop 134 = .ok (.iconst 1, 1) := by decide +kernel
theorem dX7_drop_135 : decode cX7_drop 135 = .ok (.isub, 1) := by decide +kernel
theorem dX7_drop_136 : decode cX7_drop 136 = .ok (.invokevirtual 61, 3) := by decide +kernel
theorem dX7_drop_139 : decode cX7_drop 139 = .ok (.iinc 2 1, 3) := by decide +kernel
theorem dX7_drop_142 : decode cX7_drop 142 = .ok (.goto (-35), 3) := by decide +kernel
theorem dX7_drop_145 : decode cX7_drop 145 = .ok (.aload_n 0, 1) := by decide +kernel
theorem dX7_drop_146 : decode cX7_drop 146 = .ok (.iconst 2, 1) := by decide +kernel
theorem dX7_drop_147 : decode cX7_drop 147 = .ok (.aload_n 0, 1) := by decide +kernel
theorem dX7_drop_148 : decode cX7_drop 148 = .ok (.iconst 2, 1) := by decide +kernel
theorem dX7_drop_149 : decode cX7_drop 149 = .ok (.invokevirtual 50, 3) := by decide +kernel
theorem dX7_drop_152 : decode cX7_drop 152 = .ok (.iconst 1, 1) := by decide +kernel
theorem dX7_drop_153 : decode cX7_drop 153 = .ok (.iadd, 1) := by decide +kernel
theorem dX7_drop_154 : decode cX7_drop 154 = .ok (.invokevirtual 54, 3) := by decide +kernel
theorem dX7_drop_157 : decode cX7_drop 157 = .ok (.aload_n 0, 1) := by decide +kernel
theorem dX7_drop_158 : decode cX7_drop 158 = .ok (.invokevirtual 65, 3) := by decide +kernel
theorem dX7_drop_161 : decode cX7_drop 161 = .ok (.ireturn, 1) := by decide +kernel
theorem dX7_rule_0 : decode cX7_rule 0 = .ok (.aload_n 0, 1) := by decide +kernel
theorem dX7_rule_1 : decode cX7_rule 1 = .ok (.iconst 0, 1) := by decide +kernel
theorem dX7_rule_2 : decode cX7_rule 2 = .ok (.putfield 44, 3) := by decide +kernel
theorem dX7_rule_5 : decode cX7_rule 5 = .ok (.aload_n 0, 1) := by decide +kernel
theorem dX7_rule_6 : decode cX7_rule 6 = .ok (.iload_n 1, 1) := by decide +kernel
theorem dX7_rule_7 : decode cX7_rule 7 = .ok (.iconst 2, 1) := by decide +kernel
theorem dX7_rule_8 : decode cX7_rule 8 = .ok (.iconst 4, 1) := by decide +kernel
theorem dX7_rule_9 : decode cX7_rule 9 = .ok (.invokestatic 69, 3) := by decide +kernel
theorem dX7_rule_12 : decode cX7_rule 12 = .ok (.iconst 1, 1) := by decide +kernel
theorem dX7_rule_13 : decode cX7_rule 13 = .ok (.invokevirtual 214, 3) := by decide +kernel
theorem dX7_rule_16 : decode cX7_rule 16 = .ok (.ifCond .ne 5, 3) := by decide +kernel
theorem dX7_rule_19 : decode cX7_rule 19 = .ok (.iconst 0, 1) := by decide +kernel
theorem dX7_rule_20 : decode cX7_rule 20 = .ok (.ireturn, 1) := by decide +kernel
theorem dX7_rule_21 : decode cX7_rule 21 = .ok (.aload_n 0, 1) := by decide +kernel
theorem dX7_rule_22 : decode cX7_rule 22 = .ok (.invokevirtual 255, 3) := by decide +kernel
theorem dX7_rule_25 : decode cX7_rule 25 = .ok (.aload_n 0, 1) := by decide +kernel
theorem dX7_rule_26 : decode cX7_rule 26 = .ok (.iconst 1, 1) := by decide +kernel
theorem dX7_rule_27 : decode cX7_rule 27 = .ok (.invokevirtual 50, 3) := by decide +kernel
theorem dX7_rule_30 : decode cX7_rule 30 = .ok (.istore_n 2, 1) := by decide +kernel
theorem dX7_rule_31 : decode cX7_rule 31 = .ok (.aload_n 0, 1) := by decide +kernel
