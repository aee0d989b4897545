theorem dX7_init_0 : decode cX7_init 0 = .ok (.aload_n 0, 1) := by decide +kernel
theorem dX7_init_1 : decode cX7_init 1 = .ok (.invokespecial 1, 3) := by decide +kernel
theorem dX7_init_4 : decode cX7_init 4 = .ok (.aload_n 0, 1) := by decide +kernel
theorem dX7_init_5 : decode cX7_init 5 = .ok (.sipush 2970, 3) := by decide +kernel
theorem dX7_init_8 : decode cX7_init 8 = .ok (.newarray .int, 2) := by decide +kernel
theorem dX7_init_10 : decode cX7_init 10 = .ok (.putfield 7, 3) := by decide +kernel
theorem dX7_init_13 : decode cX7_init 13 = .ok (.aload_n 0, 1) := by decide +kernel
theorem dX7_init_14 : decode cX7_init 14 = .ok (.sipush 330, 3) := by decide +kernel
theorem dX7_init_17 : decode cX7_init 17 = .ok (.newarray .int, 2) := by decide +kernel
theorem dX7_init_19 : decode cX7_init 19 = .ok (.putfield 13, 3) := by decide +kernel
theorem dX7_init_22 : decode cX7_init 22 = .ok (.aload_n 0, 1) := by decide +kernel
theorem dX7_init_23 : decode cX7_init 23 = .ok (.sipush 384, 3) := by decide +kernel
theorem dX7_init_26 : decode cX7_init 26 = .ok (.newarray .int, 2) := by decide +kernel
theorem dX7_init_28 : decode cX7_init 28 = .ok (.putfield 16, 3) := by decide +kernel
theorem dX7_init_31 : decode cX7_init 31 = .ok (.aload_n 0, 1) := by decide +kernel
theorem dX7_init_32 : decode cX7_init 32 = .ok (.bipush 6, 2) := by decide +kernel
theorem dX7_init_34 : decode cX7_init 34 = .ok (.newarray .int, 2) := by decide +kernel
theorem dX7_init_36 : decode cX7_init 36 = .ok (.putfield 19, 3) := by decide +kernel
theorem dX7_init_39 : decode cX7_init 39 = .ok (.aload_n 0, 1) := by decide +kernel
theorem dX7_init_40 : decode cX7_init 40 = .ok (.bipush 64, 2) := by decide +kernel
theorem dX7_init_42 : decode cX7_init 42 = .ok (.newarray .int, 2) := by decide +kernel
theorem dX7_init_44 : decode cX7_init 44 = .ok (.putfield 22, 3) := by decide +kernel
theorem dX7_init_47 : decode cX7_init 47 = .ok (.aload_n 0, 1) := by decide +kernel
theorem dX7_init_48 : decode cX7_init 48 = .ok (.bipush 64, 2) := by decide +kernel
theorem dX7_init_50 : decode cX7_init 50 = .ok (.newarray .int, 2) := by decide +kernel
theorem dX7_init_52 : decode cX7_init 52 = .ok (.putfield 25, 3) := by decide +kernel
theorem dX7_init_55 : decode cX7_init 55 = .ok (.aload_n 0, 1) := by decide +kernel
theorem dX7_init_56 : decode cX7_init 56 = .ok (.bipush 64, 2) := by decide +kernel
theorem dX7_init_58 : decode cX7_init 58 = .ok (.newarray .int, 2) := by decide +kernel
theorem dX7_init_60 : decode cX7_init 60 = .ok (.putfield 28, 3) := by decide +kernel
theorem dX7_init_63 : decode cX7_init 63 = .ok (.aload_n 0, 1) := by decide +kernel
theorem dX7_init_64 : decode cX7_init 64 = .ok (.sipush 128, 3) := by decide +kernel
theorem dX7_init_67 : decode cX7_init 67 = .ok (.newarray .int, 2) := by decide +kernel
theorem dX7_init_69 : decode cX7_init 69 = .ok (.putfield 31, 3) := by decide +kernel
theorem dX7_init_72 : decode cX7_init 72 = .ok (.aload_n 0, 1) := by decide +kernel
theorem dX7_init_73 : decode cX7_init 73 = .ok (.sipush 500, 3) := by decide +kernel
theorem dX7_init_76 : decode cX7_init 76 = .ok (.newarray .int, 2) := by decide +kernel
theorem dX7_init_78 : decode cX7_init 78 = .ok (.putfield 34, 3) := by decide +kernel
theorem dX7_init_81 : decode cX7_init 81 = .ok (.aload_n 0, 1) := by decide +kernel
theorem dX7_init_82 : decode cX7_init 82 = .ok (.iconst (-1), 1) := by decide +kernel
theorem dX7_init_83 : decode cX7_init 83 = .ok (.putfield 37, 3) := by decide +kernel
theorem dX7_init_86 : decode cX7_init 86 = .ok (.aload_n 0, 1) := by decide +kernel
theorem dX7_init_87 : decode cX7_init 87 = .ok (.invokevirtual 41, 3) := by decide +kernel
theorem dX7_init_90 : decode cX7_init 90 = .ok (.return_, 1) := by decide +kernel
theorem dX7_thrown_0 : decode cX7_thrown 0 = .ok (.aload_n 0, 1) := by decide +kernel
theorem dX7_thrown_1 : decode cX7_thrown 1 = .ok (.getfield 44, 3) := by decide +kernel
theorem dX7_thrown_4 : decode cX7_thrown 4 = .ok (.ireturn, 1) := by decide +kernel
theorem dX7_isIn_0 : decode cX7_isIn 0 = .ok (.iload_n 0, 1) := by decide +kernel
theorem dX7_isIn_1 : decode cX7_isIn 1 = .ok (.iload_n 1, 1) := by decide +kernel
theorem dX7_isIn_2 : decode cX7_isIn 2 = .ok (.if_icmp .lt 12, 3) := by decide +kernel
theorem dX7_isIn_5 : decode cX7_isIn 5 = .ok (.iload_n 0, 1) := by decide +kernel
theorem dX7_isIn_6 : decode cX7_isIn 6 = .ok (.iload_n 2, 1) := by decide +kernel
theorem dX7_isIn_7 : decode cX7_isIn 7 = .ok (.if_icmp .gt 7, 3) := by decide +kernel
theorem dX7_isIn_10 : decode cX7_isIn 10 = .ok (.iconst 1, 1) := by decide +kernel
theorem dX7_isIn_11 : decode cX7_isIn 11 = .ok (.goto 4, 3) := by decide +kernel
theorem dX7_isIn_14 : decode cX7_isIn 14 = .ok (.iconst 0, 1) := by decide +kernel
theorem dX7_isIn_15 : decode cX7_isIn 15 = .ok (.ireturn, 1) := by decide +kernel
theorem dX7_get_0 : decode cX7_get 0 = .ok (.aload_n 0, 1) := by decide +kernel
theorem dX7_get_1 : decode cX7_get 1 = .ok (.getfield 7, 3) := by decide +kernel
theorem dX7_get_4 : decode cX7_get 4 = .ok (.sipush 330, 3) := by decide +kernel
theorem dX7_get_7 : decode cX7_get 7 = .ok (.aload_n 0, 1) := by decide +kernel
theorem dX7_get_8 : decode cX7_get 8 = .ok (.getfield 47, 3) := by decide +kernel
theorem dX7_get_11 : decode cX7_get 11 = .ok (.imul, 1) := by decide +kernel
theorem dX7_get_12 : decode cX7_get 12 = .ok (.iload_n 1, 1) := by decide +kernel
theorem dX7_get_13 : decode cX7_get 13 = .ok (.iadd, 1) := by decide +kernel
theorem dX7_get_14 : decode cX7_get 14 = .ok (.iaload, 1) := by decide +kernel
theorem dX7_get_15 : decode cX7_get 15 = .ok (.ireturn, 1) := by decide +kernel
theorem dX7_put_0 : decode cX7_put 0 = .ok (.aload_n 0, 1) := by decide +kernel
theorem dX7_put_1 : decode cX7_put 1 = .ok (.getfield 7, 3) := by decide +kernel
theorem dX7_put_4 : decode cX7_put 4 = .ok (.sipush 330, 3) := by decide +kernel
theorem dX7_put_7 : decode cX7_put 7 = .ok (.aload_n 0, 1) := by decide +kernel
theorem dX7_put_8 : decode cX7_put 8 = .ok (.getfield 47, 3) := by decide +kernel
theorem dX7_put_11 : decode cX7_put 11 = .ok (.imul, 1) := by decide +kernel
theorem dX7_put_12 : decode cX7_put 12 = .ok (.iload_n 1, 1) := by decide +kernel
theorem dX7_put_13 : decode cX7_put 13 = .ok (.iadd, 1) := by decide +kernel
theorem dX7_put_14 : decode cX7_put 14 = .ok (.iload_n 2, 1) := by decide +kernel
theorem dX7_put_15 : decode cX7_put 15 = .ok (.iastore, 1) := by decide +kernel
theorem dX7_put_16 : decode cX7_put 16 = .ok (.return_, 1) := by decide +kernel
theorem dX7_of_0 : decode cX7_of 0 = .ok (.aload_n 0, 1) := by decide +kernel
theorem dX7_of_1 : decode cX7_of 1 = .ok (.bipush 10, 2) := by decide +kernel
theorem dX7_of_3 : decode cX7_of 3 = .ok (.iconst 5, 1) := by decide +kernel
theorem dX7_of_4 : decode cX7_of 4 = .ok (.iload_n 1, 1) := by decide +kernel
theorem dX7_of_5 : decode cX7_of 5 = .ok (.imul, 1) := by decide +kernel
theorem dX7_of_6 : decode cX7_of 6 = .ok (.iadd, 1) := by decide +kernel
theorem dX7_of_7 : decode cX7_of 7 = .ok (.iload_n 2, 1) := by decide +kernel
theorem dX7_of_8 : decode cX7_of 8 = .ok (.iadd, 1) := by decide +kernel
theorem dX7_of_9 : decode cX7_of 9 = .ok (.invokevirtual 50, 3) := by decide +kernel
theorem dX7_of_12 : decode cX7_of 12 = .ok (.ireturn, 1) := by decide +kernel
theorem dX7_puts_0 : decode cX7_puts 0 = .ok (.aload_n 0, 1) := by decide +kernel
theorem dX7_puts_1 : decode cX7_puts 1 = .ok (.bipush 10, 2) := by decide +kernel
theorem dX7_puts_3 : decode cX7_puts 3 = .ok (.iconst 5, 1) := by decide +kernel
theorem dX7_puts_4 : decode cX7_puts 4 = .ok (.iload_n 1, 1) := by decide +kernel
theorem dX7_puts_5 : decode cX7_puts 5 = .ok (.imul, 1) := by decide +kernel
theorem dX7_puts_6 : decode cX7_puts 6 = .ok (.iadd, 1) := by decide +kernel
theorem dX7_puts_7 : decode cX7_puts 7 = .ok (.iload_n 2, 1) := by decide +kernel
theorem dX7_puts_8 : decode cX7_puts 8 = .ok (.iadd, 1) := by decide +kernel
theorem dX7_puts_9 : decode cX7_puts 9 = .ok (.iload_n 3, 1) := by decide +kernel
theorem dX7_puts_10 : decode cX7_puts 10 = .ok (.invokevirtual 54, 3) := by decide +kernel
theorem dX7_puts_13 : decode cX7_puts 13 = .ok (.return_, 1) := by decide +kernel
theorem dX7_change_0 : decode cX7_change 0 = .ok (.aload_n 0, 1) := by decide +kernel
theorem dX7_change_1 : decode cX7_change 1 = .ok (.getfield 47, 3) := by decide +kernel
theorem dX7_change_4 : decode cX7_change 4 = .ok (.iconst 1, 1) := by decide +kernel
theorem dX7_change_5 : decode cX7_change 5 = .ok (.iadd, 1) := by decide +kernel
theorem dX7_change_6 : decode cX7_change 6 = .ok (.bipush 9, 2) := by decide +kernel
theorem dX7_change_8 : decode cX7_change 8 = .ok (.irem, 1) := by decide +kernel
theorem dX7_change_9 : decode cX7_change 9 = .ok (.istore_n 1, 1) := by decide +kernel
theorem dX7_change_10 : decode cX7_change 10 = .ok (.iconst 0, 1) := by decide +kernel
theorem dX7_change_11 : decode cX7_change 11 = .ok (.istore_n 2, 1) := by decide +kernel
theorem dX7_change_12 : decode cX7_change 12 = .ok (.iload_n 2, 1) := by decide +kernel
theorem dX7_change_13 : decode cX7_change 13 = .ok (.sipush 330, 3) := by decide +kernel
theorem dX7_change_16 : decode cX7_change 16 = .ok (.if_icmp .ge 26, 3) := by decide +kernel
theorem dX7_change_19 : decode cX7_change 19 = .ok (.aload_n 0, 1) := by decide +kernel
theorem dX7_change_20 : decode cX7_change 20 = .ok (.getfield 7, 3) := by decide +kernel
theorem dX7_change_23 : decode cX7_change 23 = .ok (.sipush 330, 3) := by decide +kernel
theorem dX7_change_26 : decode cX7_change 26 = .ok (.iload_n 1, 1) := by decide +kernel
theorem dX7_change_27 : decode cX7_change 27 = .ok (.imul, 1) := by decide +kernel
theorem dX7_change_28 : decode cX7_change 28 = .ok (.iload_n 2, 1) := by decide +kernel
theorem dX7_change_29 : decode cX7_change 29 = .ok (.iadd, 1) := by decide +kernel
theorem dX7_change_30 : decode cX7_change 30 = .ok (.aload_n 0, 1) := by decide +kernel
theorem dX7_change_31 : decode cX7_change 31 = .ok (.iload_n 2, 1) := by decide +kernel
theorem dX7_change_32 : decode cX7_change 32 = .ok (.invokevirtual 50, 3) := by decide +kernel
theorem dX7_change_35 : decode cX7_change 35 = .ok (.iastore, 1) := by decide +kernel
theorem dX7_change_36 : decode cX7_change 36 = .ok (.iinc 2 1, 3) := by decide +kernel
theorem dX7_change_39 : decode cX7_change 39 = .ok (.goto (-27), 3) := by decide +kernel
theorem dX7_change_42 : decode cX7_change 42 = .ok (.aload_n 0, 1) := by decide +kernel
theorem dX7_change_43 : decode cX7_change 43 = .ok (.iload_n 1, 1) := by decide +kernel
theorem dX7_change_44 : decode cX7_change 44 = .ok (.putfield 47, 3) := by decide +kernel
theorem dX7_change_47 : decode cX7_change 47 = .ok (.aload_n 0, 1) := by decide +kernel
theorem dX7_change_48 : decode cX7_change 48 = .ok (.aload_n 0, 1) := by decide +kernel
theorem dX7_change_49 : decode cX7_change 49 = .ok (.getfield 58, 3) := by decide +kernel
theorem dX7_change_52 : decode cX7_change 52 = .ok (.bipush 8, 2) := by decide +kernel
theorem dX7_change_54 : decode cX7_change 54 = .ok (.if_icmp .ge 12, 3) := by decide +kernel
theorem dX7_change_57 : decode cX7_change 57 = .ok (.aload_n 0, 1) := by decide +kernel
theorem dX7_change_58 : decode cX7_change 58 = .ok (.getfield 58, 3) := by decide +kernel
theorem dX7_change_61 : decode cX7_change 61 = .ok (.iconst 1, 1) := by decide +kernel
theorem dX7_change_62 : decode cX7_change 62 = .ok (.iadd, 1) := by decide +kernel
theorem dX7_change_63 : decode cX7_change 63 = .ok (.goto 7, 3) := by decide +kernel
theorem dX7_change_66 : decode cX7_change 66 = .ok (.aload_n 0, 1) := by decide +kernel
theorem dX7_change_67 : decode cX7_change 67 = .ok (.getfield 58, 3) := by decide +kernel
theorem dX7_change_70 : decode cX7_change 70 = .ok (.putfield 58, 3) := by decide +kernel
theorem dX7_change_73 : decode cX7_change 73 = .ok (.return_, 1) := by decide +kernel
theorem dX7_right_0 : decode cX7_right 0 = .ok (.aload_n 0, 1) := by decide +kernel
theorem dX7_right_1 : decode cX7_right 1 = .ok (.getfield 44, 3) := by decide +kernel
theorem dX7_right_4 : decode cX7_right 4 = .ok (.ifCond .ne 12, 3) := by decide +kernel
theorem dX7_right_7 : decode cX7_right 7 = .ok (.iload_n 1, 1) := by decide +kernel
theorem dX7_right_8 : decode cX7_right 8 = .ok (.ifCond .ne 8, 3) := by decide +kernel
theorem dX7_right_11 : decode cX7_right 11 = .ok (.aload_n 0, 1) := by decide +kernel
theorem dX7_right_12 : decode cX7_right 12 = .ok (.iload_n 2, 1) := by decide +kernel
theorem dX7_right_13 : decode cX7_right 13 = .ok (.putfield 44, 3) := by decide +kernel
theorem dX7_right_16 : decode cX7_right 16 = .ok (.aload_n 0, 1) := by decide +kernel
theorem dX7_right_17 : decode cX7_right 17 = .ok (.getfield 44, 3) := by decide +kernel
theorem dX7_right_20 : decode cX7_right 20 = .ok (.ifCond .ne 7, 3) := by decide +kernel
theorem dX7_right_23 : decode cX7_right 23 = .ok (.iconst 1, 1) := by decide +kernel
theorem dX7_right_24 : decode cX7_right 24 = .ok (.goto 4, 3) := by decide +kernel
theorem dX7_right_27 : decode cX7_right 27 = .ok (.iconst 0, 1) := by decide +kernel
theorem dX7_right_28 : decode cX7_right 28 = .ok (.ireturn, 1) := by decide +kernel
theorem dX7_begins_0 : decode cX7_begins 0 = .ok (.iconst 0, 1) := by decide +kernel
theorem dX7_begins_1 : decode cX7_begins 1 = .ok (.istore_n 1, 1) := by decide +kernel
theorem dX7_begins_2 : decode cX7_begins 2 = .ok (.iload_n 1, 1) := by decide +kernel
theorem dX7_begins_3 : decode cX7_begins 3 = .ok (.sipush 330, 3) := by decide +kernel
theorem dX7_begins_6 : decode cX7_begins 6 = .ok (.if_icmp .ge 15, 3) := by decide +kernel
theorem dX7_begins_9 : decode cX7_begins 9 = .ok (.aload_n 0, 1) := by decide +kernel
theorem dX7_begins_10 : decode cX7_begins 10 = .ok (.iload_n 1, 1) := by decide +kernel
theorem dX7_begins_11 : decode cX7_begins 11 = .ok (.iconst 0, 1) := by decide +kernel
theorem dX7_begins_12 : decode cX7_begins 12 = .ok (.invokevirtual 54, 3) := by decide +kernel
theorem dX7_begins_15 : decode cX7_begins 15 = .ok (.iinc 1 1, 3) := by decide +kernel
theorem dX7_begins_18 : decode cX7_begins 18 = .ok (.goto (-16), 3) := by decide +kernel
theorem dX7_begins_21 : decode cX7_begins 21 = .ok (.aload_n 0, 1) := by decide +kernel
theorem dX7_begins_22 : decode cX7_begins 22 = .ok (.iconst 0, 1) := by decide +kernel
theorem dX7_begins_23 : decode cX7_begins 23 = .ok (.iconst 1, 1) := by decide +kernel
theorem dX7_begins_24 : decode cX7_begins 24 = .ok (.invokevirtual 54, 3) := by decide +kernel
theorem dX7_begins_27 : decode cX7_begins 27 = .ok (.aload_n 0, 1) := by decide +kernel
theorem dX7_begins_28 : decode cX7_begins 28 = .ok (.iconst 1, 1) := by decide +kernel
theorem dX7_begins_29 : decode cX7_begins 29 = .ok (.iconst 2, 1) := by decide +kernel
theorem dX7_begins_30 : decode cX7_begins 30 = .ok (.invokevirtual 54, 3) := by decide +kernel
theorem dX7_begins_33 : decode cX7_begins 33 = .ok (.aload_n 0, 1) := by decide +kernel
theorem dX7_begins_34 : decode cX7_begins 34 = .ok (.iconst 0, 1) := by decide +kernel
theorem dX7_begins_35 : decode cX7_begins 35 = .ok (.iconst 0, 1) := by decide +kernel
theorem dX7_begins_36 : decode cX7_begins 36 = .ok (.iconst (-1), 1) := by decide +kernel
theorem dX7_begins_37 : decode cX7_begins 37 = .ok (.invokevirtual 61, 3) := by decide +kernel
theorem dX7_begins_40 : decode cX7_begins 40 = .ok (.aload_n 0, 1) := by decide +kernel
theorem dX7_begins_41 : decode cX7_begins 41 = .ok (.iconst 0, 1) := by decide +kernel
theorem dX7_begins_42 : decode cX7_begins 42 = .ok (.iconst 1, 1) := by decide +kernel
theorem dX7_begins_43 : decode cX7_begins 43 = .ok (.iconst (-1), 1) := by decide +kernel
theorem dX7_begins_44 : decode cX7_begins 44 = .ok (.invokevirtual 61, 3) := by decide +kernel
theorem dX7_begins_47 : decode cX7_begins 47 = .ok (.return_, 1) := by decide +kernel
theorem dX7_versions_0 : decode cX7_versions 0 = .ok (.aload_n 0, 1) := by decide +kernel
theorem dX7_versions_1 : decode cX7_versions 1 = .ok (.iconst 0, 1) := by decide +kernel
theorem dX7_versions_2 : decode cX7_versions 2 = .ok (.invokevirtual 50, 3) := by decide +kernel
theorem dX7_versions_5 : decode cX7_versions 5 = .ok (.ireturn, 1) := by decide +kernel
theorem dX7_isVersion_0 : decode cX7_isVersion 0 = .ok (.iload_n 1, 1) := by decide +kernel
theorem dX7_isVersion_1 : decode cX7_isVersion 1 = .ok (.iconst 0, 1) := by decide +kernel
theorem dX7_isVersion_2 : decode cX7_isVersion 2 = .ok (.aload_n 0, 1) := by decide +kernel
theorem dX7_isVersion_3 : decode cX7_isVersion 3 = .ok (.invokevirtual 65, 3) := by decide +kernel
theorem dX7_isVersion_6 : decode cX7_isVersion 6 = .ok (.iconst 1, 1) := by decide +kernel
theorem dX7_isVersion_7 : decode cX7_isVersion 7 = .ok (.isub, 1) := by decide +kernel
theorem dX7_isVersion_8 : decode cX7_isVersion 8 = .ok (.invokestatic 69, 3) := by decide +kernel
theorem dX7_isVersion_11 : decode cX7_isVersion 11 = .ok (.ireturn, 1) := by decide +kernel
theorem dX7_ahead_0 : decode cX7_ahead 0 = .ok (.aload_n 0, 1) := by decide +kernel
theorem dX7_ahead_1 : decode cX7_ahead 1 = .ok (.getfield 16, 3) := by decide +kernel
theorem dX7_ahead_4 : decode cX7_ahead 4 = .ok (.bipush 64, 2) := by decide +kernel
theorem dX7_ahead_6 : decode cX7_ahead 6 = .ok (.iload_n 1, 1) := by decide +kernel
theorem dX7_ahead_7 : decode cX7_ahead 7 = .ok (.imul, 1) := by decide +kernel
theorem dX7_ahead_8 : decode cX7_ahead 8 = .ok (.aload_n 0, 1) := by decide +kernel
theorem dX7_ahead_9 : decode cX7_ahead 9 = .ok (.getfield 19, 3) := by decide +kernel
theorem dX7_ahead_12 : decode cX7_ahead 12 = .ok (.iload_n 1, 1) := by decide +kernel
theorem dX7_ahead_13 : decode cX7_ahead 13 = .ok (.iaload, 1) := by decide +kernel
theorem dX7_ahead_14 : decode cX7_ahead 14 = .ok (.iadd, 1) := by decide +kernel
theorem dX7_ahead_15 : decode cX7_ahead 15 = .ok (.iload_n 2, 1) := by decide +kernel
theorem dX7_ahead_16 : decode cX7_ahead 16 = .ok (.iastore, 1) := by decide +kernel
theorem dX7_ahead_17 : decode cX7_ahead 17 = .ok (.aload_n 0, 1) := by decide +kernel
theorem dX7_ahead_18 : decode cX7_ahead 18 = .ok (.getfield 19, 3) := by decide +kernel
theorem dX7_ahead_21 : decode cX7_ahead 21 = .ok (.iload_n 1, 1) := by decide +kernel
theorem dX7_ahead_22 : decode cX7_ahead 22 = .ok (.dup2, 1) := by decide +kernel
theorem dX7_ahead_23 : decode cX7_ahead 23 = .ok (.iaload, 1) := by decide +kernel
theorem dX7_ahead_24 : decode cX7_ahead 24 = .ok (.iconst 1, 1) := by decide +kernel
theorem dX7_ahead_25 : decode cX7_ahead 25 = .ok (.iadd, 1) := by decide +kernel
theorem dX7_ahead_26 : decode cX7_ahead 26 = .ok (.iastore, 1) := by decide +kernel
theorem dX7_ahead_27 : decode cX7_ahead 27 = .ok (.return_, 1) := by decide +kernel
theorem dX7_takes_0 : decode cX7_takes 0 = .ok (.aload_n 0, 1) := by decide +kernel
theorem dX7_takes_1 : decode cX7_takes 1 = .ok (.getfield 19, 3) := by decide +kernel
theorem dX7_takes_4 : decode cX7_takes 4 = .ok (.iload_n 1, 1) := by decide +kernel
theorem dX7_takes_5 : decode cX7_takes 5 = .ok (.dup2, 1) := by decide +kernel
theorem dX7_takes_6 : decode cX7_takes 6 = .ok (.iaload, 1) := by decide +kernel
theorem dX7_takes_7 : decode cX7_takes 7 = .ok (.iconst 1, 1) := by decide +kernel
theorem dX7_takes_8 : decode cX7_takes 8 = .ok (.isub, 1) := by decide +kernel
theorem dX7_takes_9 : decode cX7_takes 9 = .ok (.iastore, 1) := by decide +kernel
theorem dX7_takes_10 : decode cX7_takes 10 = .ok (.aload_n 0, 1) := by decide +kernel
theorem dX7_takes_11 : decode cX7_takes 11 = .ok (.getfield 16, 3) := by decide +kernel
theorem dX7_takes_14 : decode cX7_takes 14 = .ok (.bipush 64, 2) := by decide +kernel
theorem dX7_takes_16 : decode cX7_takes 16 = .ok (.iload_n 1, 1) := by decide +kernel
theorem dX7_takes_17 : decode cX7_takes 17 = .ok (.imul, 1) := by decide +kernel
theorem dX7_takes_18 : decode cX7_takes 18 = .ok (.aload_n 0, 1) := by decide +kernel
theorem dX7_takes_19 : decode cX7_takes 19 = .ok (.getfield 19, 3) := by decide +kernel
theorem dX7_takes_22 : decode cX7_takes 22 = .ok (.iload_n 1, 1) := by decide +kernel
theorem dX7_takes_23 : decode cX7_takes 23 = .ok (.iaload, 1) := by decide +kernel
theorem dX7_takes_24 : decode cX7_takes 24 = .ok (.iadd, 1) := by decide +kernel
theorem dX7_takes_25 : decode cX7_takes 25 = .ok (.iaload, 1) := by decide +kernel
theorem dX7_takes_26 : decode cX7_takes 26 = .ok (.ireturn, 1) := by decide +kernel
theorem dX7_becomes_0 : decode cX7_becomes 0 = .ok (.aload_n 0, 1) := by decide +kernel
theorem dX7_becomes_1 : decode cX7_becomes 1 = .ok (.getfield 19, 3) := by decide +kernel
theorem dX7_becomes_4 : decode cX7_becomes 4 = .ok (.iload_n 1, 1) := by decide +kernel
theorem dX7_becomes_5 : decode cX7_becomes 5 = .ok (.aload_n 0, 1) := by decide +kernel
theorem dX7_becomes_6 : decode cX7_becomes 6 = .ok (.getfield 19, 3) := by decide +kernel
theorem dX7_becomes_9 : decode cX7_becomes 9 = .ok (.iload_n 2, 1) := by decide +kernel
theorem dX7_becomes_10 : decode cX7_becomes 10 = .ok (.iaload, 1) := by decide +kernel
theorem dX7_becomes_11 : decode cX7_becomes 11 = .ok (.iastore, 1) := by decide +kernel
theorem dX7_becomes_12 : decode cX7_becomes 12 = .ok (.iconst 0, 1) := by decide +kernel
theorem dX7_becomes_13 : decode cX7_becomes 13 = .ok (.istore_n 3, 1) := by decide +kernel
theorem dX7_becomes_14 : decode cX7_becomes 14 = .ok (.iload_n 3, 1) := by decide +kernel
theorem dX7_becomes_15 : decode cX7_becomes 15 = .ok (.aload_n 0, 1) := by decide +kernel
theorem dX7_becomes_16 : decode cX7_becomes 16 = .ok (.getfield 19, 3) := by decide +kernel
theorem dX7_becomes_19 : decode cX7_becomes 19 = .ok (.iload_n 2, 1) := by decide +kernel
theorem dX7_becomes_20 : decode cX7_becomes 20 = .ok (.iaload, 1) := by decide +kernel
theorem dX7_becomes_21 : decode cX7_becomes 21 = .ok (.if_icmp .ge 31, 3) := by decide +kernel
theorem dX7_becomes_24 : decode cX7_becomes 24 = .ok (.aload_n 0, 1) := by decide +kernel
theorem dX7_becomes_25 : decode cX7_becomes 25 = .ok (.getfield 16, 3) := by decide +kernel
theorem dX7_becomes_28 : decode cX7_becomes 28 = .ok (.bipush 64, 2) := by decide +kernel
theorem dX7_becomes_30 : decode cX7_becomes 30 = .ok (.iload_n 1, 1) := by decide +kernel
theorem dX7_becomes_31 : decode cX7_becomes 31 = .ok (.imul, 1) := by decide +kernel
theorem dX7_becomes_32 : decode cX7_becomes 32 = .ok (.iload_n 3, 1) := by decide +kernel
theorem dX7_becomes_33 : decode cX7_becomes 33 = .ok (.iadd, 1) := by decide +kernel
theorem dX7_becomes_34 : decode cX7_becomes 34 = .ok (.aload_n 0, 1) := by decide +kernel
theorem dX7_becomes_35 : decode cX7_becomes 35 = .ok (.getfield 16, 3) := by decide +kernel
theorem dX7_becomes_38 : decode cX7_becomes 38 = .ok (.bipush 64, 2) := by decide +kernel
theorem dX7_becomes_40 : decode cX7_becomes 40 = .ok (.iload_n 2, 1) := by decide +kernel
theorem dX7_becomes_41 : decode cX7_becomes 41 = .ok (.imul, 1) := by decide +kernel
theorem dX7_becomes_42 : decode cX7_becomes 42 = .ok (.iload_n 3, 1) := by decide +kernel
theorem dX7_becomes_43 : decode cX7_becomes 43 = .ok (.iadd, 1) := by decide +kernel
theorem dX7_becomes_44 : decode cX7_becomes 44 = .ok (.iaload, 1) := by decide +kernel
theorem dX7_becomes_45 : decode cX7_becomes 45 = .ok (.iastore, 1) := by decide +kernel
theorem dX7_becomes_46 : decode cX7_becomes 46 = .ok (.iinc 3 1, 3) := by decide +kernel
theorem dX7_becomes_49 : decode cX7_becomes 49 = .ok (.goto (-35), 3) := by decide +kernel
theorem dX7_becomes_52 : decode cX7_becomes 52 = .ok (.return_, 1) := by decide +kernel
theorem dX7_laysEmpty_0 : decode cX7_laysEmpty 0 = .ok (.iconst 0, 1) := by decide +kernel
theorem dX7_laysEmpty_1 : decode cX7_laysEmpty 1 = .ok (.istore_n 1, 1) := by decide +kernel
theorem dX7_laysEmpty_2 : decode cX7_laysEmpty 2 = .ok (.iload_n 1, 1) := by decide +kernel
theorem dX7_laysEmpty_3 : decode cX7_laysEmpty 3 = .ok (.bipush 6, 2) := by decide +kernel
theorem dX7_laysEmpty_5 : decode cX7_laysEmpty 5 = .ok (.if_icmp .ge 16, 3) := by decide +kernel
theorem dX7_laysEmpty_8 : decode cX7_laysEmpty 8 = .ok (.aload_n 0, 1) := by decide +kernel
theorem dX7_laysEmpty_9 : decode cX7_laysEmpty 9 = .ok (.getfield 19, 3) := by decide +kernel
theorem dX7_laysEmpty_12 : decode cX7_laysEmpty 12 = .ok (.iload_n 1, 1) := by decide +kernel
theorem dX7_laysEmpty_13 : decode cX7_laysEmpty 13 = .ok (.iconst 0, 1) := by decide +kernel
theorem dX7_laysEmpty_14 : decode cX7_laysEmpty 14 = .ok (.iastore, 1) := by decide +kernel
theorem dX7_laysEmpty_15 : decode cX7_laysEmpty 15 = .ok (.iinc 1 1, 3) := by decide +kernel
theorem dX7_laysEmpty_18 : decode cX7_laysEmpty 18 = .ok (.goto (-16), 3) := by decide +kernel
theorem dX7_laysEmpty_21 : decode cX7_laysEmpty 21 = .ok (.aload_n 0, 1) := by decide +kernel
theorem dX7_laysEmpty_22 : decode cX7_laysEmpty 22 = .ok (.iconst 0, 1) := by decide +kernel
theorem dX7_laysEmpty_23 : decode cX7_laysEmpty 23 = .ok (.putfield 73, 3) := by decide +kernel
theorem dX7_laysEmpty_26 : decode cX7_laysEmpty 26 = .ok (.aload_n 0, 1) := by decide +kernel
theorem dX7_laysEmpty_27 : decode cX7_laysEmpty 27 = .ok (.iconst 0, 1) := by decide +kernel
theorem dX7_laysEmpty_28 : decode cX7_laysEmpty 28 = .ok (.putfield 76, 3) := by decide +kernel
theorem dX7_laysEmpty_31 : decode cX7_laysEmpty 31 = .ok (.aload_n 0, 1) := by decide +kernel
theorem dX7_laysEmpty_32 : decode cX7_laysEmpty 32 = .ok (.iconst 0, 1) := by decide +kernel
theorem dX7_laysEmpty_33 : decode cX7_laysEmpty 33 = .ok (.putfield 79, 3) := by decide +kernel
theorem dX7_laysEmpty_36 : decode cX7_laysEmpty 36 = .ok (.aload_n 0, 1) := by decide +kernel
theorem dX7_laysEmpty_37 : decode cX7_laysEmpty 37 = .ok (.iconst 0, 1) := by decide +kernel
theorem dX7_laysEmpty_38 : decode cX7_laysEmpty 38 = .ok (.putfield 82, 3) := by decide +kernel
theorem dX7_laysEmpty_41 : decode cX7_laysEmpty 41 = .ok (.aload_n 0, 1) := by decide +kernel
theorem dX7_laysEmpty_42 : decode cX7_laysEmpty 42 = .ok (.iconst 0, 1) := by decide +kernel
theorem dX7_laysEmpty_43 : decode cX7_laysEmpty 43 = .ok (.putfield 85, 3) := by decide +kernel
theorem dX7_laysEmpty_46 : decode cX7_laysEmpty 46 = .ok (.return_, 1) := by decide +kernel
theorem dX7_isStep_0 : decode cX7_isStep 0 = .ok (.aload_n 0, 1) := by decide +kernel
theorem dX7_isStep_1 : decode cX7_isStep 1 = .ok (.getfield 79, 3) := by decide +kernel
theorem dX7_isStep_4 : decode cX7_isStep 4 = .ok (.iconst 1, 1) := by decide +kernel
theorem dX7_isStep_5 : decode cX7_isStep 5 = .ok (.if_icmp .ne 53, 3) := by decide +kernel
theorem dX7_isStep_8 : decode cX7_isStep 8 = .ok (.aload_n 0, 1) := by decide +kernel
theorem dX7_isStep_9 : decode cX7_isStep 9 = .ok (.getfield 19, 3) := by decide +kernel
theorem dX7_isStep_12 : decode cX7_isStep 12 = .ok (.iconst 2, 1) := by decide +kernel
theorem dX7_isStep_13 : decode cX7_isStep 13 = .ok (.iaload, 1) := by decide +kernel
theorem dX7_isStep_14 : decode cX7_isStep 14 = .ok (.ifCond .le 44, 3) := by decide +kernel
theorem dX7_isStep_17 : decode cX7_isStep 17 = .ok (.aload_n 0, 1) := by decide +kernel
theorem dX7_isStep_18 : decode cX7_isStep 18 = .ok (.getfield 19, 3) := by decide +kernel
theorem dX7_isStep_21 : decode cX7_isStep 21 = .ok (.iconst 4, 1) := by decide +kernel
theorem dX7_isStep_22 : decode cX7_isStep 22 = .ok (.iaload, 1) := by decide +kernel
theorem dX7_isStep_23 : decode cX7_isStep 23 = .ok (.ifCond .le 35, 3) := by decide +kernel
theorem dX7_isStep_26 : decode cX7_isStep 26 = .ok (.aload_n 0, 1) := by decide +kernel
theorem dX7_isStep_27 : decode cX7_isStep 27 = .ok (.iconst 3, 1) := by decide +kernel
theorem dX7_isStep_28 : decode cX7_isStep 28 = .ok (.aload_n 0, 1) := by decide +kernel
theorem dX7_isStep_29 : decode cX7_isStep 29 = .ok (.iconst 2, 1) := by decide +kernel
theorem dX7_isStep_30 : decode cX7_isStep 30 = .ok (.invokevirtual 88, 3) := by decide +kernel
theorem dX7_isStep_33 : decode cX7_isStep 33 = .ok (.invokevirtual 91, 3) := by decide +kernel
theorem dX7_isStep_36 : decode cX7_isStep 36 = .ok (.aload_n 0, 1) := by decide +kernel
theorem dX7_isStep_37 : decode cX7_isStep 37 = .ok (.iconst 5, 1) := by decide +kernel
theorem dX7_isStep_38 : decode cX7_isStep 38 = .ok (.aload_n 0, 1) := by decide +kernel
theorem dX7_isStep_39 : decode cX7_isStep 39 = .ok (.iconst 4, 1) := by decide +kernel
theorem dX7_isStep_40 : decode cX7_isStep 40 = .ok (.invokevirtual 88, 3) := by decide +kernel
theorem dX7_isStep_43 : decode cX7_isStep 43 = .ok (.invokevirtual 91, 3) := by decide +kernel
theorem dX7_isStep_46 : decode cX7_isStep 46 = .ok (.aload_n 0, 1) := by decide +kernel
theorem dX7_isStep_47 : decode cX7_isStep 47 = .ok (.dup, 1) := by decide +kernel
theorem dX7_isStep_48 : decode cX7_isStep 48 = .ok (.getfield 82, 3) := by decide +kernel
theorem dX7_isStep_51 : decode cX7_isStep 51 = .ok (.iconst 1, 1) := by decide +kernel
theorem dX7_isStep_52 : decode cX7_isStep 52 = .ok (.iadd, 1) := by decide +kernel
theorem dX7_isStep_53 : decode cX7_isStep 53 = .ok (.putfield 82, 3) := by decide +kernel
theorem dX7_isStep_56 : decode cX7_isStep 56 = .ok (.iconst 1, 1) := by decide +kernel
theorem dX7_isStep_57 : decode cX7_isStep 57 = .ok (.ireturn, 1) := by decide +kernel
theorem dX7_isStep_58 : decode cX7_isStep 58 = .ok (.aload_n 0, 1) := by decide +kernel
theorem dX7_isStep_59 : decode cX7_isStep 59 = .ok (.getfield 79, 3) := by decide +kernel
theorem dX7_isStep_62 : decode cX7_isStep 62 = .ok (.iconst 1, 1) := by decide +kernel
theorem dX7_isStep_63 : decode cX7_isStep 63 = .ok (.if_icmp .ne 39, 3) := by decide +kernel
theorem dX7_isStep_66 : decode cX7_isStep 66 = .ok (.aload_n 0, 1) := by decide +kernel
theorem dX7_isStep_67 : decode cX7_isStep 67 = .ok (.getfield 19, 3) := by decide +kernel
theorem dX7_isStep_70 : decode cX7_isStep 70 = .ok (.iconst 2, 1) := by decide +kernel
theorem dX7_isStep_71 : decode cX7_isStep 71 = .ok (.iaload, 1) := by decide +kernel
theorem dX7_isStep_72 : decode cX7_isStep 72 = .ok (.ifCond .ne 30, 3) := by decide +kernel
theorem dX7_isStep_75 : decode cX7_isStep 75 = .ok (.aload_n 0, 1) := by decide +kernel
theorem dX7_isStep_76 : decode cX7_isStep 76 = .ok (.getfield 19, 3) := by decide +kernel
theorem dX7_isStep_79 : decode cX7_isStep 79 = .ok (.iconst 4, 1) := by decide +kernel
theorem dX7_isStep_80 : decode cX7_isStep 80 = .ok (.iaload, 1) := by decide +kernel
theorem dX7_isStep_81 : decode cX7_isStep 81 = .ok (.iconst 1, 1) := by decide +kernel
theorem dX7_isStep_82 : decode cX7_isStep 82 = .ok (.if_icmp .ne 20, 3) := by decide +kernel
theorem dX7_isStep_85 : decode cX7_isStep 85 = .ok (.aload_n 0, 1) := by decide +kernel
theorem dX7_isStep_86 : decode cX7_isStep 86 = .ok (.iconst 5, 1) := by decide +kernel
theorem dX7_isStep_87 : decode cX7_isStep 87 = .ok (.aload_n 0, 1) := by decide +kernel
theorem dX7_isStep_88 : decode cX7_isStep 88 = .ok (.iconst 4, 1) := by decide +kernel
theorem dX7_isStep_89 : decode cX7_isStep 89 = .ok (.invokevirtual 88, 3) := by decide +kernel
theorem dX7_isStep_92 : decode cX7_isStep 92 = .ok (.invokevirtual 91, 3) := by decide +kernel
theorem dX7_isStep_95 : decode cX7_isStep 95 = .ok (.aload_n 0, 1) := by decide +kernel
theorem dX7_isStep_96 : decode cX7_isStep 96 = .ok (.iconst 2, 1) := by decide +kernel
theorem dX7_isStep_97 : decode cX7_isStep 97 = .ok (.putfield 79, 3) := by decide +kernel
theorem dX7_isStep_100 : decode cX7_isStep 100 = .ok (.iconst 1, 1) := by decide +kernel
theorem dX7_isStep_101 : decode cX7_isStep 101 = .ok (.ireturn, 1) := by decide +kernel
theorem dX7_isStep_102 : decode cX7_isStep 102 = .ok (.aload_n 0, 1) := by decide +kernel
theorem dX7_isStep_103 : decode cX7_isStep 103 = .ok (.getfield 79, 3) := by decide +kernel
theorem dX7_isStep_106 : decode cX7_isStep 106 = .ok (.iconst 2, 1) := by decide +kernel
theorem dX7_isStep_107 : decode cX7_isStep 107 = .ok (.if_icmp .eq 5, 3) := by decide +kernel
theorem dX7_isStep_110 : decode cX7_isStep 110 = .ok (.iconst 0, 1) := by decide +kernel
theorem dX7_isStep_111 : decode cX7_isStep 111 = .ok (.ireturn, 1) := by decide +kernel
theorem dX7_isStep_112 : decode cX7_isStep 112 = .ok (.aload_n 0, 1) := by decide +kernel
theorem dX7_isStep_113 : decode cX7_isStep 113 = .ok (.getfield 82, 3) := by decide +kernel
theorem dX7_isStep_116 : decode cX7_isStep 116 = .ok (.ifCond .ne 11, 3) := by decide +kernel
theorem dX7_isStep_119 : decode cX7_isStep 119 = .ok (.aload_n 0, 1) := by decide +kernel
theorem dX7_isStep_120 : decode cX7_isStep 120 = .ok (.iconst 3, 1) := by decide +kernel
theorem dX7_isStep_121 : decode cX7_isStep 121 = .ok (.putfield 79, 3) := by decide +kernel
theorem dX7_isStep_124 : decode cX7_isStep 124 = .ok (.goto 23, 3) := by decide +kernel
theorem dX7_isStep_127 : decode cX7_isStep 127 = .ok (.aload_n 0, 1) := by decide +kernel
theorem dX7_isStep_128 : decode cX7_isStep 128 = .ok (.iconst 5, 1) := by decide +kernel
theorem dX7_isStep_129 : decode cX7_isStep 129 = .ok (.aload_n 0, 1) := by decide +kernel
theorem dX7_isStep_130 : decode cX7_isStep 130 = .ok (.iconst 3, 1) := by decide +kernel
theorem dX7_isStep_131 : decode cX7_isStep 131 = .ok (.invokevirtual 88, 3) := by decide +kernel
theorem dX7_isStep_134 : decode cX7_isStep 134 = .ok (.invokevirtual 91, 3) := by decide +kernel
theorem dX7_isStep_137 : decode cX7_isStep 137 = .ok (.aload_n 0, 1) := by decide +kernel
theorem dX7_isStep_138 : decode cX7_isStep 138 = .ok (.dup, 1) := by decide +kernel
theorem dX7_isStep_139 : decode cX7_isStep 139 = .ok (.getfield 82, 3) := by decide +kernel
theorem dX7_isStep_142 : decode cX7_isStep 142 = .ok (.iconst 1, 1) := by decide +kernel
theorem dX7_isStep_143 : decode cX7_isStep 143 = .ok (.isub, 1) := by decide +kernel
theorem dX7_isStep_144 : decode cX7_isStep 144 = .ok (.putfield 82, 3) := by decide +kernel
theorem dX7_isStep_147 : decode cX7_isStep 147 = .ok (.iconst 1, 1) := by decide +kernel
theorem dX7_isStep_148 : decode cX7_isStep 148 = .ok (.ireturn, 1) := by decide +kernel
theorem dX7_settles_0 : decode cX7_settles 0 = .ok (.aload_n 0, 1) := by decide +kernel
theorem dX7_settles_1 : decode cX7_settles 1 = .ok (.getfield 76, 3) := by decide +kernel
theorem dX7_settles_4 : decode cX7_settles 4 = .ok (.aload_n 0, 1) := by decide +kernel
theorem dX7_settles_5 : decode cX7_settles 5 = .ok (.getfield 73, 3) := by decide +kernel
theorem dX7_settles_8 : decode cX7_settles 8 = .ok (.if_icmp .le 64, 3) := by decide +kernel
theorem dX7_settles_11 : decode cX7_settles 11 = .ok (.aload_n 0, 1) := by decide +kernel
theorem dX7_settles_12 : decode cX7_settles 12 = .ok (.iconst 1, 1) := by decide +kernel
theorem dX7_settles_13 : decode cX7_settles 13 = .ok (.putfield 79, 3) := by decide +kernel
theorem dX7_settles_16 : decode cX7_settles 16 = .ok (.aload_n 0, 1) := by decide +kernel
theorem dX7_settles_17 : decode cX7_settles 17 = .ok (.iconst 0, 1) := by decide +kernel
theorem dX7_settles_18 : decode cX7_settles 18 = .ok (.putfield 82, 3) := by decide +kernel
theorem dX7_settles_21 : decode cX7_settles 21 = .ok (.aload_n 0, 1) := by decide +kernel
theorem dX7_settles_22 : decode cX7_settles 22 = .ok (.iconst 2, 1) := by decide +kernel
theorem dX7_settles_23 : decode cX7_settles 23 = .ok (.iconst 0, 1) := by decide +kernel
theorem dX7_settles_24 : decode cX7_settles 24 = .ok (.invokevirtual 94, 3) := by decide +kernel
theorem dX7_settles_27 : decode cX7_settles 27 = .ok (.aload_n 0, 1) := by decide +kernel
theorem dX7_settles_28 : decode cX7_settles 28 = .ok (.iconst 4, 1) := by decide +kernel
theorem dX7_settles_29 : decode cX7_settles 29 = .ok (.iconst 1, 1) := by decide +kernel
theorem dX7_settles_30 : decode cX7_settles 30 = .ok (.invokevirtual 94, 3) := by decide +kernel
theorem dX7_settles_33 : decode cX7_settles 33 = .ok (.aload_n 0, 1) := by decide +kernel
theorem dX7_settles_34 : decode cX7_settles 34 = .ok (.getfield 19, 3) := by decide +kernel
theorem dX7_settles_37 : decode cX7_settles 37 = .ok (.iconst 3, 1) := by decide +kernel
theorem dX7_settles_38 : decode cX7_settles 38 = .ok (.iconst 0, 1) := by decide +kernel
theorem dX7_settles_39 : decode cX7_settles 39 = .ok (.iastore, 1) := by decide +kernel
theorem dX7_settles_40 : decode cX7_settles 40 = .ok (.aload_n 0, 1) := by decide +kernel
theorem dX7_settles_41 : decode cX7_settles 41 = .ok (.getfield 19, 3) := by decide +kernel
theorem dX7_settles_44 : decode cX7_settles 44 = .ok (.iconst 5, 1) := by decide +kernel
theorem dX7_settles_45 : decode cX7_settles 45 = .ok (.iconst 0, 1) := by decide +kernel
theorem dX7_settles_46 : decode cX7_settles 46 = .ok (.iastore, 1) := by decide +kernel
theorem dX7_settles_47 : decode cX7_settles 47 = .ok (.aload_n 0, 1) := by decide +kernel
theorem dX7_settles_48 : decode cX7_settles 48 = .ok (.getfield 19, 3) := by decide +kernel
theorem dX7_settles_51 : decode cX7_settles 51 = .ok (.iconst 1, 1) := by decide +kernel
theorem dX7_settles_52 : decode cX7_settles 52 = .ok (.iconst 0, 1) := by decide +kernel
theorem dX7_settles_53 : decode cX7_settles 53 = .ok (.iastore, 1) := by decide +kernel
theorem dX7_settles_54 : decode cX7_settles 54 = .ok (.aload_n 0, 1) := by decide +kernel
theorem dX7_settles_55 : decode cX7_settles 55 = .ok (.dup, 1) := by decide +kernel
theorem dX7_settles_56 : decode cX7_settles 56 = .ok (.getfield 73, 3) := by decide +kernel
theorem dX7_settles_59 : decode cX7_settles 59 = .ok (.aload_n 0, 1) := by decide +kernel
theorem dX7_settles_60 : decode cX7_settles 60 = .ok (.getfield 76, 3) := by decide +kernel
theorem dX7_settles_63 : decode cX7_settles 63 = .ok (.iadd, 1) := by decide +kernel
theorem dX7_settles_64 : decode cX7_settles 64 = .ok (.putfield 73, 3) := by decide +kernel
theorem dX7_settles_67 : decode cX7_settles 67 = .ok (.aload_n 0, 1) := by decide +kernel
theorem dX7_settles_68 : decode cX7_settles 68 = .ok (.iconst 0, 1) := by decide +kernel
theorem dX7_settles_69 : decode cX7_settles 69 = .ok (.putfield 76, 3) := by decide +kernel
theorem dX7_settles_72 : decode cX7_settles 72 = .ok (.aload_n 0, 1) := by decide +kernel
theorem dX7_settles_73 : decode cX7_settles 73 = .ok (.iconst 0, 1) := by decide +kernel
theorem dX7_settles_74 : decode cX7_settles 74 = .ok (.putfield 85, 3) := by decide +kernel
theorem dX7_settles_77 : decode cX7_settles 77 = .ok (.aload_n 0, 1) := by decide +kernel
theorem dX7_settles_78 : decode cX7_settles 78 = .ok (.getfield 85, 3) := by decide +kernel
theorem dX7_settles_81 : decode cX7_settles 81 = .ok (.iload_n 1, 1) := by decide +kernel
theorem dX7_settles_82 : decode cX7_settles 82 = .ok (.if_icmp .ge 23, 3) := by decide +kernel
theorem dX7_settles_85 : decode cX7_settles 85 = .ok (.aload_n 0, 1) := by decide +kernel
theorem dX7_settles_86 : decode cX7_settles 86 = .ok (.invokevirtual 97, 3) := by decide +kernel
theorem dX7_settles_89 : decode cX7_settles 89 = .ok (.ifCond .eq 16, 3) := by decide +kernel
theorem dX7_settles_92 : decode cX7_settles 92 = .ok (.aload_n 0, 1) := by decide +kernel
theorem dX7_settles_93 : decode cX7_settles 93 = .ok (.dup, 1) := by decide +kernel
theorem dX7_settles_94 : decode cX7_settles 94 = .ok (.getfield 85, 3) := by decide +kernel
theorem dX7_settles_97 : decode cX7_settles 97 = .ok (.iconst 1, 1) := by decide +kernel
theorem dX7_settles_98 : decode cX7_settles 98 = .ok (.iadd, 1) := by decide +kernel
theorem dX7_settles_99 : decode cX7_settles 99 = .ok (.putfield 85, 3) := by decide +kernel
theorem dX7_settles_102 : decode cX7_settles 102 = .ok (.goto (-25), 3) := by decide +kernel
theorem dX7_settles_105 : decode cX7_settles 105 = .ok (.aload_n 0, 1) := by decide +kernel
theorem dX7_settles_106 : decode cX7_settles 106 = .ok (.getfield 79, 3) := by decide +kernel
theorem dX7_settles_109 : decode cX7_settles 109 = .ok (.iconst 3, 1) := by decide +kernel
theorem dX7_settles_110 : decode cX7_settles 110 = .ok (.if_icmp .eq 4, 3) := by decide +kernel
theorem dX7_settles_113 : decode cX7_settles 113 = .ok (.return_, 1) := by decide +kernel
theorem dX7_settles_114 : decode cX7_settles 114 = .ok (.aload_n 0, 1) := by decide +kernel
theorem dX7_settles_115 : decode cX7_settles 115 = .ok (.iconst 0, 1) := by decide +kernel
theorem dX7_settles_116 : decode cX7_settles 116 = .ok (.iconst 5, 1) := by decide +kernel
theorem dX7_settles_117 : decode cX7_settles 117 = .ok (.invokevirtual 94, 3) := by decide +kernel
theorem dX7_settles_120 : decode cX7_settles 120 = .ok (.aload_n 0, 1) := by decide +kernel
theorem dX7_settles_121 : decode cX7_settles 121 = .ok (.iconst 0, 1) := by decide +kernel
theorem dX7_settles_122 : decode cX7_settles 122 = .ok (.putfield 79, 3) := by decide +kernel
theorem dX7_settles_125 : decode cX7_settles 125 = .ok (.aload_n 0, 1) := by decide +kernel
theorem dX7_settles_126 : decode cX7_settles 126 = .ok (.iconst 0, 1) := by decide +kernel
theorem dX7_settles_127 : decode cX7_settles 127 = .ok (.putfield 82, 3) := by decide +kernel
theorem dX7_settles_130 : decode cX7_settles 130 = .ok (.iconst 2, 1) := by decide +kernel
theorem dX7_settles_131 : decode cX7_settles 131 = .ok (.istore_n 2, 1) := by decide +kernel
theorem dX7_settles_132 : decode cX7_settles 132 = .ok (.iload_n 2, 1) := by decide +kernel
theorem dX7_settles_133 : decode cX7_settles 133 = .ok (.bipush 6, 2) := by decide +kernel
theorem dX7_settles_135 : decode cX7_settles 135 = .ok (.if_icmp .ge 16, 3) := by decide +kernel
theorem dX7_settles_138 : decode cX7_settles 138 = .ok (.aload_n 0, 1) := by decide +kernel
theorem dX7_settles_139 : decode cX7_settles 139 = .ok (.getfield 19, 3) := by decide +kernel
theorem dX7_settles_142 : decode cX7_settles 142 = .ok (.iload_n 2, 1) := by decide +kernel
theorem dX7_settles_143 : decode cX7_settles 143 = .ok (.iconst 0, 1) := by decide +kernel
theorem dX7_settles_144 : decode cX7_settles 144 = .ok (.iastore, 1) := by decide +kernel
theorem dX7_settles_145 : decode cX7_settles 145 = .ok (.iinc 2 1, 3) := by decide +kernel
theorem dX7_settles_148 : decode cX7_settles 148 = .ok (.goto (-16), 3) := by decide +kernel
theorem dX7_settles_151 : decode cX7_settles 151 = .ok (.return_, 1) := by decide +kernel
theorem dX7_pushes_0 : decode cX7_pushes 0 = .ok (.aload_n 0, 1) := by decide +kernel
theorem dX7_pushes_1 : decode cX7_pushes 1 = .ok (.iconst 1, 1) := by decide +kernel
theorem dX7_pushes_2 : decode cX7_pushes 2 = .ok (.iload_n 1, 1) := by decide +kernel
theorem dX7_pushes_3 : decode cX7_pushes 3 = .ok (.invokevirtual 91, 3) := by decide +kernel
theorem dX7_pushes_6 : decode cX7_pushes 6 = .ok (.aload_n 0, 1) := by decide +kernel
theorem dX7_pushes_7 : decode cX7_pushes 7 = .ok (.dup, 1) := by decide +kernel
theorem dX7_pushes_8 : decode cX7_pushes 8 = .ok (.getfield 76, 3) := by decide +kernel
theorem dX7_pushes_11 : decode cX7_pushes 11 = .ok (.iconst 1, 1) := by decide +kernel
theorem dX7_pushes_12 : decode cX7_pushes 12 = .ok (.iadd, 1) := by decide +kernel
theorem dX7_pushes_13 : decode cX7_pushes 13 = .ok (.putfield 76, 3) := by decide +kernel
theorem dX7_pushes_16 : decode cX7_pushes 16 = .ok (.aload_n 0, 1) := by decide +kernel
theorem dX7_pushes_17 : decode cX7_pushes 17 = .ok (.iload_n 2, 1) := by decide +kernel
theorem dX7_pushes_18 : decode cX7_pushes 18 = .ok (.invokevirtual 101, 3) := by decide +kernel
theorem dX7_pushes_21 : decode cX7_pushes 21 = .ok (.return_, 1) := by decide +kernel
theorem dX7_pops_0 : decode cX7_pops 0 = .ok (.aload_n 0, 1) := by decide +kernel
theorem dX7_pops_1 : decode cX7_pops 1 = .ok (.iconst 0, 1) := by decide +kernel
theorem dX7_pops_2 : decode cX7_pops 2 = .ok (.invokevirtual 88, 3) := by decide +kernel
theorem dX7_pops_5 : decode cX7_pops 5 = .ok (.istore_n 2, 1) := by decide +kernel
theorem dX7_pops_6 : decode cX7_pops 6 = .ok (.aload_n 0, 1) := by decide +kernel
theorem dX7_pops_7 : decode cX7_pops 7 = .ok (.dup, 1) := by decide +kernel
theorem dX7_pops_8 : decode cX7_pops 8 = .ok (.getfield 73, 3) := by decide +kernel
theorem dX7_pops_11 : decode cX7_pops 11 = .ok (.iconst 1, 1) := by decide +kernel
theorem dX7_pops_12 : decode cX7_pops 12 = .ok (.isub, 1) := by decide +kernel
theorem dX7_pops_13 : decode cX7_pops 13 = .ok (.putfield 73, 3) := by decide +kernel
theorem dX7_pops_16 : decode cX7_pops 16 = .ok (.aload_n 0, 1) := by decide +kernel
theorem dX7_pops_17 : decode cX7_pops 17 = .ok (.getfield 79, 3) := by decide +kernel
theorem dX7_pops_20 : decode cX7_pops 20 = .ok (.iconst 1, 1) := by decide +kernel
theorem dX7_pops_21 : decode cX7_pops 21 = .ok (.if_icmp .eq 18, 3) := by decide +kernel
theorem dX7_pops_24 : decode cX7_pops 24 = .ok (.aload_n 0, 1) := by decide +kernel
theorem dX7_pops_25 : decode cX7_pops 25 = .ok (.getfield 79, 3) := by decide +kernel
theorem dX7_pops_28 : decode cX7_pops 28 = .ok (.iconst 2, 1) := by decide +kernel
theorem dX7_pops_29 : decode cX7_pops 29 = .ok (.if_icmp .ne 23, 3) := by decide +kernel
theorem dX7_pops_32 : decode cX7_pops 32 = .ok (.aload_n 0, 1) := by decide +kernel
theorem dX7_pops_33 : decode cX7_pops 33 = .ok (.getfield 82, 3) := by decide +kernel
theorem dX7_pops_36 : decode cX7_pops 36 = .ok (.ifCond .le 16, 3) := by decide +kernel
theorem dX7_pops_39 : decode cX7_pops 39 = .ok (.aload_n 0, 1) := by decide +kernel
theorem dX7_pops_40 : decode cX7_pops 40 = .ok (.dup, 1) := by decide +kernel
theorem dX7_pops_41 : decode cX7_pops 41 = .ok (.getfield 82, 3) := by decide +kernel
theorem dX7_pops_44 : decode cX7_pops 44 = .ok (.iconst 1, 1) := by decide +kernel
theorem dX7_pops_45 : decode cX7_pops 45 = .ok (.isub, 1) := by decide +kernel
theorem dX7_pops_46 : decode cX7_pops 46 = .ok (.putfield 82, 3) := by decide +kernel
theorem dX7_pops_49 : decode cX7_pops 49 = .ok (.goto 37, 3) := by decide +kernel
theorem dX7_pops_52 : decode cX7_pops 52 = .ok (.aload_n 0, 1) := by decide +kernel
theorem dX7_pops_53 : decode cX7_pops 53 = .ok (.getfield 79, 3) := by decide +kernel
theorem dX7_pops_56 : decode cX7_pops 56 = .ok (.iconst 2, 1) := by decide +kernel
theorem dX7_pops_57 : decode cX7_pops 57 = .ok (.if_icmp .ne 29, 3) := by decide +kernel
theorem dX7_pops_60 : decode cX7_pops 60 = .ok (.aload_n 0, 1) := by decide +kernel
theorem dX7_pops_61 : decode cX7_pops 61 = .ok (.iload_n 2, 1) := by decide +kernel
theorem dX7_pops_62 : decode cX7_pops 62 = .ok (.ifCond .lt 7, 3) := by decide +kernel
theorem dX7_pops_65 : decode cX7_pops 65 = .ok (.iconst 3, 1) := by decide +kernel
theorem dX7_pops_66 : decode cX7_pops 66 = .ok (.goto 7, 3) := by decide +kernel
theorem dX7_pops_69 : decode cX7_pops 69 = .ok (.aload_n 0, 1) := by decide +kernel
theorem dX7_pops_70 : decode cX7_pops 70 = .ok (.getfield 79, 3) := by decide +kernel
theorem dX7_pops_73 : decode cX7_pops 73 = .ok (.putfield 79, 3) := by decide +kernel
theorem dX7_pops_76 : decode cX7_pops 76 = .ok (.aload_n 0, 1) := by decide +kernel
theorem dX7_pops_77 : decode cX7_pops 77 = .ok (.getfield 19, 3) := by decide +kernel
theorem dX7_pops_80 : decode cX7_pops 80 = .ok (.iconst 5, 1) := by decide +kernel
theorem dX7_pops_81 : decode cX7_pops 81 = .ok (.dup2, 1) := by decide +kernel
theorem dX7_pops_82 : decode cX7_pops 82 = .ok (.iaload, 1) := by decide +kernel
theorem dX7_pops_83 : decode cX7_pops 83 = .ok (.iconst 1, 1) := by decide +kernel
theorem dX7_pops_84 : decode cX7_pops 84 = .ok (.isub, 1) := by decide +kernel
theorem dX7_pops_85 : decode cX7_pops 85 = .ok (.iastore, 1) := by decide +kernel
theorem dX7_pops_86 : decode cX7_pops 86 = .ok (.aload_n 0, 1) := by decide +kernel
theorem dX7_pops_87 : decode cX7_pops 87 = .ok (.iload_n 1, 1) := by decide +kernel
theorem dX7_pops_88 : decode cX7_pops 88 = .ok (.invokevirtual 101, 3) := by decide +kernel
theorem dX7_pops_91 : decode cX7_pops 91 = .ok (.return_, 1) := by decide +kernel
theorem dX7_laysWay_0 : decode cX7_laysWay 0 = .ok (.aload_n 0, 1) := by decide +kernel
theorem dX7_laysWay_1 : decode cX7_laysWay 1 = .ok (.aload_n 0, 1) := by decide +kernel
theorem dX7_laysWay_2 : decode cX7_laysWay 2 = .ok (.iload_n 1, 1) := by decide +kernel
theorem dX7_laysWay_3 : decode cX7_laysWay 3 = .ok (.iconst 3, 1) := by decide +kernel
theorem dX7_laysWay_4 : decode cX7_laysWay 4 = .ok (.invokevirtual 105, 3) := by decide +kernel
theorem dX7_laysWay_7 : decode cX7_laysWay 7 = .ok (.putfield 109, 3) := by decide +kernel
theorem dX7_laysWay_10 : decode cX7_laysWay 10 = .ok (.iload_n 1, 1) := by decide +kernel
theorem dX7_laysWay_11 : decode cX7_laysWay 11 = .ok (.istore_n 2, 1) := by decide +kernel
theorem dX7_laysWay_12 : decode cX7_laysWay 12 = .ok (.aload_n 0, 1) := by decide +kernel
theorem dX7_laysWay_13 : decode cX7_laysWay 13 = .ok (.getfield 109, 3) := by decide +kernel
theorem dX7_laysWay_16 : decode cX7_laysWay 16 = .ok (.iconst 1, 1) := by decide +kernel
theorem dX7_laysWay_17 : decode cX7_laysWay 17 = .ok (.isub, 1) := by decide +kernel
theorem dX7_laysWay_18 : decode cX7_laysWay 18 = .ok (.istore_n 3, 1) := by decide +kernel
theorem dX7_laysWay_19 : decode cX7_laysWay 19 = .ok (.iload_n 3, 1) := by decide +kernel
theorem dX7_laysWay_20 : decode cX7_laysWay 20 = .ok (.ifCond .lt 23, 3) := by decide +kernel
theorem dX7_laysWay_23 : decode cX7_laysWay 23 = .ok (.aload_n 0, 1) := by decide +kernel
theorem dX7_laysWay_24 : decode cX7_laysWay 24 = .ok (.getfield 22, 3) := by decide +kernel
theorem dX7_laysWay_27 : decode cX7_laysWay 27 = .ok (.iload_n 3, 1) := by decide +kernel
theorem dX7_laysWay_28 : decode cX7_laysWay 28 = .ok (.iload_n 2, 1) := by decide +kernel
theorem dX7_laysWay_29 : decode cX7_laysWay 29 = .ok (.iastore, 1) := by decide +kernel
theorem dX7_laysWay_30 : decode cX7_laysWay 30 = .ok (.aload_n 0, 1) := by decide +kernel
theorem dX7_laysWay_31 : decode cX7_laysWay 31 = .ok (.iload_n 2, 1) := by decide +kernel
theorem dX7_laysWay_32 : decode cX7_laysWay 32 = .ok (.iconst 0, 1) := by decide +kernel
theorem dX7_laysWay_33 : decode cX7_laysWay 33 = .ok (.invokevirtual 105, 3) := by decide +kernel
theorem dX7_laysWay_36 : decode cX7_laysWay 36 = .ok (.istore_n 2, 1) := by decide +kernel
theorem dX7_laysWay_37 : decode cX7_laysWay 37 = .ok (.iinc 3 (-1), 3) := by decide +kernel
theorem dX7_laysWay_40 : decode cX7_laysWay 40 = .ok (.goto (-21), 3) := by decide +kernel
theorem dX7_laysWay_43 : decode cX7_laysWay 43 = .ok (.return_, 1) := by decide +kernel
theorem dX7_lays_0 : decode cX7_lays 0 = .ok (.aload_n 0, 1) := by decide +kernel
theorem dX7_lays_1 : decode cX7_lays 1 = .ok (.iload_n 1, 1) := by decide +kernel
theorem dX7_lays_2 : decode cX7_lays 2 = .ok (.invokevirtual 112, 3) := by decide +kernel
theorem dX7_lays_5 : decode cX7_lays 5 = .ok (.aload_n 0, 1) := by decide +kernel
theorem dX7_lays_6 : decode cX7_lays 6 = .ok (.invokevirtual 115, 3) := by decide +kernel
theorem dX7_lays_9 : decode cX7_lays 9 = .ok (.iconst 0, 1) := by decide +kernel
theorem dX7_lays_10 : decode cX7_lays 10 = .ok (.istore_n 2, 1) := by decide +kernel
theorem dX7_lays_11 : decode cX7_lays 11 = .ok (.iload_n 2, 1) := by decide +kernel
theorem dX7_lays_12 : decode cX7_lays 12 = .ok (.aload_n 0, 1) := by decide +kernel
theorem dX7_lays_13 : decode cX7_lays 13 = .ok (.getfield 109, 3) := by decide +kernel
theorem dX7_lays_16 : decode cX7_lays 16 = .ok (.if_icmp .ge 68, 3) := by decide +kernel
theorem dX7_lays_19 : decode cX7_lays 19 = .ok (.aload_n 0, 1) := by decide +kernel
theorem dX7_lays_20 : decode cX7_lays 20 = .ok (.aload_n 0, 1) := by decide +kernel
theorem dX7_lays_21 : decode cX7_lays 21 = .ok (.getfield 22, 3) := by decide +kernel
theorem dX7_lays_24 : decode cX7_lays 24 = .ok (.iload_n 2, 1) := by decide +kernel
theorem dX7_lays_25 : decode cX7_lays 25 = .ok (.iaload, 1) := by decide +kernel
theorem dX7_lays_26 : decode cX7_lays 26 = .ok (.iconst 1, 1) := by decide +kernel
theorem dX7_lays_27 : decode cX7_lays 27 = .ok (.invokevirtual 105, 3) := by decide +kernel
theorem dX7_lays_30 : decode cX7_lays 30 = .ok (.iconst (-1), 1) := by decide +kernel
theorem dX7_lays_31 : decode cX7_lays 31 = .ok (.if_icmp .ne 21, 3) := by decide +kernel
theorem dX7_lays_34 : decode cX7_lays 34 = .ok (.aload_n 0, 1) := by decide +kernel
theorem dX7_lays_35 : decode cX7_lays 35 = .ok (.aload_n 0, 1) := by decide +kernel
theorem dX7_lays_36 : decode cX7_lays 36 = .ok (.aload_n 0, 1) := by decide +kernel
theorem dX7_lays_37 : decode cX7_lays 37 = .ok (.getfield 22, 3) := by decide +kernel
theorem dX7_lays_40 : decode cX7_lays 40 = .ok (.iload_n 2, 1) := by decide +kernel
theorem dX7_lays_41 : decode cX7_lays 41 = .ok (.iaload, 1) := by decide +kernel
theorem dX7_lays_42 : decode cX7_lays 42 = .ok (.iconst 2, 1) := by decide +kernel
theorem dX7_lays_43 : decode cX7_lays 43 = .ok (.invokevirtual 105, 3) := by decide +kernel
